theorem dX6_init_0 : decode cX6_init 0 = .ok (.aload_n 0, 1) := by decide +kernel
theorem dX6_init_1 : decode cX6_init 1 = .ok (.invokespecial 1, 3) := by decide +kernel
theorem dX6_init_4 : decode cX6_init 4 = .ok (.aload_n 0, 1) := by decide +kernel
theorem dX6_init_5 : decode cX6_init 5 = .ok (.sipush 447, 3) := by decide +kernel
theorem dX6_init_8 : decode cX6_init 8 = .ok (.newarray .int, 2) := by decide +kernel
theorem dX6_init_10 : decode cX6_init 10 = .ok (.putfield 7, 3) := by decide +kernel
theorem dX6_init_13 : decode cX6_init 13 = .ok (.aload_n 0, 1) := by decide +kernel
theorem dX6_init_14 : decode cX6_init 14 = .ok (.sipush 447, 3) := by decide +kernel
theorem dX6_init_17 : decode cX6_init 17 = .ok (.newarray .int, 2) := by decide +kernel
theorem dX6_init_19 : decode cX6_init 19 = .ok (.putfield 13, 3) := by decide +kernel
theorem dX6_init_22 : decode cX6_init 22 = .ok (.aload_n 0, 1) := by decide +kernel
theorem dX6_init_23 : decode cX6_init 23 = .ok (.sipush 2682, 3) := by decide +kernel
theorem dX6_init_26 : decode cX6_init 26 = .ok (.newarray .int, 2) := by decide +kernel
theorem dX6_init_28 : decode cX6_init 28 = .ok (.putfield 16, 3) := by decide +kernel
theorem dX6_init_31 : decode cX6_init 31 = .ok (.aload_n 0, 1) := by decide +kernel
theorem dX6_init_32 : decode cX6_init 32 = .ok (.sipush 894, 3) := by decide +kernel
theorem dX6_init_35 : decode cX6_init 35 = .ok (.newarray .int, 2) := by decide +kernel
theorem dX6_init_37 : decode cX6_init 37 = .ok (.putfield 19, 3) := by decide +kernel
theorem dX6_init_40 : decode cX6_init 40 = .ok (.aload_n 0, 1) := by decide +kernel
theorem dX6_init_41 : decode cX6_init 41 = .ok (.iconst 2, 1) := by decide +kernel
theorem dX6_init_42 : decode cX6_init 42 = .ok (.newarray .int, 2) := by decide +kernel
theorem dX6_init_44 : decode cX6_init 44 = .ok (.putfield 22, 3) := by decide +kernel
theorem dX6_init_47 : decode cX6_init 47 = .ok (.aload_n 0, 1) := by decide +kernel
theorem dX6_init_48 : decode cX6_init 48 = .ok (.bipush 80, 2) := by decide +kernel
theorem dX6_init_50 : decode cX6_init 50 = .ok (.newarray .int, 2) := by decide +kernel
theorem dX6_init_52 : decode cX6_init 52 = .ok (.putfield 25, 3) := by decide +kernel
theorem dX6_init_55 : decode cX6_init 55 = .ok (.aload_n 0, 1) := by decide +kernel
theorem dX6_init_56 : decode cX6_init 56 = .ok (.getfield 7, 3) := by decide +kernel
theorem dX6_init_59 : decode cX6_init 59 = .ok (.iconst 2, 1) := by decide +kernel
theorem dX6_init_60 : decode cX6_init 60 = .ok (.iconst 2, 1) := by decide +kernel
theorem dX6_init_61 : decode cX6_init 61 = .ok (.iastore, 1) := by decide +kernel
theorem dX6_init_62 : decode cX6_init 62 = .ok (.aload_n 0, 1) := by decide +kernel
theorem dX6_init_63 : decode cX6_init 63 = .ok (.getfield 7, 3) := by decide +kernel
theorem dX6_init_66 : decode cX6_init 66 = .ok (.iconst 3, 1) := by decide +kernel
theorem dX6_init_67 : decode cX6_init 67 = .ok (.bipush (-20), 2) := by decide +kernel
theorem dX6_init_69 : decode cX6_init 69 = .ok (.iastore, 1) := by decide +kernel
theorem dX6_init_70 : decode cX6_init 70 = .ok (.aload_n 0, 1) := by decide +kernel
theorem dX6_init_71 : decode cX6_init 71 = .ok (.getfield 7, 3) := by decide +kernel
theorem dX6_init_74 : decode cX6_init 74 = .ok (.iconst 4, 1) := by decide +kernel
theorem dX6_init_75 : decode cX6_init 75 = .ok (.bipush 20, 2) := by decide +kernel
theorem dX6_init_77 : decode cX6_init 77 = .ok (.iastore, 1) := by decide +kernel
theorem dX6_init_78 : decode cX6_init 78 = .ok (.aload_n 0, 1) := by decide +kernel
theorem dX6_init_79 : decode cX6_init 79 = .ok (.getfield 7, 3) := by decide +kernel
theorem dX6_init_82 : decode cX6_init 82 = .ok (.iconst 5, 1) := by decide +kernel
theorem dX6_init_83 : decode cX6_init 83 = .ok (.bipush 8, 2) := by decide +kernel
theorem dX6_init_85 : decode cX6_init 85 = .ok (.iastore, 1) := by decide +kernel
theorem dX6_init_86 : decode cX6_init 86 = .ok (.aload_n 0, 1) := by decide +kernel
theorem dX6_init_87 : decode cX6_init 87 = .ok (.getfield 7, 3) := by decide +kernel
theorem dX6_init_90 : decode cX6_init 90 = .ok (.bipush 6, 2) := by decide +kernel
theorem dX6_init_92 : decode cX6_init 92 = .ok (.iconst 2, 1) := by decide +kernel
theorem dX6_init_93 : decode cX6_init 93 = .ok (.iastore, 1) := by decide +kernel
theorem dX6_init_94 : decode cX6_init 94 = .ok (.aload_n 0, 1) := by decide +kernel
theorem dX6_init_95 : decode cX6_init 95 = .ok (.getfield 7, 3) := by decide +kernel
theorem dX6_init_98 : decode cX6_init 98 = .ok (.bipush 7, 2) := by decide +kernel
theorem dX6_init_100 : decode cX6_init 100 = .ok (.iconst 4, 1) := by decide +kernel
theorem dX6_init_101 : decode cX6_init 101 = .ok (.iastore, 1) := by decide +kernel
theorem dX6_init_102 : decode cX6_init 102 = .ok (.aload_n 0, 1) := by decide +kernel
theorem dX6_init_103 : decode cX6_init 103 = .ok (.getfield 7, 3) := by decide +kernel
theorem dX6_init_106 : decode cX6_init 106 = .ok (.bipush 8, 2) := by decide +kernel
theorem dX6_init_108 : decode cX6_init 108 = .ok (.iconst 4, 1) := by decide +kernel
theorem dX6_init_109 : decode cX6_init 109 = .ok (.iastore, 1) := by decide +kernel
theorem dX6_init_110 : decode cX6_init 110 = .ok (.return_, 1) := by decide +kernel
theorem dX6_in_0 : decode cX6_in 0 = .ok (.lload_n 0, 1) := by decide +kernel
theorem dX6_in_1 : decode cX6_in 1 = .ok (.lload_n 2, 1) := by decide +kernel
theorem dX6_in_2 : decode cX6_in 2 = .ok (.lcmp, 1) := by decide +kernel
theorem dX6_in_3 : decode cX6_in 3 = .ok (.ifCond .lt 14, 3) := by decide +kernel
theorem dX6_in_6 : decode cX6_in 6 = .ok (.lload_n 0, 1) := by decide +kernel
theorem dX6_in_7 : decode cX6_in 7 = .ok (.lload 4, 2) := by decide +kernel
theorem dX6_in_9 : decode cX6_in 9 = .ok (.lcmp, 1) := by decide +kernel
theorem dX6_in_10 : decode cX6_in 10 = .ok (.ifCond .gt 7, 3) := by decide +kernel
theorem dX6_in_13 : decode cX6_in 13 = .ok (.iconst 1, 1) := by decide +kernel
theorem dX6_in_14 : decode cX6_in 14 = .ok (.goto 4, 3) := by decide +kernel
theorem dX6_in_17 : decode cX6_in 17 = .ok (.iconst 0, 1) := by decide +kernel
theorem dX6_in_18 : decode cX6_in 18 = .ok (.ireturn, 1) := by decide +kernel
theorem dX6_keep_0 : decode cX6_keep 0 = .ok (.iconst 0, 1) := by decide +kernel
theorem dX6_keep_1 : decode cX6_keep 1 = .ok (.istore_n 1, 1) := by decide +kernel
theorem dX6_keep_2 : decode cX6_keep 2 = .ok (.iload_n 1, 1) := by decide +kernel
theorem dX6_keep_3 : decode cX6_keep 3 = .ok (.sipush 447, 3) := by decide +kernel
theorem dX6_keep_6 : decode cX6_keep 6 = .ok (.if_icmp .ge 21, 3) := by decide +kernel
theorem dX6_keep_9 : decode cX6_keep 9 = .ok (.aload_n 0, 1) := by decide +kernel
theorem dX6_keep_10 : decode cX6_keep 10 = .ok (.getfield 13, 3) := by decide +kernel
theorem dX6_keep_13 : decode cX6_keep 13 = .ok (.iload_n 1, 1) := by decide +kernel
theorem dX6_keep_14 : decode cX6_keep 14 = .ok (.aload_n 0, 1) := by decide +kernel
theorem dX6_keep_15 : decode cX6_keep 15 = .ok (.getfield 7, 3) := by decide +kernel
theorem dX6_keep_18 : decode cX6_keep 18 = .ok (.iload_n 1, 1) := by decide +kernel
theorem dX6_keep_19 : decode cX6_keep 19 = .ok (.iaload, 1) := by decide +kernel
theorem dX6_keep_20 : decode cX6_keep 20 = .ok (.iastore, 1) := by decide +kernel
theorem dX6_keep_21 : decode cX6_keep 21 = .ok (.iinc 1 1, 3) := by decide +kernel
theorem dX6_keep_24 : decode cX6_keep 24 = .ok (.goto (-22), 3) := by decide +kernel
theorem dX6_keep_27 : decode cX6_keep 27 = .ok (.return_, 1) := by decide +kernel
theorem dX6_changed_0 : decode cX6_changed 0 = .ok (.aload_n 0, 1) := by decide +kernel
theorem dX6_changed_1 : decode cX6_changed 1 = .ok (.getfield 28, 3) := by decide +kernel
theorem dX6_changed_4 : decode cX6_changed 4 = .ok (.bipush 6, 2) := by decide +kernel
theorem dX6_changed_6 : decode cX6_changed 6 = .ok (.if_icmp .ne 44, 3) := by decide +kernel
theorem dX6_changed_9 : decode cX6_changed 9 = .ok (.iconst 0, 1) := by decide +kernel
theorem dX6_changed_10 : decode cX6_changed 10 = .ok (.istore_n 2, 1) := by decide +kernel
theorem dX6_changed_11 : decode cX6_changed 11 = .ok (.iload_n 2, 1) := by decide +kernel
theorem dX6_changed_12 : decode cX6_changed 12 = .ok (.sipush 2235, 3) := by decide +kernel
theorem dX6_changed_15 : decode cX6_changed 15 = .ok (.if_icmp .ge 25, 3) := by decide +kernel
theorem dX6_changed_18 : decode cX6_changed 18 = .ok (.aload_n 0, 1) := by decide +kernel
theorem dX6_changed_19 : decode cX6_changed 19 = .ok (.getfield 16, 3) := by decide +kernel
theorem dX6_changed_22 : decode cX6_changed 22 = .ok (.iload_n 2, 1) := by decide +kernel
theorem dX6_changed_23 : decode cX6_changed 23 = .ok (.aload_n 0, 1) := by decide +kernel
theorem dX6_changed_24 : decode cX6_changed 24 = .ok (.getfield 16, 3) := by decide +kernel
theorem dX6_changed_27 : decode cX6_changed 27 = .ok (.iload_n 2, 1) := by decide +kernel
theorem dX6_changed_28 : decode cX6_changed 28 = .ok (.sipush 447, 3) := by decide +kernel
theorem dX6_changed_31 : decode cX6_changed 31 = .ok (.iadd, 1) := by decide +kernel
theorem dX6_changed_32 : decode cX6_changed 32 = .ok (.iaload, 1) := by decide +kernel
theorem dX6_changed_33 : decode cX6_changed 33 = .ok (.iastore, 1) := by decide +kernel
theorem dX6_changed_34 : decode cX6_changed 34 = .ok (.iinc 2 1, 3) := by decide +kernel
theorem dX6_changed_37 : decode cX6_changed 37 = .ok (.goto (-26), 3) := by decide +kernel
theorem dX6_changed_40 : decode cX6_changed 40 = .ok (.aload_n 0, 1) := by decide +kernel
theorem dX6_changed_41 : decode cX6_changed 41 = .ok (.dup, 1) := by decide +kernel
theorem dX6_changed_42 : decode cX6_changed 42 = .ok (.getfield 28, 3) := by decide +kernel
theorem dX6_changed_45 : decode cX6_changed 45 = .ok (.iconst 1, 1) := by decide +kernel
theorem dX6_changed_46 : decode cX6_changed 46 = .ok (.isub, 1) := by decide +kernel
theorem dX6_changed_47 : decode cX6_changed 47 = .ok (.putfield 28, 3) := by decide +kernel
theorem dX6_changed_50 : decode cX6_changed 50 = .ok (.iconst 0, 1) := by decide +kernel
theorem dX6_changed_51 : decode cX6_changed 51 = .ok (.istore_n 2, 1) := by decide +kernel
theorem dX6_changed_52 : decode cX6_changed 52 = .ok (.iload_n 2, 1) := by decide +kernel
theorem dX6_changed_53 : decode cX6_changed 53 = .ok (.sipush 447, 3) := by decide +kernel
theorem dX6_changed_56 : decode cX6_changed 56 = .ok (.if_icmp .ge 30, 3) := by decide +kernel
theorem dX6_changed_59 : decode cX6_changed 59 = .ok (.aload_n 0, 1) := by decide +kernel
theorem dX6_changed_60 : decode cX6_changed 60 = .ok (.getfield 16, 3) := by decide +kernel
theorem dX6_changed_63 : decode cX6_changed 63 = .ok (.sipush 447, 3) := by decide +kernel
theorem dX6_changed_66 : decode cX6_changed 66 = .ok (.aload_n 0, 1) := by decide +kernel
theorem dX6_changed_67 : decode cX6_changed 67 = .ok (.getfield 28, 3) := by decide +kernel
theorem dX6_changed_70 : decode cX6_changed 70 = .ok (.imul, 1) := by decide +kernel
theorem dX6_changed_71 : decode cX6_changed 71 = .ok (.iload_n 2, 1) := by decide +kernel
theorem dX6_changed_72 : decode cX6_changed 72 = .ok (.iadd, 1) := by decide +kernel
theorem dX6_changed_73 : decode cX6_changed 73 = .ok (.aload_n 0, 1) := by decide +kernel
theorem dX6_changed_74 : decode cX6_changed 74 = .ok (.getfield 13, 3) := by decide +kernel
theorem dX6_changed_77 : decode cX6_changed 77 = .ok (.iload_n 2, 1) := by decide +kernel
theorem dX6_changed_78 : decode cX6_changed 78 = .ok (.iaload, 1) := by decide +kernel
theorem dX6_changed_79 : decode cX6_changed 79 = .ok (.iastore, 1) := by decide +kernel
theorem dX6_changed_80 : decode cX6_changed 80 = .ok (.iinc 2 1, 3) := by decide +kernel
theorem dX6_changed_83 : decode cX6_changed 83 = .ok (.goto (-31), 3) := by decide +kernel
theorem dX6_changed_86 : decode cX6_changed 86 = .ok (.aload_n 0, 1) := by decide +kernel
theorem dX6_changed_87 : decode cX6_changed 87 = .ok (.dup, 1) := by decide +kernel
theorem dX6_changed_88 : decode cX6_changed 88 = .ok (.getfield 28, 3) := by decide +kernel
theorem dX6_changed_91 : decode cX6_changed 91 = .ok (.iconst 1, 1) := by decide +kernel
theorem dX6_changed_92 : decode cX6_changed 92 = .ok (.iadd, 1) := by decide +kernel
theorem dX6_changed_93 : decode cX6_changed 93 = .ok (.putfield 28, 3) := by decide +kernel
theorem dX6_changed_96 : decode cX6_changed 96 = .ok (.iload_n 1, 1) := by decide +kernel
theorem dX6_changed_97 : decode cX6_changed 97 = .ok (.ireturn, 1) := by decide +kernel
theorem dX6_isFiring_0 : decode cX6_isFiring 0 = .ok (.aload_n 0, 1) := by decide +kernel
theorem dX6_isFiring_1 : decode cX6_isFiring 1 = .ok (.iload_n 2, 1) := by decide +kernel
theorem dX6_isFiring_2 : decode cX6_isFiring 2 = .ok (.putfield 32, 3) := by decide +kernel
theorem dX6_isFiring_5 : decode cX6_isFiring 5 = .ok (.aload_n 0, 1) := by decide +kernel
theorem dX6_isFiring_6 : decode cX6_isFiring 6 = .ok (.getfield 7, 3) := by decide +kernel
theorem dX6_isFiring_9 : decode cX6_isFiring 9 = .ok (.iconst 0, 1) := by decide +kernel
theorem dX6_isFiring_10 : decode cX6_isFiring 10 = .ok (.iaload, 1) := by decide +kernel
theorem dX6_isFiring_11 : decode cX6_isFiring 11 = .ok (.ifCond .ne 53, 3) := by decide +kernel
theorem dX6_isFiring_14 : decode cX6_isFiring 14 = .ok (.iload_n 2, 1) := by decide +kernel
theorem dX6_isFiring_15 : decode cX6_isFiring 15 = .ok (.iconst 1, 1) := by decide +kernel
theorem dX6_isFiring_16 : decode cX6_isFiring 16 = .ok (.if_icmp .ne 12, 3) := by decide +kernel
theorem dX6_isFiring_19 : decode cX6_isFiring 19 = .ok (.iload_n 1, 1) := by decide +kernel
theorem dX6_isFiring_20 : decode cX6_isFiring 20 = .ok (.iload_n 3, 1) := by decide +kernel
theorem dX6_isFiring_21 : decode cX6_isFiring 21 = .ok (.if_icmp .lt 7, 3) := by decide +kernel
theorem dX6_isFiring_24 : decode cX6_isFiring 24 = .ok (.iconst 1, 1) := by decide +kernel
theorem dX6_isFiring_25 : decode cX6_isFiring 25 = .ok (.goto 4, 3) := by decide +kernel
theorem dX6_isFiring_28 : decode cX6_isFiring 28 = .ok (.iconst 0, 1) := by decide +kernel
theorem dX6_isFiring_29 : decode cX6_isFiring 29 = .ok (.istore 5, 2) := by decide +kernel
theorem dX6_isFiring_31 : decode cX6_isFiring 31 = .ok (.aload_n 0, 1) := by decide +kernel
theorem dX6_isFiring_32 : decode cX6_isFiring 32 = .ok (.iload 5, 2) := by decide +kernel
theorem dX6_isFiring_34 : decode cX6_isFiring 34 = .ok (.ifCond .eq 7, 3) := by decide +kernel
theorem dX6_isFiring_37 : decode cX6_isFiring 37 = .ok (.iconst 0, 1) := by decide +kernel
theorem dX6_isFiring_38 : decode cX6_isFiring 38 = .ok (.goto 20, 3) := by decide +kernel
theorem dX6_isFiring_41 : decode cX6_isFiring 41 = .ok (.iload_n 1, 1) := by decide +kernel
theorem dX6_isFiring_42 : decode cX6_isFiring 42 = .ok (.iload_n 3, 1) := by decide +kernel
theorem dX6_isFiring_43 : decode cX6_isFiring 43 = .ok (.aload_n 0, 1) := by decide +kernel
theorem dX6_isFiring_44 : decode cX6_isFiring 44 = .ok (.getfield 7, 3) := by decide +kernel
theorem dX6_isFiring_47 : decode cX6_isFiring 47 = .ok (.iconst 2, 1) := by decide +kernel
theorem dX6_isFiring_48 : decode cX6_isFiring 48 = .ok (.iaload, 1) := by decide +kernel
theorem dX6_isFiring_49 : decode cX6_isFiring 49 = .ok (.isub, 1) := by decide +kernel
theorem dX6_isFiring_50 : decode cX6_isFiring 50 = .ok (.if_icmp .ge 7, 3) := by decide +kernel
theorem dX6_isFiring_53 : decode cX6_isFiring 53 = .ok (.iconst 1, 1) := by decide +kernel
theorem dX6_isFiring_54 : decode cX6_isFiring 54 = .ok (.goto 4, 3) := by decide +kernel
theorem dX6_isFiring_57 : decode cX6_isFiring 57 = .ok (.iload_n 2, 1) := by decide +kernel
theorem dX6_isFiring_58 : decode cX6_isFiring 58 = .ok (.putfield 32, 3) := by decide +kernel
theorem dX6_isFiring_61 : decode cX6_isFiring 61 = .ok (.iload 5, 2) := by decide +kernel
theorem dX6_isFiring_63 : decode cX6_isFiring 63 = .ok (.ireturn, 1) := by decide +kernel
theorem dX6_isFiring_64 : decode cX6_isFiring 64 = .ok (.aload_n 0, 1) := by decide +kernel
theorem dX6_isFiring_65 : decode cX6_isFiring 65 = .ok (.getfield 7, 3) := by decide +kernel
theorem dX6_isFiring_68 : decode cX6_isFiring 68 = .ok (.iconst 0, 1) := by decide +kernel
theorem dX6_isFiring_69 : decode cX6_isFiring 69 = .ok (.iaload, 1) := by decide +kernel
theorem dX6_isFiring_70 : decode cX6_isFiring 70 = .ok (.iconst 1, 1) := by decide +kernel
theorem dX6_isFiring_71 : decode cX6_isFiring 71 = .ok (.if_icmp .ne 53, 3) := by decide +kernel
theorem dX6_isFiring_74 : decode cX6_isFiring 74 = .ok (.iload_n 2, 1) := by decide +kernel
theorem dX6_isFiring_75 : decode cX6_isFiring 75 = .ok (.iconst 1, 1) := by decide +kernel
theorem dX6_isFiring_76 : decode cX6_isFiring 76 = .ok (.if_icmp .ne 12, 3) := by decide +kernel
theorem dX6_isFiring_79 : decode cX6_isFiring 79 = .ok (.iload_n 1, 1) := by decide +kernel
theorem dX6_isFiring_80 : decode cX6_isFiring 80 = .ok (.iload_n 3, 1) := by decide +kernel
theorem dX6_isFiring_81 : decode cX6_isFiring 81 = .ok (.if_icmp .gt 7, 3) := by decide +kernel
theorem dX6_isFiring_84 : decode cX6_isFiring 84 = .ok (.iconst 1, 1) := by decide +kernel
theorem dX6_isFiring_85 : decode cX6_isFiring 85 = .ok (.goto 4, 3) := by decide +kernel
theorem dX6_isFiring_88 : decode cX6_isFiring 88 = .ok (.iconst 0, 1) := by decide +kernel
theorem dX6_isFiring_89 : decode cX6_isFiring 89 = .ok (.istore 5, 2) := by decide +kernel
theorem dX6_isFiring_91 : decode cX6_isFiring 91 = .ok (.aload_n 0, 1) := by decide +kernel
theorem dX6_isFiring_92 : decode cX6_isFiring 92 = .ok (.iload 5, 2) := by decide +kernel
theorem dX6_isFiring_94 : decode cX6_isFiring 94 = .ok (.ifCond .eq 7, 3) := by decide +kernel
theorem dX6_isFiring_97 : decode cX6_isFiring 97 = .ok (.iconst 0, 1) := by decide +kernel
theorem dX6_isFiring_98 : decode cX6_isFiring 98 = .ok (.goto 20, 3) := by decide +kernel
theorem dX6_isFiring_101 : decode cX6_isFiring 101 = .ok (.iload_n 1, 1) := by decide +kernel
theorem dX6_isFiring_102 : decode cX6_isFiring 102 = .ok (.iload_n 3, 1) := by decide +kernel
theorem dX6_isFiring_103 : decode cX6_isFiring 103 = .ok (.aload_n 0, 1) := by decide +kernel
theorem dX6_isFiring_104 : decode cX6_isFiring 104 = .ok (.getfield 7, 3) := by decide +kernel
theorem dX6_isFiring_107 : decode cX6_isFiring 107 = .ok (.iconst 2, 1) := by decide +kernel
theorem dX6_isFiring_108 : decode cX6_isFiring 108 = .ok (.iaload, 1) := by decide +kernel
theorem dX6_isFiring_109 : decode cX6_isFiring 109 = .ok (.iadd, 1) := by decide +kernel
theorem dX6_isFiring_110 : decode cX6_isFiring 110 = .ok (.if_icmp .le 7, 3) := by decide +kernel
theorem dX6_isFiring_113 : decode cX6_isFiring 113 = .ok (.iconst 1, 1) := by decide +kernel
theorem dX6_isFiring_114 : decode cX6_isFiring 114 = .ok (.goto 4, 3) := by decide +kernel
theorem dX6_isFiring_117 : decode cX6_isFiring 117 = .ok (.iload_n 2, 1) := by decide +kernel
theorem dX6_isFiring_118 : decode cX6_isFiring 118 = .ok (.putfield 32, 3) := by decide +kernel
theorem dX6_isFiring_121 : decode cX6_isFiring 121 = .ok (.iload 5, 2) := by decide +kernel
theorem dX6_isFiring_123 : decode cX6_isFiring 123 = .ok (.ireturn, 1) := by decide +kernel
theorem dX6_isFiring_124 : decode cX6_isFiring 124 = .ok (.aload_n 0, 1) := by decide +kernel
theorem dX6_isFiring_125 : decode cX6_isFiring 125 = .ok (.iload_n 1, 1) := by decide +kernel
theorem dX6_isFiring_126 : decode cX6_isFiring 126 = .ok (.iload 4, 2) := by decide +kernel
theorem dX6_isFiring_128 : decode cX6_isFiring 128 = .ok (.if_icmp .ge 7, 3) := by decide +kernel
theorem dX6_isFiring_131 : decode cX6_isFiring 131 = .ok (.iconst 1, 1) := by decide +kernel
theorem dX6_isFiring_132 : decode cX6_isFiring 132 = .ok (.goto 26, 3) := by decide +kernel
theorem dX6_isFiring_135 : decode cX6_isFiring 135 = .ok (.iload_n 1, 1) := by decide +kernel
theorem dX6_isFiring_136 : decode cX6_isFiring 136 = .ok (.aload_n 0, 1) := by decide +kernel
theorem dX6_isFiring_137 : decode cX6_isFiring 137 = .ok (.getfield 7, 3) := by decide +kernel
theorem dX6_isFiring_140 : decode cX6_isFiring 140 = .ok (.iconst 4, 1) := by decide +kernel
theorem dX6_isFiring_141 : decode cX6_isFiring 141 = .ok (.iaload, 1) := by decide +kernel
theorem dX6_isFiring_142 : decode cX6_isFiring 142 = .ok (.if_icmp .lt 7, 3) := by decide +kernel
theorem dX6_isFiring_145 : decode cX6_isFiring 145 = .ok (.iconst 0, 1) := by decide +kernel
theorem dX6_isFiring_146 : decode cX6_isFiring 146 = .ok (.goto 12, 3) := by decide +kernel
theorem dX6_isFiring_149 : decode cX6_isFiring 149 = .ok (.iload_n 2, 1) := by decide +kernel
theorem dX6_isFiring_150 : decode cX6_isFiring 150 = .ok (.ifCond .ne 7, 3) := by decide +kernel
theorem dX6_isFiring_153 : decode cX6_isFiring 153 = .ok (.iconst 0, 1) := by decide +kernel
theorem dX6_isFiring_154 : decode cX6_isFiring 154 = .ok (.goto 4, 3) := by decide +kernel
theorem dX6_isFiring_157 : decode cX6_isFiring 157 = .ok (.iconst 2, 1) := by decide +kernel
theorem dX6_isFiring_158 : decode cX6_isFiring 158 = .ok (.putfield 32, 3) := by decide +kernel
theorem dX6_isFiring_161 : decode cX6_isFiring 161 = .ok (.iload_n 1, 1) := by decide +kernel
theorem dX6_isFiring_162 : decode cX6_isFiring 162 = .ok (.iload 4, 2) := by decide +kernel
theorem dX6_isFiring_164 : decode cX6_isFiring 164 = .ok (.if_icmp .ge 12, 3) := by decide +kernel
theorem dX6_isFiring_167 : decode cX6_isFiring 167 = .ok (.iload_n 2, 1) := by decide +kernel
theorem dX6_isFiring_168 : decode cX6_isFiring 168 = .ok (.iconst 2, 1) := by decide +kernel
theorem dX6_isFiring_169 : decode cX6_isFiring 169 = .ok (.if_icmp .ne 7, 3) := by decide +kernel
theorem dX6_isFiring_172 : decode cX6_isFiring 172 = .ok (.iconst 1, 1) := by decide +kernel
theorem dX6_isFiring_173 : decode cX6_isFiring 173 = .ok (.goto 4, 3) := by decide +kernel
theorem dX6_isFiring_176 : decode cX6_isFiring 176 = .ok (.iconst 0, 1) := by decide +kernel
theorem dX6_isFiring_177 : decode cX6_isFiring 177 = .ok (.ireturn, 1) := by decide +kernel
theorem dX6_firings_0 : decode cX6_firings 0 = .ok (.iconst 0, 1) := by decide +kernel
theorem dX6_firings_1 : decode cX6_firings 1 = .ok (.istore_n 2, 1) := by decide +kernel
theorem dX6_firings_2 : decode cX6_firings 2 = .ok (.iconst 0, 1) := by decide +kernel
theorem dX6_firings_3 : decode cX6_firings 3 = .ok (.istore_n 3, 1) := by decide +kernel
theorem dX6_firings_4 : decode cX6_firings 4 = .ok (.iconst 0, 1) := by decide +kernel
theorem dX6_firings_5 : decode cX6_firings 5 = .ok (.istore 4, 2) := by decide +kernel
theorem dX6_firings_7 : decode cX6_firings 7 = .ok (.iload 4, 2) := by decide +kernel
theorem dX6_firings_9 : decode cX6_firings 9 = .ok (.aload_n 0, 1) := by decide +kernel
theorem dX6_firings_10 : decode cX6_firings 10 = .ok (.getfield 7, 3) := by decide +kernel
theorem dX6_firings_13 : decode cX6_firings 13 = .ok (.bipush 10, 2) := by decide +kernel
theorem dX6_firings_15 : decode cX6_firings 15 = .ok (.iaload, 1) := by decide +kernel
theorem dX6_firings_16 : decode cX6_firings 16 = .ok (.if_icmp .ge 42, 3) := by decide +kernel
theorem dX6_firings_19 : decode cX6_firings 19 = .ok (.iload_n 3, 1) := by decide +kernel
theorem dX6_firings_20 : decode cX6_firings 20 = .ok (.aload_n 0, 1) := by decide +kernel
theorem dX6_firings_21 : decode cX6_firings 21 = .ok (.aload_n 0, 1) := by decide +kernel
theorem dX6_firings_22 : decode cX6_firings 22 = .ok (.getfield 7, 3) := by decide +kernel
theorem dX6_firings_25 : decode cX6_firings 25 = .ok (.bipush 47, 2) := by decide +kernel
theorem dX6_firings_27 : decode cX6_firings 27 = .ok (.iload 4, 2) := by decide +kernel
theorem dX6_firings_29 : decode cX6_firings 29 = .ok (.iadd, 1) := by decide +kernel
theorem dX6_firings_30 : decode cX6_firings 30 = .ok (.iaload, 1) := by decide +kernel
theorem dX6_firings_31 : decode cX6_firings 31 = .ok (.iload_n 2, 1) := by decide +kernel
theorem dX6_firings_32 : decode cX6_firings 32 = .ok (.iload_n 1, 1) := by decide +kernel
theorem dX6_firings_33 : decode cX6_firings 33 = .ok (.iload_n 1, 1) := by decide +kernel
theorem dX6_firings_34 : decode cX6_firings 34 = .ok (.invokevirtual 35, 3) := by decide +kernel
theorem dX6_firings_37 : decode cX6_firings 37 = .ok (.ifCond .eq 7, 3) := by decide +kernel
theorem dX6_firings_40 : decode cX6_firings 40 = .ok (.iconst 1, 1) := by decide +kernel
theorem dX6_firings_41 : decode cX6_firings 41 = .ok (.goto 4, 3) := by decide +kernel
theorem dX6_firings_44 : decode cX6_firings 44 = .ok (.iconst 0, 1) := by decide +kernel
theorem dX6_firings_45 : decode cX6_firings 45 = .ok (.iadd, 1) := by decide +kernel
theorem dX6_firings_46 : decode cX6_firings 46 = .ok (.istore_n 3, 1) := by decide +kernel
theorem dX6_firings_47 : decode cX6_firings 47 = .ok (.aload_n 0, 1) := by decide +kernel
theorem dX6_firings_48 : decode cX6_firings 48 = .ok (.getfield 32, 3) := by decide +kernel
theorem dX6_firings_51 : decode cX6_firings 51 = .ok (.istore_n 2, 1) := by decide +kernel
theorem dX6_firings_52 : decode cX6_firings 52 = .ok (.iinc 4 1, 3) := by decide +kernel
theorem dX6_firings_55 : decode cX6_firings 55 = .ok (.goto (-48), 3) := by decide +kernel
theorem dX6_firings_58 : decode cX6_firings 58 = .ok (.iload_n 3, 1) := by decide +kernel
theorem dX6_firings_59 : decode cX6_firings 59 = .ok (.ireturn, 1) := by decide +kernel
theorem dX6_hasRoom_0 : decode cX6_hasRoom 0 = .ok (.aload_n 0, 1) := by decide +kernel
theorem dX6_hasRoom_1 : decode cX6_hasRoom 1 = .ok (.getfield 7, 3) := by decide +kernel
theorem dX6_hasRoom_4 : decode cX6_hasRoom 4 = .ok (.bipush 22, 2) := by decide +kernel
theorem dX6_hasRoom_6 : decode cX6_hasRoom 6 = .ok (.iaload, 1) := by decide +kernel
theorem dX6_hasRoom_7 : decode cX6_hasRoom 7 = .ok (.aload_n 0, 1) := by decide +kernel
theorem dX6_hasRoom_8 : decode cX6_hasRoom 8 = .ok (.getfield 7, 3) := by decide +kernel
theorem dX6_hasRoom_11 : decode cX6_hasRoom 11 = .ok (.bipush 8, 2) := by decide +kernel
theorem dX6_hasRoom_13 : decode cX6_hasRoom 13 = .ok (.iaload, 1) := by decide +kernel
theorem dX6_hasRoom_14 : decode cX6_hasRoom 14 = .ok (.if_icmp .lt 14, 3) := by decide +kernel
theorem dX6_hasRoom_17 : decode cX6_hasRoom 17 = .ok (.aload_n 0, 1) := by decide +kernel
theorem dX6_hasRoom_18 : decode cX6_hasRoom 18 = .ok (.getfield 7, 3) := by decide +kernel
theorem dX6_hasRoom_21 : decode cX6_hasRoom 21 = .ok (.bipush 9, 2) := by decide +kernel
theorem dX6_hasRoom_23 : decode cX6_hasRoom 23 = .ok (.iaload, 1) := by decide +kernel
theorem dX6_hasRoom_24 : decode cX6_hasRoom 24 = .ok (.iconst 1, 1) := by decide +kernel
theorem dX6_hasRoom_25 : decode cX6_hasRoom 25 = .ok (.if_icmp .ne 7, 3) := by decide +kernel
theorem dX6_hasRoom_28 : decode cX6_hasRoom 28 = .ok (.iconst 1, 1) := by decide +kernel
theorem dX6_hasRoom_29 : decode cX6_hasRoom 29 = .ok (.goto 4, 3) := by decide +kernel
theorem dX6_hasRoom_32 : decode cX6_hasRoom 32 = .ok (.iconst 0, 1) := by decide +kernel
theorem dX6_hasRoom_33 : decode cX6_hasRoom 33 = .ok (.ireturn, 1) := by decide +kernel
theorem dX6_isLongEnough_0 : decode cX6_isLongEnough 0 = .ok (.aload_n 0, 1) := by decide +kernel
theorem dX6_isLongEnough_1 : decode cX6_isLongEnough 1 = .ok (.getfield 7, 3) := by decide +kernel
theorem dX6_isLongEnough_4 : decode cX6_isLongEnough 4 = .ok (.bipush 16, 2) := by decide +kernel
theorem dX6_isLongEnough_6 : decode cX6_isLongEnough 6 = .ok (.iaload, 1) := by decide +kernel
theorem dX6_isLongEnough_7 : decode cX6_isLongEnough 7 = .ok (.aload_n 0, 1) := by decide +kernel
theorem dX6_isLongEnough_8 : decode cX6_isLongEnough 8 = .ok (.getfield 7, 3) := by decide +kernel
theorem dX6_isLongEnough_11 : decode cX6_isLongEnough 11 = .ok (.bipush 6, 2) := by decide +kernel
theorem dX6_isLongEnough_13 : decode cX6_isLongEnough 13 = .ok (.iaload, 1) := by decide +kernel
theorem dX6_isLongEnough_14 : decode cX6_isLongEnough 14 = .ok (.if_icmp .lt 24, 3) := by decide +kernel
theorem dX6_isLongEnough_17 : decode cX6_isLongEnough 17 = .ok (.aload_n 0, 1) := by decide +kernel
theorem dX6_isLongEnough_18 : decode cX6_isLongEnough 18 = .ok (.getfield 7, 3) := by decide +kernel
theorem dX6_isLongEnough_21 : decode cX6_isLongEnough 21 = .ok (.bipush 16, 2) := by decide +kernel
theorem dX6_isLongEnough_23 : decode cX6_isLongEnough 23 = .ok (.iaload, 1) := by decide +kernel
theorem dX6_isLongEnough_24 : decode cX6_isLongEnough 24 = .ok (.aload_n 0, 1) := by decide +kernel
theorem dX6_isLongEnough_25 : decode cX6_isLongEnough 25 = .ok (.getfield 7, 3) := by decide +kernel
theorem dX6_isLongEnough_28 : decode cX6_isLongEnough 28 = .ok (.bipush 7, 2) := by decide +kernel
theorem dX6_isLongEnough_30 : decode cX6_isLongEnough 30 = .ok (.iaload, 1) := by decide +kernel
theorem dX6_isLongEnough_31 : decode cX6_isLongEnough 31 = .ok (.if_icmp .lt 7, 3) := by decide +kernel
theorem dX6_isLongEnough_34 : decode cX6_isLongEnough 34 = .ok (.iconst 1, 1) := by decide +kernel
theorem dX6_isLongEnough_35 : decode cX6_isLongEnough 35 = .ok (.goto 4, 3) := by decide +kernel
theorem dX6_isLongEnough_38 : decode cX6_isLongEnough 38 = .ok (.iconst 0, 1) := by decide +kernel
theorem dX6_isLongEnough_39 : decode cX6_isLongEnough 39 = .ok (.ireturn, 1) := by decide +kernel
theorem dX6_takesOut_0 : decode cX6_takesOut 0 = .ok (.aload_n 0, 1) := by decide +kernel
theorem dX6_takesOut_1 : decode cX6_takesOut 1 = .ok (.getfield 7, 3) := by decide +kernel
theorem dX6_takesOut_4 : decode cX6_takesOut 4 = .ok (.bipush 22, 2) := by decide +kernel
theorem dX6_takesOut_6 : decode cX6_takesOut 6 = .ok (.dup2, 1) := by decide +kernel
theorem dX6_takesOut_7 : decode cX6_takesOut 7 = .ok (.iaload, 1) := by decide +kernel
theorem dX6_takesOut_8 : decode cX6_takesOut 8 = .ok (.iconst 1, 1) := by decide +kernel
theorem dX6_takesOut_9 : decode cX6_takesOut 9 = .ok (.isub, 1) := by decide +kernel
theorem dX6_takesOut_10 : decode cX6_takesOut 10 = .ok (.iastore, 1) := by decide +kernel
theorem dX6_takesOut_11 : decode cX6_takesOut 11 = .ok (.iconst 4, 1) := by decide +kernel
theorem dX6_takesOut_12 : decode cX6_takesOut 12 = .ok (.iload_n 1, 1) := by decide +kernel
theorem dX6_takesOut_13 : decode cX6_takesOut 13 = .ok (.imul, 1) := by decide +kernel
theorem dX6_takesOut_14 : decode cX6_takesOut 14 = .ok (.istore_n 2, 1) := by decide +kernel
theorem dX6_takesOut_15 : decode cX6_takesOut 15 = .ok (.iload_n 2, 1) := by decide +kernel
theorem dX6_takesOut_16 : decode cX6_takesOut 16 = .ok (.iconst 4, 1) := by decide +kernel
theorem dX6_takesOut_17 : decode cX6_takesOut 17 = .ok (.aload_n 0, 1) := by decide +kernel
theorem dX6_takesOut_18 : decode cX6_takesOut 18 = .ok (.getfield 7, 3) := by decide +kernel
theorem dX6_takesOut_21 : decode cX6_takesOut 21 = .ok (.bipush 22, 2) := by decide +kernel
theorem dX6_takesOut_23 : decode cX6_takesOut 23 = .ok (.iaload, 1) := by decide +kernel
theorem dX6_takesOut_24 : decode cX6_takesOut 24 = .ok (.imul, 1) := by decide +kernel
theorem dX6_takesOut_25 : decode cX6_takesOut 25 = .ok (.if_icmp .ge 29, 3) := by decide +kernel
theorem dX6_takesOut_28 : decode cX6_takesOut 28 = .ok (.aload_n 0, 1) := by decide +kernel
theorem dX6_takesOut_29 : decode cX6_takesOut 29 = .ok (.getfield 7, 3) := by decide +kernel
theorem dX6_takesOut_32 : decode cX6_takesOut 32 = .ok (.bipush 23, 2) := by decide +kernel
theorem dX6_takesOut_34 : decode cX6_takesOut 34 = .ok (.iload_n 2, 1) := by decide +kernel
theorem dX6_takesOut_35 : decode cX6_takesOut 35 = .ok (.iadd, 1) := by decide +kernel
theorem dX6_takesOut_36 : decode cX6_takesOut 36 = .ok (.aload_n 0, 1) := by decide +kernel
theorem dX6_takesOut_37 : decode cX6_takesOut 37 = .ok (.getfield 7, 3) := by decide +kernel
theorem dX6_takesOut_40 : decode cX6_takesOut 40 = .ok (.bipush 23, 2) := by decide +kernel
theorem dX6_takesOut_42 : decode cX6_takesOut 42 = .ok (.iload_n 2, 1) := by decide +kernel
theorem dX6_takesOut_43 : decode cX6_takesOut 43 = .ok (.iadd, 1) := by decide +kernel
theorem dX6_takesOut_44 : decode cX6_takesOut 44 = .ok (.iconst 4, 1) := by decide +kernel
theorem dX6_takesOut_45 : decode cX6_takesOut 45 = .ok (.iadd, 1) := by decide +kernel
theorem dX6_takesOut_46 : decode cX6_takesOut 46 = .ok (.iaload, 1) := by decide +kernel
theorem dX6_takesOut_47 : decode cX6_takesOut 47 = .ok (.iastore, 1) := by decide +kernel
theorem dX6_takesOut_48 : decode cX6_takesOut 48 = .ok (.iinc 2 1, 3) := by decide +kernel
theorem dX6_takesOut_51 : decode cX6_takesOut 51 = .ok (.goto (-36), 3) := by decide +kernel
theorem dX6_takesOut_54 : decode cX6_takesOut 54 = .ok (.return_, 1) := by decide +kernel
theorem dX6_dropsOldest_0 : decode cX6_dropsOldest 0 = .ok (.aload_n 0, 1) := by decide +kernel
theorem dX6_dropsOldest_1 : decode cX6_dropsOldest 1 = .ok (.getfield 7, 3) := by decide +kernel
theorem dX6_dropsOldest_4 : decode cX6_dropsOldest 4 = .ok (.bipush 22, 2) := by decide +kernel
theorem dX6_dropsOldest_6 : decode cX6_dropsOldest 6 = .ok (.iaload, 1) := by decide +kernel
theorem dX6_dropsOldest_7 : decode cX6_dropsOldest 7 = .ok (.iload_n 1, 1) := by decide +kernel
theorem dX6_dropsOldest_8 : decode cX6_dropsOldest 8 = .ok (.if_icmp .le 11, 3) := by decide +kernel
theorem dX6_dropsOldest_11 : decode cX6_dropsOldest 11 = .ok (.aload_n 0, 1) := by decide +kernel
theorem dX6_dropsOldest_12 : decode cX6_dropsOldest 12 = .ok (.iconst 0, 1) := by decide +kernel
theorem dX6_dropsOldest_13 : decode cX6_dropsOldest 13 = .ok (.invokevirtual 39, 3) := by decide +kernel
theorem dX6_dropsOldest_16 : decode cX6_dropsOldest 16 = .ok (.goto (-16), 3) := by decide +kernel
theorem dX6_dropsOldest_19 : decode cX6_dropsOldest 19 = .ok (.return_, 1) := by decide +kernel
theorem dX6_captures_0 : decode cX6_captures 0 = .ok (.aload_n 0, 1) := by decide +kernel
theorem dX6_captures_1 : decode cX6_captures 1 = .ok (.getfield 7, 3) := by decide +kernel
theorem dX6_captures_4 : decode cX6_captures 4 = .ok (.bipush 17, 2) := by decide +kernel
theorem dX6_captures_6 : decode cX6_captures 6 = .ok (.iconst 1, 1) := by decide +kernel
theorem dX6_captures_7 : decode cX6_captures 7 = .ok (.iastore, 1) := by decide +kernel
theorem dX6_captures_8 : decode cX6_captures 8 = .ok (.aload_n 0, 1) := by decide +kernel
theorem dX6_captures_9 : decode cX6_captures 9 = .ok (.getfield 7, 3) := by decide +kernel
theorem dX6_captures_12 : decode cX6_captures 12 = .ok (.bipush 18, 2) := by decide +kernel
theorem dX6_captures_14 : decode cX6_captures 14 = .ok (.aload_n 0, 1) := by decide +kernel
theorem dX6_captures_15 : decode cX6_captures 15 = .ok (.getfield 7, 3) := by decide +kernel
theorem dX6_captures_18 : decode cX6_captures 18 = .ok (.bipush 10, 2) := by decide +kernel
theorem dX6_captures_20 : decode cX6_captures 20 = .ok (.iaload, 1) := by decide +kernel
theorem dX6_captures_21 : decode cX6_captures 21 = .ok (.iastore, 1) := by decide +kernel
theorem dX6_captures_22 : decode cX6_captures 22 = .ok (.aload_n 0, 1) := by decide +kernel
theorem dX6_captures_23 : decode cX6_captures 23 = .ok (.getfield 7, 3) := by decide +kernel
theorem dX6_captures_26 : decode cX6_captures 26 = .ok (.bipush 19, 2) := by decide +kernel
theorem dX6_captures_28 : decode cX6_captures 28 = .ok (.aload_n 0, 1) := by decide +kernel
theorem dX6_captures_29 : decode cX6_captures 29 = .ok (.getfield 7, 3) := by decide +kernel
theorem dX6_captures_32 : decode cX6_captures 32 = .ok (.iconst 5, 1) := by decide +kernel
theorem dX6_captures_33 : decode cX6_captures 33 = .ok (.iaload, 1) := by decide +kernel
theorem dX6_captures_34 : decode cX6_captures 34 = .ok (.iastore, 1) := by decide +kernel
theorem dX6_captures_35 : decode cX6_captures 35 = .ok (.aload_n 0, 1) := by decide +kernel
theorem dX6_captures_36 : decode cX6_captures 36 = .ok (.getfield 7, 3) := by decide +kernel
theorem dX6_captures_39 : decode cX6_captures 39 = .ok (.bipush 20, 2) := by decide +kernel
theorem dX6_captures_41 : decode cX6_captures 41 = .ok (.aload_n 0, 1) := by decide +kernel
theorem dX6_captures_42 : decode cX6_captures 42 = .ok (.getfield 7, 3) := by decide +kernel
theorem dX6_captures_45 : decode cX6_captures 45 = .ok (.bipush 6, 2) := by decide +kernel
theorem dX6_captures_47 : decode cX6_captures 47 = .ok (.iaload, 1) := by decide +kernel
theorem dX6_captures_48 : decode cX6_captures 48 = .ok (.iastore, 1) := by decide +kernel
theorem dX6_captures_49 : decode cX6_captures 49 = .ok (.aload_n 0, 1) := by decide +kernel
theorem dX6_captures_50 : decode cX6_captures 50 = .ok (.getfield 7, 3) := by decide +kernel
theorem dX6_captures_53 : decode cX6_captures 53 = .ok (.bipush 21, 2) := by decide +kernel
theorem dX6_captures_55 : decode cX6_captures 55 = .ok (.aload_n 0, 1) := by decide +kernel
theorem dX6_captures_56 : decode cX6_captures 56 = .ok (.getfield 7, 3) := by decide +kernel
theorem dX6_captures_59 : decode cX6_captures 59 = .ok (.iconst 0, 1) := by decide +kernel
theorem dX6_captures_60 : decode cX6_captures 60 = .ok (.iaload, 1) := by decide +kernel
theorem dX6_captures_61 : decode cX6_captures 61 = .ok (.iastore, 1) := by decide +kernel
theorem dX6_captures_62 : decode cX6_captures 62 = .ok (.aload_n 0, 1) := by decide +kernel
theorem dX6_captures_63 : decode cX6_captures 63 = .ok (.getfield 7, 3) := by decide +kernel
theorem dX6_captures_66 : decode cX6_captures 66 = .ok (.bipush 13, 2) := by decide +kernel
theorem dX6_captures_68 : decode cX6_captures 68 = .ok (.dup2, 1) := by decide +kernel
theorem dX6_captures_69 : decode cX6_captures 69 = .ok (.iaload, 1) := by decide +kernel
theorem dX6_captures_70 : decode cX6_captures 70 = .ok (.iconst 1, 1) := by decide +kernel
theorem dX6_captures_71 : decode cX6_captures 71 = .ok (.iadd, 1) := by decide +kernel
theorem dX6_captures_72 : decode cX6_captures 72 = .ok (.iastore, 1) := by decide +kernel
theorem dX6_captures_73 : decode cX6_captures 73 = .ok (.return_, 1) := by decide +kernel
theorem dX6_lacking_0 : decode cX6_lacking 0 = .ok (.aload_n 0, 1) := by decide +kernel
theorem dX6_lacking_1 : decode cX6_lacking 1 = .ok (.getfield 7, 3) := by decide +kernel
theorem dX6_lacking_4 : decode cX6_lacking 4 = .ok (.bipush 17, 2) := by decide +kernel
theorem dX6_lacking_6 : decode cX6_lacking 6 = .ok (.iaload, 1) := by decide +kernel
theorem dX6_lacking_7 : decode cX6_lacking 7 = .ok (.ifCond .ne 7, 3) := by decide +kernel
theorem dX6_lacking_10 : decode cX6_lacking 10 = .ok (.iconst 0, 1) := by decide +kernel
theorem dX6_lacking_11 : decode cX6_lacking 11 = .ok (.goto 34, 3) := by decide +kernel
theorem dX6_lacking_14 : decode cX6_lacking 14 = .ok (.aload_n 0, 1) := by decide +kernel
theorem dX6_lacking_15 : decode cX6_lacking 15 = .ok (.getfield 7, 3) := by decide +kernel
theorem dX6_lacking_18 : decode cX6_lacking 18 = .ok (.bipush 18, 2) := by decide +kernel
theorem dX6_lacking_20 : decode cX6_lacking 20 = .ok (.iaload, 1) := by decide +kernel
theorem dX6_lacking_21 : decode cX6_lacking 21 = .ok (.aload_n 0, 1) := by decide +kernel
theorem dX6_lacking_22 : decode cX6_lacking 22 = .ok (.getfield 7, 3) := by decide +kernel
theorem dX6_lacking_25 : decode cX6_lacking 25 = .ok (.bipush 20, 2) := by decide +kernel
theorem dX6_lacking_27 : decode cX6_lacking 27 = .ok (.iaload, 1) := by decide +kernel
theorem dX6_lacking_28 : decode cX6_lacking 28 = .ok (.isub, 1) := by decide +kernel
theorem dX6_lacking_29 : decode cX6_lacking 29 = .ok (.aload_n 0, 1) := by decide +kernel
theorem dX6_lacking_30 : decode cX6_lacking 30 = .ok (.getfield 7, 3) := by decide +kernel
theorem dX6_lacking_33 : decode cX6_lacking 33 = .ok (.bipush 19, 2) := by decide +kernel
theorem dX6_lacking_35 : decode cX6_lacking 35 = .ok (.iaload, 1) := by decide +kernel
theorem dX6_lacking_36 : decode cX6_lacking 36 = .ok (.iadd, 1) := by decide +kernel
theorem dX6_lacking_37 : decode cX6_lacking 37 = .ok (.aload_n 0, 1) := by decide +kernel
theorem dX6_lacking_38 : decode cX6_lacking 38 = .ok (.getfield 7, 3) := by decide +kernel
theorem dX6_lacking_41 : decode cX6_lacking 41 = .ok (.bipush 10, 2) := by decide +kernel
theorem dX6_lacking_43 : decode cX6_lacking 43 = .ok (.iaload, 1) := by decide +kernel
theorem dX6_lacking_44 : decode cX6_lacking 44 = .ok (.isub, 1) := by decide +kernel
theorem dX6_lacking_45 : decode cX6_lacking 45 = .ok (.ireturn, 1) := by decide +kernel
theorem dX6_completes_0 : decode cX6_completes 0 = .ok (.aload_n 0, 1) := by decide +kernel
theorem dX6_completes_1 : decode cX6_completes 1 = .ok (.aload_n 0, 1) := by decide +kernel
theorem dX6_completes_2 : decode cX6_completes 2 = .ok (.getfield 7, 3) := by decide +kernel
theorem dX6_completes_5 : decode cX6_completes 5 = .ok (.bipush 8, 2) := by decide +kernel
theorem dX6_completes_7 : decode cX6_completes 7 = .ok (.iaload, 1) := by decide +kernel
theorem dX6_completes_8 : decode cX6_completes 8 = .ok (.iconst 1, 1) := by decide +kernel
theorem dX6_completes_9 : decode cX6_completes 9 = .ok (.isub, 1) := by decide +kernel
theorem dX6_completes_10 : decode cX6_completes 10 = .ok (.invokevirtual 43, 3) := by decide +kernel
theorem dX6_completes_13 : decode cX6_completes 13 = .ok (.iconst 0, 1) := by decide +kernel
theorem dX6_completes_14 : decode cX6_completes 14 = .ok (.istore_n 1, 1) := by decide +kernel
theorem dX6_completes_15 : decode cX6_completes 15 = .ok (.iload_n 1, 1) := by decide +kernel
theorem dX6_completes_16 : decode cX6_completes 16 = .ok (.iconst 4, 1) := by decide +kernel
theorem dX6_completes_17 : decode cX6_completes 17 = .ok (.if_icmp .ge 37, 3) := by decide +kernel
theorem dX6_completes_20 : decode cX6_completes 20 = .ok (.aload_n 0, 1) := by decide +kernel
theorem dX6_completes_21 : decode cX6_completes 21 = .ok (.getfield 7, 3) := by decide +kernel
theorem dX6_completes_24 : decode cX6_completes 24 = .ok (.bipush 23, 2) := by decide +kernel
theorem dX6_completes_26 : decode cX6_completes 26 = .ok (.iconst 4, 1) := by decide +kernel
theorem dX6_completes_27 : decode cX6_completes 27 = .ok (.aload_n 0, 1) := by decide +kernel
theorem dX6_completes_28 : decode cX6_completes 28 = .ok (.getfield 7, 3) := by decide +kernel
theorem dX6_completes_31 : decode cX6_completes 31 = .ok (.bipush 22, 2) := by decide +kernel
theorem dX6_completes_33 : decode cX6_completes 33 = .ok (.iaload, 1) := by decide +kernel
theorem dX6_completes_34 : decode cX6_completes 34 = .ok (.imul, 1) := by decide +kernel
theorem dX6_completes_35 : decode cX6_completes 35 = .ok (.iadd, 1) := by decide +kernel
theorem dX6_completes_36 : decode cX6_completes 36 = .ok (.iload_n 1, 1) := by decide +kernel
theorem dX6_completes_37 : decode cX6_completes 37 = .ok (.iadd, 1) := by decide +kernel
theorem dX6_completes_38 : decode cX6_completes 38 = .ok (.aload_n 0, 1) := by decide +kernel
theorem dX6_completes_39 : decode cX6_completes 39 = .ok (.getfield 7, 3) := by decide +kernel
theorem dX6_completes_42 : decode cX6_completes 42 = .ok (.bipush 18, 2) := by decide +kernel
theorem dX6_completes_44 : decode cX6_completes 44 = .ok (.iload_n 1, 1) := by decide +kernel
theorem dX6_completes_45 : decode cX6_completes 45 = .ok (.iadd, 1) := by decide +kernel
theorem dX6_completes_46 : decode cX6_completes 46 = .ok (.iaload, 1) := by decide +kernel
theorem dX6_completes_47 : decode cX6_completes 47 = .ok (.iastore, 1) := by decide +kernel
theorem dX6_completes_48 : decode cX6_completes 48 = .ok (.iinc 1 1, 3) := by decide +kernel
theorem dX6_completes_51 : decode cX6_completes 51 = .ok (.goto (-36), 3) := by decide +kernel
theorem dX6_completes_54 : decode cX6_completes 54 = .ok (.aload_n 0, 1) := by decide +kernel
theorem dX6_completes_55 : decode cX6_completes 55 = .ok (.getfield 7, 3) := by decide +kernel
theorem dX6_completes_58 : decode cX6_completes 58 = .ok (.bipush 22, 2) := by decide +kernel
theorem dX6_completes_60 : decode cX6_completes 60 = .ok (.dup2, 1) := by decide +kernel
theorem dX6_completes_61 : decode cX6_completes 61 = .ok (.iaload, 1) := by decide +kernel
theorem dX6_completes_62 : decode cX6_completes 62 = .ok (.iconst 1, 1) := by decide +kernel
theorem dX6_completes_63 : decode cX6_completes 63 = .ok (.iadd, 1) := by decide +kernel
theorem dX6_completes_64 : decode cX6_completes 64 = .ok (.iastore, 1) := by decide +kernel
theorem dX6_completes_65 : decode cX6_completes 65 = .ok (.aload_n 0, 1) := by decide +kernel
theorem dX6_completes_66 : decode cX6_completes 66 = .ok (.getfield 7, 3) := by decide +kernel
theorem dX6_completes_69 : decode cX6_completes 69 = .ok (.bipush 17, 2) := by decide +kernel
theorem dX6_completes_71 : decode cX6_completes 71 = .ok (.iconst 0, 1) := by decide +kernel
theorem dX6_completes_72 : decode cX6_completes 72 = .ok (.iastore, 1) := by decide +kernel
theorem dX6_completes_73 : decode cX6_completes 73 = .ok (.aload_n 0, 1) := by decide +kernel
theorem dX6_completes_74 : decode cX6_completes 74 = .ok (.getfield 7, 3) := by decide +kernel
theorem dX6_completes_77 : decode cX6_completes 77 = .ok (.bipush 16, 2) := by decide +kernel
theorem dX6_completes_79 : decode cX6_completes 79 = .ok (.iconst 0, 1) := by decide +kernel
theorem dX6_completes_80 : decode cX6_completes 80 = .ok (.iastore, 1) := by decide +kernel
theorem dX6_completes_81 : decode cX6_completes 81 = .ok (.aload_n 0, 1) := by decide +kernel
theorem dX6_completes_82 : decode cX6_completes 82 = .ok (.getfield 7, 3) := by decide +kernel
theorem dX6_completes_85 : decode cX6_completes 85 = .ok (.bipush 15, 2) := by decide +kernel
theorem dX6_completes_87 : decode cX6_completes 87 = .ok (.dup2, 1) := by decide +kernel
theorem dX6_completes_88 : decode cX6_completes 88 = .ok (.iaload, 1) := by decide +kernel
theorem dX6_completes_89 : decode cX6_completes 89 = .ok (.iconst 1, 1) := by decide +kernel
theorem dX6_completes_90 : decode cX6_completes 90 = .ok (.iadd, 1) := by decide +kernel
theorem dX6_completes_91 : decode cX6_completes 91 = .ok (.iastore, 1) := by decide +kernel
theorem dX6_completes_92 : decode cX6_completes 92 = .ok (.return_, 1) := by decide +kernel
theorem dX6_comes_0 : decode cX6_comes 0 = .ok (.aload_n 0, 1) := by decide +kernel
theorem dX6_comes_1 : decode cX6_comes 1 = .ok (.iload_n 1, 1) := by decide +kernel
theorem dX6_comes_2 : decode cX6_comes 2 = .ok (.aload_n 0, 1) := by decide +kernel
theorem dX6_comes_3 : decode cX6_comes 3 = .ok (.getfield 7, 3) := by decide +kernel
theorem dX6_comes_6 : decode cX6_comes 6 = .ok (.bipush 11, 2) := by decide +kernel
theorem dX6_comes_8 : decode cX6_comes 8 = .ok (.iaload, 1) := by decide +kernel
theorem dX6_comes_9 : decode cX6_comes 9 = .ok (.aload_n 0, 1) := by decide +kernel
theorem dX6_comes_10 : decode cX6_comes 10 = .ok (.getfield 7, 3) := by decide +kernel
theorem dX6_comes_13 : decode cX6_comes 13 = .ok (.iconst 1, 1) := by decide +kernel
theorem dX6_comes_14 : decode cX6_comes 14 = .ok (.iaload, 1) := by decide +kernel
theorem dX6_comes_15 : decode cX6_comes 15 = .ok (.aload_n 0, 1) := by decide +kernel
theorem dX6_comes_16 : decode cX6_comes 16 = .ok (.getfield 7, 3) := by decide +kernel
theorem dX6_comes_19 : decode cX6_comes 19 = .ok (.iconst 3, 1) := by decide +kernel
theorem dX6_comes_20 : decode cX6_comes 20 = .ok (.iaload, 1) := by decide +kernel
theorem dX6_comes_21 : decode cX6_comes 21 = .ok (.invokevirtual 35, 3) := by decide +kernel
theorem dX6_comes_24 : decode cX6_comes 24 = .ok (.istore_n 2, 1) := by decide +kernel
theorem dX6_comes_25 : decode cX6_comes 25 = .ok (.aload_n 0, 1) := by decide +kernel
theorem dX6_comes_26 : decode cX6_comes 26 = .ok (.getfield 7, 3) := by decide +kernel
theorem dX6_comes_29 : decode cX6_comes 29 = .ok (.bipush 11, 2) := by decide +kernel
theorem dX6_comes_31 : decode cX6_comes 31 = .ok (.aload_n 0, 1) := by decide +kernel
theorem dX6_comes_32 : decode cX6_comes 32 = .ok (.getfield 32, 3) := by decide +kernel
theorem dX6_comes_35 : decode cX6_comes 35 = .ok (.iastore, 1) := by decide +kernel
theorem dX6_comes_36 : decode cX6_comes 36 = .ok (.aload_n 0, 1) := by decide +kernel
theorem dX6_comes_37 : decode cX6_comes 37 = .ok (.getfield 7, 3) := by decide +kernel
theorem dX6_comes_40 : decode cX6_comes 40 = .ok (.bipush 12, 2) := by decide +kernel
theorem dX6_comes_42 : decode cX6_comes 42 = .ok (.dup2, 1) := by decide +kernel
theorem dX6_comes_43 : decode cX6_comes 43 = .ok (.iaload, 1) := by decide +kernel
theorem dX6_comes_44 : decode cX6_comes 44 = .ok (.iload_n 2, 1) := by decide +kernel
theorem dX6_comes_45 : decode cX6_comes 45 = .ok (.ifCond .eq 7, 3) := by decide +kernel
theorem dX6_comes_48 : decode cX6_comes 48 = .ok (.iconst 1, 1) := by decide +kernel
theorem dX6_comes_49 : decode cX6_comes 49 = .ok (.goto 4, 3) := by decide +kernel
theorem dX6_comes_52 : decode cX6_comes 52 = .ok (.iconst 0, 1) := by decide +kernel
theorem dX6_comes_53 : decode cX6_comes 53 = .ok (.iadd, 1) := by decide +kernel
theorem dX6_comes_54 : decode cX6_comes 54 = .ok (.iastore, 1) := by decide +kernel
theorem dX6_comes_55 : decode cX6_comes 55 = .ok (.iload_n 2, 1) := by decide +kernel
theorem dX6_comes_56 : decode cX6_comes 56 = .ok (.ifCond .eq 34, 3) := by decide +kernel
theorem dX6_comes_59 : decode cX6_comes 59 = .ok (.aload_n 0, 1) := by decide +kernel
theorem dX6_comes_60 : decode cX6_comes 60 = .ok (.getfield 7, 3) := by decide +kernel
theorem dX6_comes_63 : decode cX6_comes 63 = .ok (.bipush 17, 2) := by decide +kernel
theorem dX6_comes_65 : decode cX6_comes 65 = .ok (.iaload, 1) := by decide +kernel
theorem dX6_comes_66 : decode cX6_comes 66 = .ok (.ifCond .ne 24, 3) := by decide +kernel
theorem dX6_comes_69 : decode cX6_comes 69 = .ok (.aload_n 0, 1) := by decide +kernel
theorem dX6_comes_70 : decode cX6_comes 70 = .ok (.invokevirtual 46, 3) := by decide +kernel
theorem dX6_comes_73 : decode cX6_comes 73 = .ok (.ifCond .eq 17, 3) := by decide +kernel
theorem dX6_comes_76 : decode cX6_comes 76 = .ok (.aload_n 0, 1) := by decide +kernel
theorem dX6_comes_77 : decode cX6_comes 77 = .ok (.invokevirtual 50, 3) := by decide +kernel
theorem dX6_comes_80 : decode cX6_comes 80 = .ok (.ifCond .eq 10, 3) := by decide +kernel
theorem dX6_comes_83 : decode cX6_comes 83 = .ok (.aload_n 0, 1) := by decide +kernel
theorem dX6_comes_84 : decode cX6_comes 84 = .ok (.invokevirtual 53, 3) := by decide +kernel
theorem dX6_comes_87 : decode cX6_comes 87 = .ok (.goto 22, 3) := by decide +kernel
theorem dX6_comes_90 : decode cX6_comes 90 = .ok (.aload_n 0, 1) := by decide +kernel
theorem dX6_comes_91 : decode cX6_comes 91 = .ok (.getfield 7, 3) := by decide +kernel
theorem dX6_comes_94 : decode cX6_comes 94 = .ok (.bipush 14, 2) := by decide +kernel
theorem dX6_comes_96 : decode cX6_comes 96 = .ok (.dup2, 1) := by decide +kernel
theorem dX6_comes_97 : decode cX6_comes 97 = .ok (.iaload, 1) := by decide +kernel
theorem dX6_comes_98 : decode cX6_comes 98 = .ok (.iload_n 2, 1) := by decide +kernel
theorem dX6_comes_99 : decode cX6_comes 99 = .ok (.ifCond .eq 7, 3) := by decide +kernel
theorem dX6_comes_102 : decode cX6_comes 102 = .ok (.iconst 1, 1) := by decide +kernel
theorem dX6_comes_103 : decode cX6_comes 103 = .ok (.goto 4, 3) := by decide +kernel
theorem dX6_comes_106 : decode cX6_comes 106 = .ok (.iconst 0, 1) := by decide +kernel
theorem dX6_comes_107 : decode cX6_comes 107 = .ok (.iadd, 1) := by decide +kernel
theorem dX6_comes_108 : decode cX6_comes 108 = .ok (.iastore, 1) := by decide +kernel
theorem dX6_comes_109 : decode cX6_comes 109 = .ok (.aload_n 0, 1) := by decide +kernel
theorem dX6_comes_110 : decode cX6_comes 110 = .ok (.getfield 7, 3) := by decide +kernel
theorem dX6_comes_113 : decode cX6_comes 113 = .ok (.bipush 47, 2) := by decide +kernel
theorem dX6_comes_115 : decode cX6_comes 115 = .ok (.aload_n 0, 1) := by decide +kernel
theorem dX6_comes_116 : decode cX6_comes 116 = .ok (.getfield 7, 3) := by decide +kernel
theorem dX6_comes_119 : decode cX6_comes 119 = .ok (.bipush 10, 2) := by decide +kernel
theorem dX6_comes_121 : decode cX6_comes 121 = .ok (.iaload, 1) := by decide +kernel
theorem dX6_comes_122 : decode cX6_comes 122 = .ok (.iadd, 1) := by decide +kernel
theorem dX6_comes_123 : decode cX6_comes 123 = .ok (.iload_n 1, 1) := by decide +kernel
theorem dX6_comes_124 : decode cX6_comes 124 = .ok (.iastore, 1) := by decide +kernel
theorem dX6_comes_125 : decode cX6_comes 125 = .ok (.aload_n 0, 1) := by decide +kernel
theorem dX6_comes_126 : decode cX6_comes 126 = .ok (.getfield 7, 3) := by decide +kernel
theorem dX6_comes_129 : decode cX6_comes 129 = .ok (.bipush 10, 2) := by decide +kernel
theorem dX6_comes_131 : decode cX6_comes 131 = .ok (.dup2, 1) := by decide +kernel
theorem dX6_comes_132 : decode cX6_comes 132 = .ok (.iaload, 1) := by decide +kernel
theorem dX6_comes_133 : decode cX6_comes 133 = .ok (.iconst 1, 1) := by decide +kernel
theorem dX6_comes_134 : decode cX6_comes 134 = .ok (.iadd, 1) := by decide +kernel
theorem dX6_comes_135 : decode cX6_comes 135 = .ok (.iastore, 1) := by decide +kernel
theorem dX6_comes_136 : decode cX6_comes 136 = .ok (.aload_n 0, 1) := by decide +kernel
theorem dX6_comes_137 : decode cX6_comes 137 = .ok (.getfield 7, 3) := by decide +kernel
theorem dX6_comes_140 : decode cX6_comes 140 = .ok (.bipush 16, 2) := by decide +kernel
theorem dX6_comes_142 : decode cX6_comes 142 = .ok (.dup2, 1) := by decide +kernel
theorem dX6_comes_143 : decode cX6_comes 143 = .ok (.iaload, 1) := by decide +kernel
theorem dX6_comes_144 : decode cX6_comes 144 = .ok (.iconst 1, 1) := by decide +kernel
theorem dX6_comes_145 : decode cX6_comes 145 = .ok (.iadd, 1) := by decide +kernel
theorem dX6_comes_146 : decode cX6_comes 146 = .ok (.iastore, 1) := by decide +kernel
theorem dX6_comes_147 : decode cX6_comes 147 = .ok (.aload_n 0, 1) := by decide +kernel
theorem dX6_comes_148 : decode cX6_comes 148 = .ok (.getfield 7, 3) := by decide +kernel
theorem dX6_comes_151 : decode cX6_comes 151 = .ok (.bipush 17, 2) := by decide +kernel
theorem dX6_comes_153 : decode cX6_comes 153 = .ok (.iaload, 1) := by decide +kernel
theorem dX6_comes_154 : decode cX6_comes 154 = .ok (.iconst 1, 1) := by decide +kernel
theorem dX6_comes_155 : decode cX6_comes 155 = .ok (.if_icmp .ne 14, 3) := by decide +kernel
theorem dX6_comes_158 : decode cX6_comes 158 = .ok (.aload_n 0, 1) := by decide +kernel
theorem dX6_comes_159 : decode cX6_comes 159 = .ok (.invokevirtual 56, 3) := by decide +kernel
theorem dX6_comes_162 : decode cX6_comes 162 = .ok (.ifCond .ne 7, 3) := by decide +kernel
theorem dX6_comes_165 : decode cX6_comes 165 = .ok (.aload_n 0, 1) := by decide +kernel
theorem dX6_comes_166 : decode cX6_comes 166 = .ok (.invokevirtual 60, 3) := by decide +kernel
theorem dX6_comes_169 : decode cX6_comes 169 = .ok (.return_, 1) := by decide +kernel
theorem dX6_isSample_0 : decode cX6_isSample 0 = .ok (.iload_n 0, 1) := by decide +kernel
theorem dX6_isSample_1 : decode cX6_isSample 1 = .ok (.i2l, 1) := by decide +kernel
theorem dX6_isSample_2 : decode cX6_isSample 2 = .ok (.ldc2_w 63, 3) := by decide +kernel
theorem dX6_isSample_5 : decode cX6_isSample 5 = .ok (.ldc2_w 65, 3) := by decide +kernel
theorem dX6_isSample_8 : decode cX6_isSample 8 = .ok (.invokestatic 67, 3) := by decide +kernel
theorem dX6_isSample_11 : decode cX6_isSample 11 = .ok (.ireturn, 1) := by decide +kernel
theorem dX6_doFeed_0 : decode cX6_doFeed 0 = .ok (.iload_n 1, 1) := by decide +kernel
theorem dX6_doFeed_1 : decode cX6_doFeed 1 = .ok (.invokestatic 71, 3) := by decide +kernel
theorem dX6_doFeed_4 : decode cX6_doFeed 4 = .ok (.ifCond .eq 15, 3) := by decide +kernel
theorem dX6_doFeed_7 : decode cX6_doFeed 7 = .ok (.iload_n 2, 1) := by decide +kernel
theorem dX6_doFeed_8 : decode cX6_doFeed 8 = .ok (.i2l, 1) := by decide +kernel
theorem dX6_doFeed_9 : decode cX6_doFeed 9 = .ok (.lconst 1, 1) := by decide +kernel
theorem dX6_doFeed_10 : decode cX6_doFeed 10 = .ok (.ldc2_w 65, 3) := by decide +kernel
theorem dX6_doFeed_13 : decode cX6_doFeed 13 = .ok (.invokestatic 67, 3) := by decide +kernel
theorem dX6_doFeed_16 : decode cX6_doFeed 16 = .ok (.ifCond .ne 6, 3) := by decide +kernel
theorem dX6_doFeed_19 : decode cX6_doFeed 19 = .ok (.bipush (-2), 2) := by decide +kernel
theorem dX6_doFeed_21 : decode cX6_doFeed 21 = .ok (.ireturn, 1) := by decide +kernel
theorem dX6_doFeed_22 : decode cX6_doFeed 22 = .ok (.aload_n 0, 1) := by decide +kernel
theorem dX6_doFeed_23 : decode cX6_doFeed 23 = .ok (.getfield 7, 3) := by decide +kernel
theorem dX6_doFeed_26 : decode cX6_doFeed 26 = .ok (.bipush 10, 2) := by decide +kernel
theorem dX6_doFeed_28 : decode cX6_doFeed 28 = .ok (.iaload, 1) := by decide +kernel
theorem dX6_doFeed_29 : decode cX6_doFeed 29 = .ok (.iload_n 2, 1) := by decide +kernel
theorem dX6_doFeed_30 : decode cX6_doFeed 30 = .ok (.iadd, 1) := by decide +kernel
theorem dX6_doFeed_31 : decode cX6_doFeed 31 = .ok (.sipush 400, 3) := by decide +kernel
theorem dX6_doFeed_34 : decode cX6_doFeed 34 = .ok (.if_icmp .le 6, 3) := by decide +kernel
theorem dX6_doFeed_37 : decode cX6_doFeed 37 = .ok (.bipush (-4), 2) := by decide +kernel
theorem dX6_doFeed_39 : decode cX6_doFeed 39 = .ok (.ireturn, 1) := by decide +kernel
theorem dX6_doFeed_40 : decode cX6_doFeed 40 = .ok (.aload_n 0, 1) := by decide +kernel
theorem dX6_doFeed_41 : decode cX6_doFeed 41 = .ok (.getfield 7, 3) := by decide +kernel
theorem dX6_doFeed_44 : decode cX6_doFeed 44 = .ok (.bipush 15, 2) := by decide +kernel
theorem dX6_doFeed_46 : decode cX6_doFeed 46 = .ok (.iaload, 1) := by decide +kernel
theorem dX6_doFeed_47 : decode cX6_doFeed 47 = .ok (.istore_n 3, 1) := by decide +kernel
theorem dX6_doFeed_48 : decode cX6_doFeed 48 = .ok (.iconst 0, 1) := by decide +kernel
theorem dX6_doFeed_49 : decode cX6_doFeed 49 = .ok (.istore 4, 2) := by decide +kernel
theorem dX6_doFeed_51 : decode cX6_doFeed 51 = .ok (.iload 4, 2) := by decide +kernel
theorem dX6_doFeed_53 : decode cX6_doFeed 53 = .ok (.iload_n 2, 1) := by decide +kernel
theorem dX6_doFeed_54 : decode cX6_doFeed 54 = .ok (.if_icmp .ge 14, 3) := by decide +kernel
theorem dX6_doFeed_57 : decode cX6_doFeed 57 = .ok (.aload_n 0, 1) := by decide +kernel
theorem dX6_doFeed_58 : decode cX6_doFeed 58 = .ok (.iload_n 1, 1) := by decide +kernel
theorem dX6_doFeed_59 : decode cX6_doFeed 59 = .ok (.invokevirtual 75, 3) := by decide +kernel
theorem dX6_doFeed_62 : decode cX6_doFeed 62 = .ok (.iinc 4 1, 3) := by decide +kernel
theorem dX6_doFeed_65 : decode cX6_doFeed 65 = .ok (.goto (-14), 3) := by decide +kernel
theorem dX6_doFeed_68 : decode cX6_doFeed 68 = .ok (.aload_n 0, 1) := by decide +kernel
theorem dX6_doFeed_69 : decode cX6_doFeed 69 = .ok (.getfield 7, 3) := by decide +kernel
theorem dX6_doFeed_72 : decode cX6_doFeed 72 = .ok (.bipush 15, 2) := by decide +kernel
theorem dX6_doFeed_74 : decode cX6_doFeed 74 = .ok (.iaload, 1) := by decide +kernel
theorem dX6_doFeed_75 : decode cX6_doFeed 75 = .ok (.iload_n 3, 1) := by decide +kernel
theorem dX6_doFeed_76 : decode cX6_doFeed 76 = .ok (.isub, 1) := by decide +kernel
theorem dX6_doFeed_77 : decode cX6_doFeed 77 = .ok (.ireturn, 1) := by decide +kernel
theorem dX6_isSetting_0 : decode cX6_isSetting 0 = .ok (.iload_n 0, 1) := by decide +kernel
theorem dX6_isSetting_1 : decode cX6_isSetting 1 = .ok (.tableswitch 116 0 8 #[51, 61, 66, 61, 61, 76, 86, 96, 106], 51) := by decide +kernel
theorem dX6_isSetting_52 : decode cX6_isSetting 52 = .ok (.iload_n 1, 1) := by decide +kernel
theorem dX6_isSetting_53 : decode cX6_isSetting 53 = .ok (.i2l, 1) := by decide +kernel
theorem dX6_isSetting_54 : decode cX6_isSetting 54 = .ok (.lconst 0, 1) := by decide +kernel
theorem dX6_isSetting_55 : decode cX6_isSetting 55 = .ok (.ldc2_w 78, 3) := by decide +kernel
theorem dX6_isSetting_58 : decode cX6_isSetting 58 = .ok (.invokestatic 67, 3) := by decide +kernel
theorem dX6_isSetting_61 : decode cX6_isSetting 61 = .ok (.ireturn, 1) := by decide +kernel
theorem dX6_isSetting_62 : decode cX6_isSetting 62 = .ok (.iload_n 1, 1) := by decide +kernel
theorem dX6_isSetting_63 : decode cX6_isSetting 63 = .ok (.invokestatic 71, 3) := by decide +kernel
theorem dX6_isSetting_66 : decode cX6_isSetting 66 = .ok (.ireturn, 1) := by decide +kernel
theorem dX6_isSetting_67 : decode cX6_isSetting 67 = .ok (.iload_n 1, 1) := by decide +kernel
theorem dX6_isSetting_68 : decode cX6_isSetting 68 = .ok (.i2l, 1) := by decide +kernel
theorem dX6_isSetting_69 : decode cX6_isSetting 69 = .ok (.lconst 0, 1) := by decide +kernel
theorem dX6_isSetting_70 : decode cX6_isSetting 70 = .ok (.ldc2_w 80, 3) := by decide +kernel
theorem dX6_isSetting_73 : decode cX6_isSetting 73 = .ok (.invokestatic 67, 3) := by decide +kernel
theorem dX6_isSetting_76 : decode cX6_isSetting 76 = .ok (.ireturn, 1) := by decide +kernel
theorem dX6_isSetting_77 : decode cX6_isSetting 77 = .ok (.iload_n 1, 1) := by decide +kernel
theorem dX6_isSetting_78 : decode cX6_isSetting 78 = .ok (.i2l, 1) := by decide +kernel
theorem dX6_isSetting_79 : decode cX6_isSetting 79 = .ok (.lconst 1, 1) := by decide +kernel
theorem dX6_isSetting_80 : decode cX6_isSetting 80 = .ok (.ldc2_w 82, 3) := by decide +kernel
theorem dX6_isSetting_83 : decode cX6_isSetting 83 = .ok (.invokestatic 67, 3) := by decide +kernel
theorem dX6_isSetting_86 : decode cX6_isSetting 86 = .ok (.ireturn, 1) := by decide +kernel
theorem dX6_isSetting_87 : decode cX6_isSetting 87 = .ok (.iload_n 1, 1) := by decide +kernel
theorem dX6_isSetting_88 : decode cX6_isSetting 88 = .ok (.i2l, 1) := by decide +kernel
theorem dX6_isSetting_89 : decode cX6_isSetting 89 = .ok (.lconst 0, 1) := by decide +kernel
theorem dX6_isSetting_90 : decode cX6_isSetting 90 = .ok (.ldc2_w 84, 3) := by decide +kernel
theorem dX6_isSetting_93 : decode cX6_isSetting 93 = .ok (.invokestatic 67, 3) := by decide +kernel
theorem dX6_isSetting_96 : decode cX6_isSetting 96 = .ok (.ireturn, 1) := by decide +kernel
theorem dX6_isSetting_97 : decode cX6_isSetting 97 = .ok (.iload_n 1, 1) := by decide +kernel
theorem dX6_isSetting_98 : decode cX6_isSetting 98 = .ok (.i2l, 1) := by decide +kernel
theorem dX6_isSetting_99 : decode cX6_isSetting 99 = .ok (.lconst 0, 1) := by decide +kernel
theorem dX6_isSetting_100 : decode cX6_isSetting 100 = .ok (.ldc2_w 86, 3) := by decide +kernel
theorem dX6_isSetting_103 : decode cX6_isSetting 103 = .ok (.invokestatic 67, 3) := by decide +kernel
theorem dX6_isSetting_106 : decode cX6_isSetting 106 = .ok (.ireturn, 1) := by decide +kernel
theorem dX6_isSetting_107 : decode cX6_isSetting 107 = .ok (.iload_n 1, 1) := by decide +kernel
theorem dX6_isSetting_108 : decode cX6_isSetting 108 = .ok (.i2l, 1) := by decide +kernel
theorem dX6_isSetting_109 : decode cX6_isSetting 109 = .ok (.lconst 1, 1) := by decide +kernel
theorem dX6_isSetting_110 : decode cX6_isSetting 110 = .ok (.ldc2_w 88, 3) := by decide +kernel
theorem dX6_isSetting_113 : decode cX6_isSetting 113 = .ok (.invokestatic 67, 3) := by decide +kernel
theorem dX6_isSetting_116 : decode cX6_isSetting 116 = .ok (.ireturn, 1) := by decide +kernel
theorem dX6_isSetting_117 : decode cX6_isSetting 117 = .ok (.iload_n 0, 1) := by decide +kernel
theorem dX6_isSetting_118 : decode cX6_isSetting 118 = .ok (.bipush 9, 2) := by decide +kernel
theorem dX6_isSetting_120 : decode cX6_isSetting 120 = .ok (.if_icmp .ne 17, 3) := by decide +kernel
theorem dX6_isSetting_123 : decode cX6_isSetting 123 = .ok (.iload_n 1, 1) := by decide +kernel
theorem dX6_isSetting_124 : decode cX6_isSetting 124 = .ok (.i2l, 1) := by decide +kernel
theorem dX6_isSetting_125 : decode cX6_isSetting 125 = .ok (.lconst 0, 1) := by decide +kernel
theorem dX6_isSetting_126 : decode cX6_isSetting 126 = .ok (.lconst 1, 1) := by decide +kernel
theorem dX6_isSetting_127 : decode cX6_isSetting 127 = .ok (.invokestatic 67, 3) := by decide +kernel
theorem dX6_isSetting_130 : decode cX6_isSetting 130 = .ok (.ifCond .eq 7, 3) := by decide +kernel
theorem dX6_isSetting_133 : decode cX6_isSetting 133 = .ok (.iconst 1, 1) := by decide +kernel
theorem dX6_isSetting_134 : decode cX6_isSetting 134 = .ok (.goto 4, 3) := by decide +kernel
theorem dX6_isSetting_137 : decode cX6_isSetting 137 = .ok (.iconst 0, 1) := by decide +kernel
theorem dX6_isSetting_138 : decode cX6_isSetting 138 = .ok (.ireturn, 1) := by decide +kernel
theorem dX6_doSet_0 : decode cX6_doSet 0 = .ok (.iload_n 1, 1) := by decide +kernel
theorem dX6_doSet_1 : decode cX6_doSet 1 = .ok (.iload_n 2, 1) := by decide +kernel
theorem dX6_doSet_2 : decode cX6_doSet 2 = .ok (.invokestatic 90, 3) := by decide +kernel
theorem dX6_doSet_5 : decode cX6_doSet 5 = .ok (.ifCond .ne 6, 3) := by decide +kernel
theorem dX6_doSet_8 : decode cX6_doSet 8 = .ok (.bipush (-2), 2) := by decide +kernel
theorem dX6_doSet_10 : decode cX6_doSet 10 = .ok (.ireturn, 1) := by decide +kernel
theorem dX6_doSet_11 : decode cX6_doSet 11 = .ok (.iload_n 1, 1) := by decide +kernel
theorem dX6_doSet_12 : decode cX6_doSet 12 = .ok (.iconst 5, 1) := by decide +kernel
theorem dX6_doSet_13 : decode cX6_doSet 13 = .ok (.if_icmp .eq 9, 3) := by decide +kernel
theorem dX6_doSet_16 : decode cX6_doSet 16 = .ok (.iload_n 1, 1) := by decide +kernel
theorem dX6_doSet_17 : decode cX6_doSet 17 = .ok (.bipush 6, 2) := by decide +kernel
theorem dX6_doSet_19 : decode cX6_doSet 19 = .ok (.if_icmp .ne 7, 3) := by decide +kernel
theorem dX6_doSet_22 : decode cX6_doSet 22 = .ok (.iconst 1, 1) := by decide +kernel
theorem dX6_doSet_23 : decode cX6_doSet 23 = .ok (.goto 4, 3) := by decide +kernel
theorem dX6_doSet_26 : decode cX6_doSet 26 = .ok (.iconst 0, 1) := by decide +kernel
theorem dX6_doSet_27 : decode cX6_doSet 27 = .ok (.istore_n 3, 1) := by decide +kernel
theorem dX6_doSet_28 : decode cX6_doSet 28 = .ok (.iload_n 1, 1) := by decide +kernel
theorem dX6_doSet_29 : decode cX6_doSet 29 = .ok (.iconst 3, 1) := by decide +kernel
theorem dX6_doSet_30 : decode cX6_doSet 30 = .ok (.if_icmp .ne 7, 3) := by decide +kernel
theorem dX6_doSet_33 : decode cX6_doSet 33 = .ok (.iload_n 2, 1) := by decide +kernel
theorem dX6_doSet_34 : decode cX6_doSet 34 = .ok (.goto 9, 3) := by decide +kernel
theorem dX6_doSet_37 : decode cX6_doSet 37 = .ok (.aload_n 0, 1) := by decide +kernel
theorem dX6_doSet_38 : decode cX6_doSet 38 = .ok (.getfield 7, 3) := by decide +kernel
theorem dX6_doSet_41 : decode cX6_doSet 41 = .ok (.iconst 3, 1) := by decide +kernel
theorem dX6_doSet_42 : decode cX6_doSet 42 = .ok (.iaload, 1) := by decide +kernel
theorem dX6_doSet_43 : decode cX6_doSet 43 = .ok (.istore 4, 2) := by decide +kernel
theorem dX6_doSet_45 : decode cX6_doSet 45 = .ok (.iload_n 1, 1) := by decide +kernel
theorem dX6_doSet_46 : decode cX6_doSet 46 = .ok (.iconst 4, 1) := by decide +kernel
theorem dX6_doSet_47 : decode cX6_doSet 47 = .ok (.if_icmp .ne 7, 3) := by decide +kernel
theorem dX6_doSet_50 : decode cX6_doSet 50 = .ok (.iload_n 2, 1) := by decide +kernel
theorem dX6_doSet_51 : decode cX6_doSet 51 = .ok (.goto 9, 3) := by decide +kernel
theorem dX6_doSet_54 : decode cX6_doSet 54 = .ok (.aload_n 0, 1) := by decide +kernel
theorem dX6_doSet_55 : decode cX6_doSet 55 = .ok (.getfield 7, 3) := by decide +kernel
theorem dX6_doSet_58 : decode cX6_doSet 58 = .ok (.iconst 4, 1) := by decide +kernel
theorem dX6_doSet_59 : decode cX6_doSet 59 = .ok (.iaload, 1) := by decide +kernel
theorem dX6_doSet_60 : decode cX6_doSet 60 = .ok (.istore 5, 2) := by decide +kernel
theorem dX6_doSet_62 : decode cX6_doSet 62 = .ok (.iload_n 1, 1) := by decide +kernel
theorem dX6_doSet_63 : decode cX6_doSet 63 = .ok (.iconst 5, 1) := by decide +kernel
theorem dX6_doSet_64 : decode cX6_doSet 64 = .ok (.if_icmp .ne 7, 3) := by decide +kernel
theorem dX6_doSet_67 : decode cX6_doSet 67 = .ok (.iload_n 2, 1) := by decide +kernel
theorem dX6_doSet_68 : decode cX6_doSet 68 = .ok (.goto 9, 3) := by decide +kernel
theorem dX6_doSet_71 : decode cX6_doSet 71 = .ok (.aload_n 0, 1) := by decide +kernel
theorem dX6_doSet_72 : decode cX6_doSet 72 = .ok (.getfield 7, 3) := by decide +kernel
theorem dX6_doSet_75 : decode cX6_doSet 75 = .ok (.iconst 5, 1) := by decide +kernel
theorem dX6_doSet_76 : decode cX6_doSet 76 = .ok (.iaload, 1) := by decide +kernel
theorem dX6_doSet_77 : decode cX6_doSet 77 = .ok (.istore 6, 2) := by decide +kernel
theorem dX6_doSet_79 : decode cX6_doSet 79 = .ok (.iload_n 1, 1) := by decide +kernel
theorem dX6_doSet_80 : decode cX6_doSet 80 = .ok (.bipush 6, 2) := by decide +kernel
theorem dX6_doSet_82 : decode cX6_doSet 82 = .ok (.if_icmp .ne 7, 3) := by decide +kernel
theorem dX6_doSet_85 : decode cX6_doSet 85 = .ok (.iload_n 2, 1) := by decide +kernel
theorem dX6_doSet_86 : decode cX6_doSet 86 = .ok (.goto 10, 3) := by decide +kernel
theorem dX6_doSet_89 : decode cX6_doSet 89 = .ok (.aload_n 0, 1) := by decide +kernel
theorem dX6_doSet_90 : decode cX6_doSet 90 = .ok (.getfield 7, 3) := by decide +kernel
theorem dX6_doSet_93 : decode cX6_doSet 93 = .ok (.bipush 6, 2) := by decide +kernel
theorem dX6_doSet_95 : decode cX6_doSet 95 = .ok (.iaload, 1) := by decide +kernel
theorem dX6_doSet_96 : decode cX6_doSet 96 = .ok (.istore 7, 2) := by decide +kernel
theorem dX6_doSet_98 : decode cX6_doSet 98 = .ok (.iload 4, 2) := by decide +kernel
theorem dX6_doSet_100 : decode cX6_doSet 100 = .ok (.iload 5, 2) := by decide +kernel
theorem dX6_doSet_102 : decode cX6_doSet 102 = .ok (.if_icmp .ge 25, 3) := by decide +kernel
theorem dX6_doSet_105 : decode cX6_doSet 105 = .ok (.iload 7, 2) := by decide +kernel
theorem dX6_doSet_107 : decode cX6_doSet 107 = .ok (.iload 6, 2) := by decide +kernel
theorem dX6_doSet_109 : decode cX6_doSet 109 = .ok (.if_icmp .ge 18, 3) := by decide +kernel
theorem dX6_doSet_112 : decode cX6_doSet 112 = .ok (.iload_n 3, 1) := by decide +kernel
theorem dX6_doSet_113 : decode cX6_doSet 113 = .ok (.ifCond .eq 17, 3) := by decide +kernel
theorem dX6_doSet_116 : decode cX6_doSet 116 = .ok (.aload_n 0, 1) := by decide +kernel
theorem dX6_doSet_117 : decode cX6_doSet 117 = .ok (.getfield 7, 3) := by decide +kernel
theorem dX6_doSet_120 : decode cX6_doSet 120 = .ok (.bipush 17, 2) := by decide +kernel
theorem dX6_doSet_122 : decode cX6_doSet 122 = .ok (.iaload, 1) := by decide +kernel
theorem dX6_doSet_123 : decode cX6_doSet 123 = .ok (.iconst 1, 1) := by decide +kernel
theorem dX6_doSet_124 : decode cX6_doSet 124 = .ok (.if_icmp .ne 6, 3) := by decide +kernel
theorem dX6_doSet_127 : decode cX6_doSet 127 = .ok (.bipush (-5), 2) := by decide +kernel
theorem dX6_doSet_129 : decode cX6_doSet 129 = .ok (.ireturn, 1) := by decide +kernel
theorem dX6_doSet_130 : decode cX6_doSet 130 = .ok (.aload_n 0, 1) := by decide +kernel
theorem dX6_doSet_131 : decode cX6_doSet 131 = .ok (.getfield 7, 3) := by decide +kernel
theorem dX6_doSet_134 : decode cX6_doSet 134 = .ok (.iload_n 1, 1) := by decide +kernel
theorem dX6_doSet_135 : decode cX6_doSet 135 = .ok (.iaload, 1) := by decide +kernel
theorem dX6_doSet_136 : decode cX6_doSet 136 = .ok (.istore 8, 2) := by decide +kernel
theorem dX6_doSet_138 : decode cX6_doSet 138 = .ok (.aload_n 0, 1) := by decide +kernel
theorem dX6_doSet_139 : decode cX6_doSet 139 = .ok (.getfield 7, 3) := by decide +kernel
theorem dX6_doSet_142 : decode cX6_doSet 142 = .ok (.iload_n 1, 1) := by decide +kernel
theorem dX6_doSet_143 : decode cX6_doSet 143 = .ok (.iload_n 2, 1) := by decide +kernel
theorem dX6_doSet_144 : decode cX6_doSet 144 = .ok (.iastore, 1) := by decide +kernel
theorem dX6_doSet_145 : decode cX6_doSet 145 = .ok (.iload_n 1, 1) := by decide +kernel
theorem dX6_doSet_146 : decode cX6_doSet 146 = .ok (.iconst 4, 1) := by decide +kernel
theorem dX6_doSet_147 : decode cX6_doSet 147 = .ok (.if_icmp .gt 11, 3) := by decide +kernel
theorem dX6_doSet_150 : decode cX6_doSet 150 = .ok (.aload_n 0, 1) := by decide +kernel
theorem dX6_doSet_151 : decode cX6_doSet 151 = .ok (.getfield 7, 3) := by decide +kernel
theorem dX6_doSet_154 : decode cX6_doSet 154 = .ok (.bipush 11, 2) := by decide +kernel
theorem dX6_doSet_156 : decode cX6_doSet 156 = .ok (.iconst 0, 1) := by decide +kernel
theorem dX6_doSet_157 : decode cX6_doSet 157 = .ok (.iastore, 1) := by decide +kernel
theorem dX6_doSet_158 : decode cX6_doSet 158 = .ok (.aload_n 0, 1) := by decide +kernel
theorem dX6_doSet_159 : decode cX6_doSet 159 = .ok (.aload_n 0, 1) := by decide +kernel
theorem dX6_doSet_160 : decode cX6_doSet 160 = .ok (.getfield 7, 3) := by decide +kernel
theorem dX6_doSet_163 : decode cX6_doSet 163 = .ok (.bipush 8, 2) := by decide +kernel
theorem dX6_doSet_165 : decode cX6_doSet 165 = .ok (.iaload, 1) := by decide +kernel
theorem dX6_doSet_166 : decode cX6_doSet 166 = .ok (.invokevirtual 43, 3) := by decide +kernel
theorem dX6_doSet_169 : decode cX6_doSet 169 = .ok (.iload 8, 2) := by decide +kernel
theorem dX6_doSet_171 : decode cX6_doSet 171 = .ok (.sipush 1000, 3) := by decide +kernel
theorem dX6_doSet_174 : decode cX6_doSet 174 = .ok (.iadd, 1) := by decide +kernel
theorem dX6_doSet_175 : decode cX6_doSet 175 = .ok (.ireturn, 1) := by decide +kernel
theorem dX6_doClear_0 : decode cX6_doClear 0 = .ok (.aload_n 0, 1) := by decide +kernel
theorem dX6_doClear_1 : decode cX6_doClear 1 = .ok (.getfield 7, 3) := by decide +kernel
theorem dX6_doClear_4 : decode cX6_doClear 4 = .ok (.bipush 22, 2) := by decide +kernel
theorem dX6_doClear_6 : decode cX6_doClear 6 = .ok (.iaload, 1) := by decide +kernel
theorem dX6_doClear_7 : decode cX6_doClear 7 = .ok (.istore_n 1, 1) := by decide +kernel
theorem dX6_doClear_8 : decode cX6_doClear 8 = .ok (.aload_n 0, 1) := by decide +kernel
theorem dX6_doClear_9 : decode cX6_doClear 9 = .ok (.getfield 7, 3) := by decide +kernel
theorem dX6_doClear_12 : decode cX6_doClear 12 = .ok (.bipush 10, 2) := by decide +kernel
theorem dX6_doClear_14 : decode cX6_doClear 14 = .ok (.iconst 0, 1) := by decide +kernel
theorem dX6_doClear_15 : decode cX6_doClear 15 = .ok (.iastore, 1) := by decide +kernel
theorem dX6_doClear_16 : decode cX6_doClear 16 = .ok (.aload_n 0, 1) := by decide +kernel
theorem dX6_doClear_17 : decode cX6_doClear 17 = .ok (.getfield 7, 3) := by decide +kernel
theorem dX6_doClear_20 : decode cX6_doClear 20 = .ok (.bipush 11, 2) := by decide +kernel
theorem dX6_doClear_22 : decode cX6_doClear 22 = .ok (.iconst 0, 1) := by decide +kernel
theorem dX6_doClear_23 : decode cX6_doClear 23 = .ok (.iastore, 1) := by decide +kernel
theorem dX6_doClear_24 : decode cX6_doClear 24 = .ok (.aload_n 0, 1) := by decide +kernel
theorem dX6_doClear_25 : decode cX6_doClear 25 = .ok (.getfield 7, 3) := by decide +kernel
theorem dX6_doClear_28 : decode cX6_doClear 28 = .ok (.bipush 16, 2) := by decide +kernel
theorem dX6_doClear_30 : decode cX6_doClear 30 = .ok (.iconst 0, 1) := by decide +kernel
theorem dX6_doClear_31 : decode cX6_doClear 31 = .ok (.iastore, 1) := by decide +kernel
theorem dX6_doClear_32 : decode cX6_doClear 32 = .ok (.aload_n 0, 1) := by decide +kernel
theorem dX6_doClear_33 : decode cX6_doClear 33 = .ok (.getfield 7, 3) := by decide +kernel
theorem dX6_doClear_36 : decode cX6_doClear 36 = .ok (.bipush 17, 2) := by decide +kernel
theorem dX6_doClear_38 : decode cX6_doClear 38 = .ok (.iconst 0, 1) := by decide +kernel
theorem dX6_doClear_39 : decode cX6_doClear 39 = .ok (.iastore, 1) := by decide +kernel
theorem dX6_doClear_40 : decode cX6_doClear 40 = .ok (.aload_n 0, 1) := by decide +kernel
theorem dX6_doClear_41 : decode cX6_doClear 41 = .ok (.getfield 7, 3) := by decide +kernel
theorem dX6_doClear_44 : decode cX6_doClear 44 = .ok (.bipush 22, 2) := by decide +kernel
theorem dX6_doClear_46 : decode cX6_doClear 46 = .ok (.iconst 0, 1) := by decide +kernel
theorem dX6_doClear_47 : decode cX6_doClear 47 = .ok (.iastore, 1) := by decide +kernel
theorem dX6_doClear_48 : decode cX6_doClear 48 = .ok (.iload_n 1, 1) := by decide +kernel
theorem dX6_doClear_49 : decode cX6_doClear 49 = .ok (.ireturn, 1) := by decide +kernel
theorem dX6_set_0 : decode cX6_set 0 = .ok (.aload_n 0, 1) := by decide +kernel
theorem dX6_set_1 : decode cX6_set 1 = .ok (.invokevirtual 94, 3) := by decide +kernel
theorem dX6_set_4 : decode cX6_set 4 = .ok (.aload_n 0, 1) := by decide +kernel
theorem dX6_set_5 : decode cX6_set 5 = .ok (.iload_n 1, 1) := by decide +kernel
theorem dX6_set_6 : decode cX6_set 6 = .ok (.iload_n 2, 1) := by decide +kernel
theorem dX6_set_7 : decode cX6_set 7 = .ok (.invokevirtual 97, 3) := by decide +kernel
theorem dX6_set_10 : decode cX6_set 10 = .ok (.istore_n 3, 1) := by decide +kernel
theorem dX6_set_11 : decode cX6_set 11 = .ok (.iload_n 3, 1) := by decide +kernel
theorem dX6_set_12 : decode cX6_set 12 = .ok (.ifCond .ge 7, 3) := by decide +kernel
theorem dX6_set_15 : decode cX6_set 15 = .ok (.iload_n 3, 1) := by decide +kernel
theorem dX6_set_16 : decode cX6_set 16 = .ok (.goto 8, 3) := by decide +kernel
theorem dX6_set_19 : decode cX6_set 19 = .ok (.aload_n 0, 1) := by decide +kernel
theorem dX6_set_20 : decode cX6_set 20 = .ok (.iload_n 3, 1) := by decide +kernel
theorem dX6_set_21 : decode cX6_set 21 = .ok (.invokevirtual 101, 3) := by decide +kernel
theorem dX6_set_24 : decode cX6_set 24 = .ok (.ireturn, 1) := by decide +kernel
theorem dX6_feed_0 : decode cX6_feed 0 = .ok (.aload_n 0, 1) := by decide +kernel
theorem dX6_feed_1 : decode cX6_feed 1 = .ok (.invokevirtual 94, 3) := by decide +kernel
theorem dX6_feed_4 : decode cX6_feed 4 = .ok (.aload_n 0, 1) := by decide +kernel
theorem dX6_feed_5 : decode cX6_feed 5 = .ok (.iload_n 1, 1) := by decide +kernel
theorem dX6_feed_6 : decode cX6_feed 6 = .ok (.iload_n 2, 1) := by decide +kernel
theorem dX6_feed_7 : decode cX6_feed 7 = .ok (.invokevirtual 105, 3) := by decide +kernel
theorem dX6_feed_10 : decode cX6_feed 10 = .ok (.istore_n 3, 1) := by decide +kernel
theorem dX6_feed_11 : decode cX6_feed 11 = .ok (.iload_n 3, 1) := by decide +kernel
theorem dX6_feed_12 : decode cX6_feed 12 = .ok (.ifCond .ge 7, 3) := by decide +kernel
theorem dX6_feed_15 : decode cX6_feed 15 = .ok (.iload_n 3, 1) := by decide +kernel
theorem dX6_feed_16 : decode cX6_feed 16 = .ok (.goto 8, 3) := by decide +kernel
theorem dX6_feed_19 : decode cX6_feed 19 = .ok (.aload_n 0, 1) := by decide +kernel
theorem dX6_feed_20 : decode cX6_feed 20 = .ok (.iload_n 3, 1) := by decide +kernel
theorem dX6_feed_21 : decode cX6_feed 21 = .ok (.invokevirtual 101, 3) := by decide +kernel
theorem dX6_feed_24 : decode cX6_feed 24 = .ok (.ireturn, 1) := by decide +kernel
theorem dX6_clear_0 : decode cX6_clear 0 = .ok (.aload_n 0, 1) := by decide +kernel
theorem dX6_clear_1 : decode cX6_clear 1 = .ok (.invokevirtual 94, 3) := by decide +kernel
theorem dX6_clear_4 : decode cX6_clear 4 = .ok (.aload_n 0, 1) := by decide +kernel
theorem dX6_clear_5 : decode cX6_clear 5 = .ok (.aload_n 0, 1) := by decide +kernel
theorem dX6_clear_6 : decode cX6_clear 6 = .ok (.invokevirtual 108, 3) := by decide +kernel
theorem dX6_clear_9 : decode cX6_clear 9 = .ok (.invokevirtual 101, 3) := by decide +kernel
theorem dX6_clear_12 : decode cX6_clear 12 = .ok (.ireturn, 1) := by decide +kernel
theorem dX6_isSegment_0 : decode cX6_isSegment 0 = .ok (.iload_n 1, 1) := by decide +kernel
theorem dX6_isSegment_1 : decode cX6_isSegment 1 = .ok (.i2l, 1) := by decide +kernel
theorem dX6_isSegment_2 : decode cX6_isSegment 2 = .ok (.lconst 0, 1) := by decide +kernel
theorem dX6_isSegment_3 : decode cX6_isSegment 3 = .ok (.aload_n 0, 1) := by decide +kernel
theorem dX6_isSegment_4 : decode cX6_isSegment 4 = .ok (.getfield 7, 3) := by decide +kernel
theorem dX6_isSegment_7 : decode cX6_isSegment 7 = .ok (.bipush 22, 2) := by decide +kernel
theorem dX6_isSegment_9 : decode cX6_isSegment 9 = .ok (.iaload, 1) := by decide +kernel
theorem dX6_isSegment_10 : decode cX6_isSegment 10 = .ok (.i2l, 1) := by decide +kernel
theorem dX6_isSegment_11 : decode cX6_isSegment 11 = .ok (.lconst 1, 1) := by decide +kernel
theorem dX6_isSegment_12 : decode cX6_isSegment 12 = .ok (.lsub, 1) := by decide +kernel
theorem dX6_isSegment_13 : decode cX6_isSegment 13 = .ok (.invokestatic 67, 3) := by decide +kernel
theorem dX6_isSegment_16 : decode cX6_isSegment 16 = .ok (.ireturn, 1) := by decide +kernel
theorem dX6_drop_0 : decode cX6_drop 0 = .ok (.aload_n 0, 1) := by decide +kernel
theorem dX6_drop_1 : decode cX6_drop 1 = .ok (.iload_n 1, 1) := by decide +kernel
theorem dX6_drop_2 : decode cX6_drop 2 = .ok (.invokevirtual 111, 3) := by decide +kernel
theorem dX6_drop_5 : decode cX6_drop 5 = .ok (.ifCond .ne 5, 3) := by decide +kernel
theorem dX6_drop_8 : decode cX6_drop 8 = .ok (.iconst (-1), 1) := by decide +kernel
theorem dX6_drop_9 : decode cX6_drop 9 = .ok (.ireturn, 1) := by decide +kernel
theorem dX6_drop_10 : decode cX6_drop 10 = .ok (.aload_n 0, 1) := by decide +kernel
theorem dX6_drop_11 : decode cX6_drop 11 = .ok (.invokevirtual 94, 3) := by decide +kernel
theorem dX6_drop_14 : decode cX6_drop 14 = .ok (.aload_n 0, 1) := by decide +kernel
theorem dX6_drop_15 : decode cX6_drop 15 = .ok (.iload_n 1, 1) := by decide +kernel
theorem dX6_drop_16 : decode cX6_drop 16 = .ok (.invokevirtual 39, 3) := by decide +kernel
theorem dX6_drop_19 : decode cX6_drop 19 = .ok (.aload_n 0, 1) := by decide +kernel
theorem dX6_drop_20 : decode cX6_drop 20 = .ok (.aload_n 0, 1) := by decide +kernel
theorem dX6_drop_21 : decode cX6_drop 21 = .ok (.getfield 7, 3) := by decide +kernel
theorem dX6_drop_24 : decode cX6_drop 24 = .ok (.bipush 22, 2) := by decide +kernel
theorem dX6_drop_26 : decode cX6_drop 26 = .ok (.iaload, 1) := by decide +kernel
theorem dX6_drop_27 : decode cX6_drop 27 = .ok (.invokevirtual 101, 3) := by decide +kernel
theorem dX6_drop_30 : decode cX6_drop 30 = .ok (.ireturn, 1) := by decide +kernel
theorem dX6_of_0 : decode cX6_of 0 = .ok (.aload_n 0, 1) := by decide +kernel
theorem dX6_of_1 : decode cX6_of 1 = .ok (.getfield 7, 3) := by decide +kernel
theorem dX6_of_4 : decode cX6_of 4 = .ok (.bipush 23, 2) := by decide +kernel
theorem dX6_of_6 : decode cX6_of 6 = .ok (.iconst 4, 1) := by decide +kernel
theorem dX6_of_7 : decode cX6_of 7 = .ok (.iload_n 1, 1) := by decide +kernel
theorem dX6_of_8 : decode cX6_of 8 = .ok (.imul, 1) := by decide +kernel
theorem dX6_of_9 : decode cX6_of 9 = .ok (.iadd, 1) := by decide +kernel
theorem dX6_of_10 : decode cX6_of 10 = .ok (.iload_n 2, 1) := by decide +kernel
theorem dX6_of_11 : decode cX6_of 11 = .ok (.iadd, 1) := by decide +kernel
theorem dX6_of_12 : decode cX6_of 12 = .ok (.iaload, 1) := by decide +kernel
theorem dX6_of_13 : decode cX6_of 13 = .ok (.ireturn, 1) := by decide +kernel
theorem dX6_numberOf_0 : decode cX6_numberOf 0 = .ok (.aload_n 0, 1) := by decide +kernel
theorem dX6_numberOf_1 : decode cX6_numberOf 1 = .ok (.iload_n 1, 1) := by decide +kernel
theorem dX6_numberOf_2 : decode cX6_numberOf 2 = .ok (.iconst 0, 1) := by decide +kernel
theorem dX6_numberOf_3 : decode cX6_numberOf 3 = .ok (.invokevirtual 114, 3) := by decide +kernel
theorem dX6_numberOf_6 : decode cX6_numberOf 6 = .ok (.aload_n 0, 1) := by decide +kernel
theorem dX6_numberOf_7 : decode cX6_numberOf 7 = .ok (.iload_n 1, 1) := by decide +kernel
theorem dX6_numberOf_8 : decode cX6_numberOf 8 = .ok (.iconst 2, 1) := by decide +kernel
theorem dX6_numberOf_9 : decode cX6_numberOf 9 = .ok (.invokevirtual 114, 3) := by decide +kernel
theorem dX6_numberOf_12 : decode cX6_numberOf 12 = .ok (.isub, 1) := by decide +kernel
theorem dX6_numberOf_13 : decode cX6_numberOf 13 = .ok (.iload_n 2, 1) := by decide +kernel
theorem dX6_numberOf_14 : decode cX6_numberOf 14 = .ok (.iadd, 1) := by decide +kernel
theorem dX6_numberOf_15 : decode cX6_numberOf 15 = .ok (.ireturn, 1) := by decide +kernel
theorem dX6_sampleAt_0 : decode cX6_sampleAt 0 = .ok (.aload_n 0, 1) := by decide +kernel
theorem dX6_sampleAt_1 : decode cX6_sampleAt 1 = .ok (.getfield 7, 3) := by decide +kernel
theorem dX6_sampleAt_4 : decode cX6_sampleAt 4 = .ok (.bipush 47, 2) := by decide +kernel
theorem dX6_sampleAt_6 : decode cX6_sampleAt 6 = .ok (.aload_n 0, 1) := by decide +kernel
theorem dX6_sampleAt_7 : decode cX6_sampleAt 7 = .ok (.iload_n 1, 1) := by decide +kernel
theorem dX6_sampleAt_8 : decode cX6_sampleAt 8 = .ok (.iload_n 2, 1) := by decide +kernel
theorem dX6_sampleAt_9 : decode cX6_sampleAt 9 = .ok (.invokevirtual 117, 3) := by decide +kernel
theorem dX6_sampleAt_12 : decode cX6_sampleAt 12 = .ok (.iadd, 1) := by decide +kernel
theorem dX6_sampleAt_13 : decode cX6_sampleAt 13 = .ok (.iaload, 1) := by decide +kernel
theorem dX6_sampleAt_14 : decode cX6_sampleAt 14 = .ok (.ireturn, 1) := by decide +kernel
theorem dX6_least_0 : decode cX6_least 0 = .ok (.bipush 100, 2) := by decide +kernel
theorem dX6_least_2 : decode cX6_least 2 = .ok (.istore_n 2, 1) := by decide +kernel
theorem dX6_least_3 : decode cX6_least 3 = .ok (.iconst 0, 1) := by decide +kernel
theorem dX6_least_4 : decode cX6_least 4 = .ok (.istore_n 3, 1) := by decide +kernel
theorem dX6_least_5 : decode cX6_least 5 = .ok (.iload_n 3, 1) := by decide +kernel
theorem dX6_least_6 : decode cX6_least 6 = .ok (.aload_n 0, 1) := by decide +kernel
theorem dX6_least_7 : decode cX6_least 7 = .ok (.iload_n 1, 1) := by decide +kernel
theorem dX6_least_8 : decode cX6_least 8 = .ok (.iconst 1, 1) := by decide +kernel
theorem dX6_least_9 : decode cX6_least 9 = .ok (.invokevirtual 114, 3) := by decide +kernel
theorem dX6_least_12 : decode cX6_least 12 = .ok (.if_icmp .ge 30, 3) := by decide +kernel
theorem dX6_least_15 : decode cX6_least 15 = .ok (.aload_n 0, 1) := by decide +kernel
theorem dX6_least_16 : decode cX6_least 16 = .ok (.iload_n 1, 1) := by decide +kernel
theorem dX6_least_17 : decode cX6_least 17 = .ok (.iload_n 3, 1) := by decide +kernel
theorem dX6_least_18 : decode cX6_least 18 = .ok (.invokevirtual 120, 3) := by decide +kernel
theorem dX6_least_21 : decode cX6_least 21 = .ok (.istore 4, 2) := by decide +kernel
theorem dX6_least_23 : decode cX6_least 23 = .ok (.iload 4, 2) := by decide +kernel
theorem dX6_least_25 : decode cX6_least 25 = .ok (.iload_n 2, 1) := by decide +kernel
theorem dX6_least_26 : decode cX6_least 26 = .ok (.if_icmp .ge 8, 3) := by decide +kernel
theorem dX6_least_29 : decode cX6_least 29 = .ok (.iload 4, 2) := by decide +kernel
theorem dX6_least_31 : decode cX6_least 31 = .ok (.goto 4, 3) := by decide +kernel
theorem dX6_least_34 : decode cX6_least 34 = .ok (.iload_n 2, 1) := by decide +kernel
theorem dX6_least_35 : decode cX6_least 35 = .ok (.istore_n 2, 1) := by decide +kernel
theorem dX6_least_36 : decode cX6_least 36 = .ok (.iinc 3 1, 3) := by decide +kernel
theorem dX6_least_39 : decode cX6_least 39 = .ok (.goto (-34), 3) := by decide +kernel
theorem dX6_least_42 : decode cX6_least 42 = .ok (.iload_n 2, 1) := by decide +kernel
theorem dX6_least_43 : decode cX6_least 43 = .ok (.ireturn, 1) := by decide +kernel
theorem dX6_greatest_0 : decode cX6_greatest 0 = .ok (.bipush (-100), 2) := by decide +kernel
theorem dX6_greatest_2 : decode cX6_greatest 2 = .ok (.istore_n 2, 1) := by decide +kernel
theorem dX6_greatest_3 : decode cX6_greatest 3 = .ok (.iconst 0, 1) := by decide +kernel
theorem dX6_greatest_4 : decode cX6_greatest 4 = .ok (.istore_n 3, 1) := by decide +kernel
theorem dX6_greatest_5 : decode cX6_greatest 5 = .ok (.iload_n 3, 1) := by decide +kernel
theorem dX6_greatest_6 : decode cX6_greatest 6 = .ok (.aload_n 0, 1) := by decide +kernel
theorem dX6_greatest_7 : decode cX6_greatest 7 = .ok (.iload_n 1, 1) := by decide +kernel
theorem dX6_greatest_8 : decode cX6_greatest 8 = .ok (.iconst 1, 1) := by decide +kernel
theorem dX6_greatest_9 : decode cX6_greatest 9 = .ok (.invokevirtual 114, 3) := by decide +kernel
theorem dX6_greatest_12 : decode cX6_greatest 12 = .ok (.if_icmp .ge 30, 3) := by decide +kernel
theorem dX6_greatest_15 : decode cX6_greatest 15 = .ok (.aload_n 0, 1) := by decide +kernel
theorem dX6_greatest_16 : decode cX6_greatest 16 = .ok (.iload_n 1, 1) := by decide +kernel
theorem dX6_greatest_17 : decode cX6_greatest 17 = .ok (.iload_n 3, 1) := by decide +kernel
theorem dX6_greatest_18 : decode cX6_greatest 18 = .ok (.invokevirtual 120, 3) := by decide +kernel
theorem dX6_greatest_21 : decode cX6_greatest 21 = .ok (.istore 4, 2) := by decide +kernel
theorem dX6_greatest_23 : decode cX6_greatest 23 = .ok (.iload 4, 2) := by decide +kernel
theorem dX6_greatest_25 : decode cX6_greatest 25 = .ok (.iload_n 2, 1) := by decide +kernel
theorem dX6_greatest_26 : decode cX6_greatest 26 = .ok (.if_icmp .le 8, 3) := by decide +kernel
theorem dX6_greatest_29 : decode cX6_greatest 29 = .ok (.iload 4, 2) := by decide +kernel
theorem dX6_greatest_31 : decode cX6_greatest 31 = .ok (.goto 4, 3) := by decide +kernel
theorem dX6_greatest_34 : decode cX6_greatest 34 = .ok (.iload_n 2, 1) := by decide +kernel
theorem dX6_greatest_35 : decode cX6_greatest 35 = .ok (.istore_n 2, 1) := by decide +kernel
theorem dX6_greatest_36 : decode cX6_greatest 36 = .ok (.iinc 3 1, 3) := by decide +kernel
theorem dX6_greatest_39 : decode cX6_greatest 39 = .ok (.goto (-34), 3) := by decide +kernel
theorem dX6_greatest_42 : decode cX6_greatest 42 = .ok (.iload_n 2, 1) := by decide +kernel
theorem dX6_greatest_43 : decode cX6_greatest 43 = .ok (.ireturn, 1) := by decide +kernel
theorem dX6_sumOf_0 : decode cX6_sumOf 0 = .ok (.iconst 0, 1) := by decide +kernel
theorem dX6_sumOf_1 : decode cX6_sumOf 1 = .ok (.istore_n 2, 1) := by decide +kernel
theorem dX6_sumOf_2 : decode cX6_sumOf 2 = .ok (.iconst 0, 1) := by decide +kernel
theorem dX6_sumOf_3 : decode cX6_sumOf 3 = .ok (.istore_n 3, 1) := by decide +kernel
theorem dX6_sumOf_4 : decode cX6_sumOf 4 = .ok (.iload_n 3, 1) := by decide +kernel
theorem dX6_sumOf_5 : decode cX6_sumOf 5 = .ok (.aload_n 0, 1) := by decide +kernel
theorem dX6_sumOf_6 : decode cX6_sumOf 6 = .ok (.iload_n 1, 1) := by decide +kernel
theorem dX6_sumOf_7 : decode cX6_sumOf 7 = .ok (.iconst 1, 1) := by decide +kernel
theorem dX6_sumOf_8 : decode cX6_sumOf 8 = .ok (.invokevirtual 114, 3) := by decide +kernel
theorem dX6_sumOf_11 : decode cX6_sumOf 11 = .ok (.if_icmp .ge 18, 3) := by decide +kernel
theorem dX6_sumOf_14 : decode cX6_sumOf 14 = .ok (.iload_n 2, 1) := by decide +kernel
theorem dX6_sumOf_15 : decode cX6_sumOf 15 = .ok (.aload_n 0, 1) := by decide +kernel
theorem dX6_sumOf_16 : decode cX6_sumOf 16 = .ok (.iload_n 1, 1) := by decide +kernel
theorem dX6_sumOf_17 : decode cX6_sumOf 17 = .ok (.iload_n 3, 1) := by decide +kernel
theorem dX6_sumOf_18 : decode cX6_sumOf 18 = .ok (.invokevirtual 120, 3) := by decide +kernel
theorem dX6_sumOf_21 : decode cX6_sumOf 21 = .ok (.iadd, 1) := by decide +kernel
theorem dX6_sumOf_22 : decode cX6_sumOf 22 = .ok (.istore_n 2, 1) := by decide +kernel
theorem dX6_sumOf_23 : decode cX6_sumOf 23 = .ok (.iinc 3 1, 3) := by decide +kernel
theorem dX6_sumOf_26 : decode cX6_sumOf 26 = .ok (.goto (-22), 3) := by decide +kernel
theorem dX6_sumOf_29 : decode cX6_sumOf 29 = .ok (.iload_n 2, 1) := by decide +kernel
theorem dX6_sumOf_30 : decode cX6_sumOf 30 = .ok (.ireturn, 1) := by decide +kernel
theorem dX6_risesIn_0 : decode cX6_risesIn 0 = .ok (.iconst 0, 1) := by decide +kernel
theorem dX6_risesIn_1 : decode cX6_risesIn 1 = .ok (.istore_n 2, 1) := by decide +kernel
theorem dX6_risesIn_2 : decode cX6_risesIn 2 = .ok (.iconst 1, 1) := by decide +kernel
theorem dX6_risesIn_3 : decode cX6_risesIn 3 = .ok (.istore_n 3, 1) := by decide +kernel
theorem dX6_risesIn_4 : decode cX6_risesIn 4 = .ok (.iload_n 3, 1) := by decide +kernel
theorem dX6_risesIn_5 : decode cX6_risesIn 5 = .ok (.aload_n 0, 1) := by decide +kernel
theorem dX6_risesIn_6 : decode cX6_risesIn 6 = .ok (.iload_n 1, 1) := by decide +kernel
theorem dX6_risesIn_7 : decode cX6_risesIn 7 = .ok (.iconst 1, 1) := by decide +kernel
theorem dX6_risesIn_8 : decode cX6_risesIn 8 = .ok (.invokevirtual 114, 3) := by decide +kernel
theorem dX6_risesIn_11 : decode cX6_risesIn 11 = .ok (.if_icmp .ge 34, 3) := by decide +kernel
theorem dX6_risesIn_14 : decode cX6_risesIn 14 = .ok (.iload_n 2, 1) := by decide +kernel
theorem dX6_risesIn_15 : decode cX6_risesIn 15 = .ok (.aload_n 0, 1) := by decide +kernel
theorem dX6_risesIn_16 : decode cX6_risesIn 16 = .ok (.iload_n 1, 1) := by decide +kernel
theorem dX6_risesIn_17 : decode cX6_risesIn 17 = .ok (.iload_n 3, 1) := by decide +kernel
theorem dX6_risesIn_18 : decode cX6_risesIn 18 = .ok (.invokevirtual 120, 3) := by decide +kernel
theorem dX6_risesIn_21 : decode cX6_risesIn 21 = .ok (.aload_n 0, 1) := by decide +kernel
theorem dX6_risesIn_22 : decode cX6_risesIn 22 = .ok (.iload_n 1, 1) := by decide +kernel
theorem dX6_risesIn_23 : decode cX6_risesIn 23 = .ok (.iload_n 3, 1) := by decide +kernel
theorem dX6_risesIn_24 : decode cX6_risesIn 24 = .ok (.iconst 1, 1) := by decide +kernel
theorem dX6_risesIn_25 : decode cX6_risesIn 25 = .ok (.isub, 1) := by decide +kernel
theorem dX6_risesIn_26 : decode cX6_risesIn 26 = .ok (.invokevirtual 120, 3) := by decide +kernel
theorem dX6_risesIn_29 : decode cX6_risesIn 29 = .ok (.if_icmp .le 7, 3) := by decide +kernel
theorem dX6_risesIn_32 : decode cX6_risesIn 32 = .ok (.iconst 1, 1) := by decide +kernel
theorem dX6_risesIn_33 : decode cX6_risesIn 33 = .ok (.goto 4, 3) := by decide +kernel
theorem dX6_risesIn_36 : decode cX6_risesIn 36 = .ok (.iconst 0, 1) := by decide +kernel
theorem dX6_risesIn_37 : decode cX6_risesIn 37 = .ok (.iadd, 1) := by decide +kernel
theorem dX6_risesIn_38 : decode cX6_risesIn 38 = .ok (.istore_n 2, 1) := by decide +kernel
theorem dX6_risesIn_39 : decode cX6_risesIn 39 = .ok (.iinc 3 1, 3) := by decide +kernel
theorem dX6_risesIn_42 : decode cX6_risesIn 42 = .ok (.goto (-38), 3) := by decide +kernel
theorem dX6_risesIn_45 : decode cX6_risesIn 45 = .ok (.iload_n 2, 1) := by decide +kernel
theorem dX6_risesIn_46 : decode cX6_risesIn 46 = .ok (.ireturn, 1) := by decide +kernel
theorem dX6_segment_0 : decode cX6_segment 0 = .ok (.aload_n 0, 1) := by decide +kernel
theorem dX6_segment_1 : decode cX6_segment 1 = .ok (.iload_n 1, 1) := by decide +kernel
theorem dX6_segment_2 : decode cX6_segment 2 = .ok (.invokevirtual 111, 3) := by decide +kernel
theorem dX6_segment_5 : decode cX6_segment 5 = .ok (.ifCond .ne 5, 3) := by decide +kernel
theorem dX6_segment_8 : decode cX6_segment 8 = .ok (.iconst (-1), 1) := by decide +kernel
theorem dX6_segment_9 : decode cX6_segment 9 = .ok (.ireturn, 1) := by decide +kernel
theorem dX6_segment_10 : decode cX6_segment 10 = .ok (.iload_n 2, 1) := by decide +kernel
theorem dX6_segment_11 : decode cX6_segment 11 = .ok (.tableswitch 88 0 7 #[45, 45, 45, 45, 52, 62, 72, 82], 45) := by decide +kernel
theorem dX6_segment_56 : decode cX6_segment 56 = .ok (.aload_n 0, 1) := by decide +kernel
theorem dX6_segment_57 : decode cX6_segment 57 = .ok (.iload_n 1, 1) := by decide +kernel
theorem dX6_segment_58 : decode cX6_segment 58 = .ok (.iload_n 2, 1) := by decide +kernel
theorem dX6_segment_59 : decode cX6_segment 59 = .ok (.invokevirtual 114, 3) := by decide +kernel
theorem dX6_segment_62 : decode cX6_segment 62 = .ok (.ireturn, 1) := by decide +kernel
theorem dX6_segment_63 : decode cX6_segment 63 = .ok (.aload_n 0, 1) := by decide +kernel
theorem dX6_segment_64 : decode cX6_segment 64 = .ok (.iload_n 1, 1) := by decide +kernel
theorem dX6_segment_65 : decode cX6_segment 65 = .ok (.invokevirtual 123, 3) := by decide +kernel
theorem dX6_segment_68 : decode cX6_segment 68 = .ok (.sipush 1000, 3) := by decide +kernel
theorem dX6_segment_71 : decode cX6_segment 71 = .ok (.iadd, 1) := by decide +kernel
theorem dX6_segment_72 : decode cX6_segment 72 = .ok (.ireturn, 1) := by decide +kernel
theorem dX6_segment_73 : decode cX6_segment 73 = .ok (.aload_n 0, 1) := by decide +kernel
theorem dX6_segment_74 : decode cX6_segment 74 = .ok (.iload_n 1, 1) := by decide +kernel
theorem dX6_segment_75 : decode cX6_segment 75 = .ok (.invokevirtual 126, 3) := by decide +kernel
theorem dX6_segment_78 : decode cX6_segment 78 = .ok (.sipush 1000, 3) := by decide +kernel
theorem dX6_segment_81 : decode cX6_segment 81 = .ok (.iadd, 1) := by decide +kernel
theorem dX6_segment_82 : decode cX6_segment 82 = .ok (.ireturn, 1) := by decide +kernel
theorem dX6_segment_83 : decode cX6_segment 83 = .ok (.aload_n 0, 1) := by decide +kernel
theorem dX6_segment_84 : decode cX6_segment 84 = .ok (.iload_n 1, 1) := by decide +kernel
theorem dX6_segment_85 : decode cX6_segment 85 = .ok (.invokevirtual 129, 3) := by decide +kernel
theorem dX6_segment_88 : decode cX6_segment 88 = .ok (.sipush 10000, 3) := by decide +kernel
theorem dX6_segment_91 : decode cX6_segment 91 = .ok (.iadd, 1) := by decide +kernel
theorem dX6_segment_92 : decode cX6_segment 92 = .ok (.ireturn, 1) := by decide +kernel
theorem dX6_segment_93 : decode cX6_segment 93 = .ok (.aload_n 0, 1) := by decide +kernel
theorem dX6_segment_94 : decode cX6_segment 94 = .ok (.iload_n 1, 1) := by decide +kernel
theorem dX6_segment_95 : decode cX6_segment 95 = .ok (.invokevirtual 132, 3) := by decide +kernel
theorem dX6_segment_98 : decode cX6_segment 98 = .ok (.ireturn, 1) := by decide +kernel
theorem dX6_segment_99 : decode cX6_segment 99 = .ok (.bipush (-2), 2) := by decide +kernel
theorem dX6_segment_101 : decode cX6_segment 101 = .ok (.ireturn, 1) := by decide +kernel
theorem dX6_sampleOf_0 : decode cX6_sampleOf 0 = .ok (.aload_n 0, 1) := by decide +kernel
theorem dX6_sampleOf_1 : decode cX6_sampleOf 1 = .ok (.iload_n 1, 1) := by decide +kernel
theorem dX6_sampleOf_2 : decode cX6_sampleOf 2 = .ok (.invokevirtual 111, 3) := by decide +kernel
theorem dX6_sampleOf_5 : decode cX6_sampleOf 5 = .ok (.ifCond .eq 21, 3) := by decide +kernel
theorem dX6_sampleOf_8 : decode cX6_sampleOf 8 = .ok (.iload_n 2, 1) := by decide +kernel
theorem dX6_sampleOf_9 : decode cX6_sampleOf 9 = .ok (.i2l, 1) := by decide +kernel
theorem dX6_sampleOf_10 : decode cX6_sampleOf 10 = .ok (.lconst 0, 1) := by decide +kernel
theorem dX6_sampleOf_11 : decode cX6_sampleOf 11 = .ok (.aload_n 0, 1) := by decide +kernel
theorem dX6_sampleOf_12 : decode cX6_sampleOf 12 = .ok (.iload_n 1, 1) := by decide +kernel
theorem dX6_sampleOf_13 : decode cX6_sampleOf 13 = .ok (.iconst 1, 1) := by decide +kernel
theorem dX6_sampleOf_14 : decode cX6_sampleOf 14 = .ok (.invokevirtual 114, 3) := by decide +kernel
theorem dX6_sampleOf_17 : decode cX6_sampleOf 17 = .ok (.i2l, 1) := by decide +kernel
theorem dX6_sampleOf_18 : decode cX6_sampleOf 18 = .ok (.lconst 1, 1) := by decide +kernel
theorem dX6_sampleOf_19 : decode cX6_sampleOf 19 = .ok (.lsub, 1) := by decide +kernel
theorem dX6_sampleOf_20 : decode cX6_sampleOf 20 = .ok (.invokestatic 67, 3) := by decide +kernel
theorem dX6_sampleOf_23 : decode cX6_sampleOf 23 = .ok (.ifCond .ne 5, 3) := by decide +kernel
theorem dX6_sampleOf_26 : decode cX6_sampleOf 26 = .ok (.iconst (-1), 1) := by decide +kernel
theorem dX6_sampleOf_27 : decode cX6_sampleOf 27 = .ok (.ireturn, 1) := by decide +kernel
theorem dX6_sampleOf_28 : decode cX6_sampleOf 28 = .ok (.aload_n 0, 1) := by decide +kernel
theorem dX6_sampleOf_29 : decode cX6_sampleOf 29 = .ok (.iload_n 1, 1) := by decide +kernel
theorem dX6_sampleOf_30 : decode cX6_sampleOf 30 = .ok (.iload_n 2, 1) := by decide +kernel
theorem dX6_sampleOf_31 : decode cX6_sampleOf 31 = .ok (.invokevirtual 120, 3) := by decide +kernel
theorem dX6_sampleOf_34 : decode cX6_sampleOf 34 = .ok (.sipush 1000, 3) := by decide +kernel
theorem dX6_sampleOf_37 : decode cX6_sampleOf 37 = .ok (.iadd, 1) := by decide +kernel
theorem dX6_sampleOf_38 : decode cX6_sampleOf 38 = .ok (.ireturn, 1) := by decide +kernel
theorem dX6_sample_0 : decode cX6_sample 0 = .ok (.iload_n 1, 1) := by decide +kernel
theorem dX6_sample_1 : decode cX6_sample 1 = .ok (.i2l, 1) := by decide +kernel
theorem dX6_sample_2 : decode cX6_sample 2 = .ok (.lconst 0, 1) := by decide +kernel
theorem dX6_sample_3 : decode cX6_sample 3 = .ok (.aload_n 0, 1) := by decide +kernel
theorem dX6_sample_4 : decode cX6_sample 4 = .ok (.getfield 7, 3) := by decide +kernel
theorem dX6_sample_7 : decode cX6_sample 7 = .ok (.bipush 10, 2) := by decide +kernel
theorem dX6_sample_9 : decode cX6_sample 9 = .ok (.iaload, 1) := by decide +kernel
theorem dX6_sample_10 : decode cX6_sample 10 = .ok (.i2l, 1) := by decide +kernel
theorem dX6_sample_11 : decode cX6_sample 11 = .ok (.lconst 1, 1) := by decide +kernel
theorem dX6_sample_12 : decode cX6_sample 12 = .ok (.lsub, 1) := by decide +kernel
theorem dX6_sample_13 : decode cX6_sample 13 = .ok (.invokestatic 67, 3) := by decide +kernel
theorem dX6_sample_16 : decode cX6_sample 16 = .ok (.ifCond .eq 19, 3) := by decide +kernel
theorem dX6_sample_19 : decode cX6_sample 19 = .ok (.aload_n 0, 1) := by decide +kernel
theorem dX6_sample_20 : decode cX6_sample 20 = .ok (.getfield 7, 3) := by decide +kernel
theorem dX6_sample_23 : decode cX6_sample 23 = .ok (.bipush 47, 2) := by decide +kernel
theorem dX6_sample_25 : decode cX6_sample 25 = .ok (.iload_n 1, 1) := by decide +kernel
theorem dX6_sample_26 : decode cX6_sample 26 = .ok (.iadd, 1) := by decide +kernel
theorem dX6_sample_27 : decode cX6_sample 27 = .ok (.iaload, 1) := by decide +kernel
theorem dX6_sample_28 : decode cX6_sample 28 = .ok (.sipush 1000, 3) := by decide +kernel
theorem dX6_sample_31 : decode cX6_sample 31 = .ok (.iadd, 1) := by decide +kernel
theorem dX6_sample_32 : decode cX6_sample 32 = .ok (.goto 4, 3) := by decide +kernel
theorem dX6_sample_35 : decode cX6_sample 35 = .ok (.iconst (-1), 1) := by decide +kernel
theorem dX6_sample_36 : decode cX6_sample 36 = .ok (.ireturn, 1) := by decide +kernel
theorem dX6_phase_0 : decode cX6_phase 0 = .ok (.aload_n 0, 1) := by decide +kernel
theorem dX6_phase_1 : decode cX6_phase 1 = .ok (.getfield 7, 3) := by decide +kernel
theorem dX6_phase_4 : decode cX6_phase 4 = .ok (.bipush 17, 2) := by decide +kernel
theorem dX6_phase_6 : decode cX6_phase 6 = .ok (.iaload, 1) := by decide +kernel
theorem dX6_phase_7 : decode cX6_phase 7 = .ok (.iconst 1, 1) := by decide +kernel
theorem dX6_phase_8 : decode cX6_phase 8 = .ok (.if_icmp .ne 7, 3) := by decide +kernel
theorem dX6_phase_11 : decode cX6_phase 11 = .ok (.iconst 3, 1) := by decide +kernel
theorem dX6_phase_12 : decode cX6_phase 12 = .ok (.goto 26, 3) := by decide +kernel
theorem dX6_phase_15 : decode cX6_phase 15 = .ok (.aload_n 0, 1) := by decide +kernel
theorem dX6_phase_16 : decode cX6_phase 16 = .ok (.invokevirtual 50, 3) := by decide +kernel
theorem dX6_phase_19 : decode cX6_phase 19 = .ok (.ifCond .ne 7, 3) := by decide +kernel
theorem dX6_phase_22 : decode cX6_phase 22 = .ok (.iconst 2, 1) := by decide +kernel
theorem dX6_phase_23 : decode cX6_phase 23 = .ok (.goto 15, 3) := by decide +kernel
theorem dX6_phase_26 : decode cX6_phase 26 = .ok (.aload_n 0, 1) := by decide +kernel
theorem dX6_phase_27 : decode cX6_phase 27 = .ok (.invokevirtual 46, 3) := by decide +kernel
theorem dX6_phase_30 : decode cX6_phase 30 = .ok (.ifCond .eq 7, 3) := by decide +kernel
theorem dX6_phase_33 : decode cX6_phase 33 = .ok (.iconst 1, 1) := by decide +kernel
theorem dX6_phase_34 : decode cX6_phase 34 = .ok (.goto 4, 3) := by decide +kernel
theorem dX6_phase_37 : decode cX6_phase 37 = .ok (.iconst 0, 1) := by decide +kernel
theorem dX6_phase_38 : decode cX6_phase 38 = .ok (.ireturn, 1) := by decide +kernel
theorem dX6_count_0 : decode cX6_count 0 = .ok (.iload_n 1, 1) := by decide +kernel
theorem dX6_count_1 : decode cX6_count 1 = .ok (.i2l, 1) := by decide +kernel
theorem dX6_count_2 : decode cX6_count 2 = .ok (.ldc2_w 135, 3) := by decide +kernel
theorem dX6_count_5 : decode cX6_count 5 = .ok (.ldc2_w 137, 3) := by decide +kernel
theorem dX6_count_8 : decode cX6_count 8 = .ok (.invokestatic 67, 3) := by decide +kernel
theorem dX6_count_11 : decode cX6_count 11 = .ok (.ifCond .eq 17, 3) := by decide +kernel
theorem dX6_count_14 : decode cX6_count 14 = .ok (.aload_n 0, 1) := by decide +kernel
theorem dX6_count_15 : decode cX6_count 15 = .ok (.getfield 7, 3) := by decide +kernel
theorem dX6_count_18 : decode cX6_count 18 = .ok (.iload_n 1, 1) := by decide +kernel
theorem dX6_count_19 : decode cX6_count 19 = .ok (.bipush 10, 2) := by decide +kernel
theorem dX6_count_21 : decode cX6_count 21 = .ok (.isub, 1) := by decide +kernel
theorem dX6_count_22 : decode cX6_count 22 = .ok (.iaload, 1) := by decide +kernel
theorem dX6_count_23 : decode cX6_count 23 = .ok (.sipush 1000, 3) := by decide +kernel
theorem dX6_count_26 : decode cX6_count 26 = .ok (.iadd, 1) := by decide +kernel
theorem dX6_count_27 : decode cX6_count 27 = .ok (.ireturn, 1) := by decide +kernel
theorem dX6_count_28 : decode cX6_count 28 = .ok (.iload_n 1, 1) := by decide +kernel
theorem dX6_count_29 : decode cX6_count 29 = .ok (.tableswitch 187 0 21 #[103, 111, 119, 124, 132, 140, 148, 156, 164, 172, 187, 187, 187, 187, 187, 187, 187, 187, 187, 187, 177, 182], 103) := by decide +kernel
theorem dX6_count_132 : decode cX6_count 132 = .ok (.aload_n 0, 1) := by decide +kernel
theorem dX6_count_133 : decode cX6_count 133 = .ok (.getfield 7, 3) := by decide +kernel
theorem dX6_count_136 : decode cX6_count 136 = .ok (.bipush 10, 2) := by decide +kernel
theorem dX6_count_138 : decode cX6_count 138 = .ok (.iaload, 1) := by decide +kernel
theorem dX6_count_139 : decode cX6_count 139 = .ok (.ireturn, 1) := by decide +kernel
theorem dX6_count_140 : decode cX6_count 140 = .ok (.aload_n 0, 1) := by decide +kernel
theorem dX6_count_141 : decode cX6_count 141 = .ok (.getfield 7, 3) := by decide +kernel
theorem dX6_count_144 : decode cX6_count 144 = .ok (.bipush 22, 2) := by decide +kernel
theorem dX6_count_146 : decode cX6_count 146 = .ok (.iaload, 1) := by decide +kernel
theorem dX6_count_147 : decode cX6_count 147 = .ok (.ireturn, 1) := by decide +kernel
theorem dX6_count_148 : decode cX6_count 148 = .ok (.aload_n 0, 1) := by decide +kernel
theorem dX6_count_149 : decode cX6_count 149 = .ok (.invokevirtual 139, 3) := by decide +kernel
theorem dX6_count_152 : decode cX6_count 152 = .ok (.ireturn, 1) := by decide +kernel
theorem dX6_count_153 : decode cX6_count 153 = .ok (.aload_n 0, 1) := by decide +kernel
theorem dX6_count_154 : decode cX6_count 154 = .ok (.getfield 7, 3) := by decide +kernel
theorem dX6_count_157 : decode cX6_count 157 = .ok (.bipush 11, 2) := by decide +kernel
theorem dX6_count_159 : decode cX6_count 159 = .ok (.iaload, 1) := by decide +kernel
theorem dX6_count_160 : decode cX6_count 160 = .ok (.ireturn, 1) := by decide +kernel
theorem dX6_count_161 : decode cX6_count 161 = .ok (.aload_n 0, 1) := by decide +kernel
theorem dX6_count_162 : decode cX6_count 162 = .ok (.getfield 7, 3) := by decide +kernel
theorem dX6_count_165 : decode cX6_count 165 = .ok (.bipush 12, 2) := by decide +kernel
theorem dX6_count_167 : decode cX6_count 167 = .ok (.iaload, 1) := by decide +kernel
theorem dX6_count_168 : decode cX6_count 168 = .ok (.ireturn, 1) := by decide +kernel
theorem dX6_count_169 : decode cX6_count 169 = .ok (.aload_n 0, 1) := by decide +kernel
theorem dX6_count_170 : decode cX6_count 170 = .ok (.getfield 7, 3) := by decide +kernel
theorem dX6_count_173 : decode cX6_count 173 = .ok (.bipush 13, 2) := by decide +kernel
theorem dX6_count_175 : decode cX6_count 175 = .ok (.iaload, 1) := by decide +kernel
theorem dX6_count_176 : decode cX6_count 176 = .ok (.ireturn, 1) := by decide +kernel
theorem dX6_count_177 : decode cX6_count 177 = .ok (.aload_n 0, 1) := by decide +kernel
theorem dX6_count_178 : decode cX6_count 178 = .ok (.getfield 7, 3) := by decide +kernel
theorem dX6_count_181 : decode cX6_count 181 = .ok (.bipush 14, 2) := by decide +kernel
theorem dX6_count_183 : decode cX6_count 183 = .ok (.iaload, 1) := by decide +kernel
theorem dX6_count_184 : decode cX6_count 184 = .ok (.ireturn, 1) := by decide +kernel
theorem dX6_count_185 : decode cX6_count 185 = .ok (.aload_n 0, 1) := by decide +kernel
theorem dX6_count_186 : decode cX6_count 186 = .ok (.getfield 7, 3) := by decide +kernel
theorem dX6_count_189 : decode cX6_count 189 = .ok (.bipush 15, 2) := by decide +kernel
theorem dX6_count_191 : decode cX6_count 191 = .ok (.iaload, 1) := by decide +kernel
theorem dX6_count_192 : decode cX6_count 192 = .ok (.ireturn, 1) := by decide +kernel
theorem dX6_count_193 : decode cX6_count 193 = .ok (.aload_n 0, 1) := by decide +kernel
theorem dX6_count_194 : decode cX6_count 194 = .ok (.getfield 7, 3) := by decide +kernel
theorem dX6_count_197 : decode cX6_count 197 = .ok (.bipush 16, 2) := by decide +kernel
theorem dX6_count_199 : decode cX6_count 199 = .ok (.iaload, 1) := by decide +kernel
theorem dX6_count_200 : decode cX6_count 200 = .ok (.ireturn, 1) := by decide +kernel
theorem dX6_count_201 : decode cX6_count 201 = .ok (.aload_n 0, 1) := by decide +kernel
theorem dX6_count_202 : decode cX6_count 202 = .ok (.invokevirtual 56, 3) := by decide +kernel
theorem dX6_count_205 : decode cX6_count 205 = .ok (.ireturn, 1) := by decide +kernel
theorem dX6_count_206 : decode cX6_count 206 = .ok (.aload_n 0, 1) := by decide +kernel
theorem dX6_count_207 : decode cX6_count 207 = .ok (.getfield 142, 3) := by decide +kernel
theorem dX6_count_210 : decode cX6_count 210 = .ok (.ireturn, 1) := by decide +kernel
theorem dX6_count_211 : decode cX6_count 211 = .ok (.aload_n 0, 1) := by decide +kernel
theorem dX6_count_212 : decode cX6_count 212 = .ok (.getfield 28, 3) := by decide +kernel
theorem dX6_count_215 : decode cX6_count 215 = .ok (.ireturn, 1) := by decide +kernel
theorem dX6_count_216 : decode cX6_count 216 = .ok (.bipush (-2), 2) := by decide +kernel
theorem dX6_count_218 : decode cX6_count 218 = .ok (.ireturn, 1) := by decide +kernel
theorem dX6_isLevel_0 : decode cX6_isLevel 0 = .ok (.aload_n 0, 1) := by decide +kernel
theorem dX6_isLevel_1 : decode cX6_isLevel 1 = .ok (.getfield 7, 3) := by decide +kernel
theorem dX6_isLevel_4 : decode cX6_isLevel 4 = .ok (.iconst 0, 1) := by decide +kernel
theorem dX6_isLevel_5 : decode cX6_isLevel 5 = .ok (.iaload, 1) := by decide +kernel
theorem dX6_isLevel_6 : decode cX6_isLevel 6 = .ok (.iconst 1, 1) := by decide +kernel
theorem dX6_isLevel_7 : decode cX6_isLevel 7 = .ok (.if_icmp .le 13, 3) := by decide +kernel
theorem dX6_isLevel_10 : decode cX6_isLevel 10 = .ok (.iload_n 1, 1) := by decide +kernel
theorem dX6_isLevel_11 : decode cX6_isLevel 11 = .ok (.aload_n 0, 1) := by decide +kernel
theorem dX6_isLevel_12 : decode cX6_isLevel 12 = .ok (.getfield 7, 3) := by decide +kernel
theorem dX6_isLevel_15 : decode cX6_isLevel 15 = .ok (.iconst 4, 1) := by decide +kernel
theorem dX6_isLevel_16 : decode cX6_isLevel 16 = .ok (.iaload, 1) := by decide +kernel
theorem dX6_isLevel_17 : decode cX6_isLevel 17 = .ok (.if_icmp .ge 7, 3) := by decide +kernel
theorem dX6_isLevel_20 : decode cX6_isLevel 20 = .ok (.iconst 1, 1) := by decide +kernel
theorem dX6_isLevel_21 : decode cX6_isLevel 21 = .ok (.goto 4, 3) := by decide +kernel
theorem dX6_isLevel_24 : decode cX6_isLevel 24 = .ok (.iconst 0, 1) := by decide +kernel
theorem dX6_isLevel_25 : decode cX6_isLevel 25 = .ok (.ireturn, 1) := by decide +kernel
theorem dX6_fires_0 : decode cX6_fires 0 = .ok (.iload_n 1, 1) := by decide +kernel
theorem dX6_fires_1 : decode cX6_fires 1 = .ok (.invokestatic 71, 3) := by decide +kernel
theorem dX6_fires_4 : decode cX6_fires 4 = .ok (.ifCond .ne 6, 3) := by decide +kernel
theorem dX6_fires_7 : decode cX6_fires 7 = .ok (.bipush (-2), 2) := by decide +kernel
theorem dX6_fires_9 : decode cX6_fires 9 = .ok (.ireturn, 1) := by decide +kernel
theorem dX6_fires_10 : decode cX6_fires 10 = .ok (.aload_n 0, 1) := by decide +kernel
theorem dX6_fires_11 : decode cX6_fires 11 = .ok (.iload_n 1, 1) := by decide +kernel
theorem dX6_fires_12 : decode cX6_fires 12 = .ok (.invokevirtual 145, 3) := by decide +kernel
theorem dX6_fires_15 : decode cX6_fires 15 = .ok (.ifCond .eq 11, 3) := by decide +kernel
theorem dX6_fires_18 : decode cX6_fires 18 = .ok (.aload_n 0, 1) := by decide +kernel
theorem dX6_fires_19 : decode cX6_fires 19 = .ok (.iload_n 1, 1) := by decide +kernel
theorem dX6_fires_20 : decode cX6_fires 20 = .ok (.invokevirtual 148, 3) := by decide +kernel
theorem dX6_fires_23 : decode cX6_fires 23 = .ok (.goto 5, 3) := by decide +kernel
theorem dX6_fires_26 : decode cX6_fires 26 = .ok (.bipush (-5), 2) := by decide +kernel
theorem dX6_fires_28 : decode cX6_fires 28 = .ok (.ireturn, 1) := by decide +kernel
theorem dX6_bestLevel_0 : decode cX6_bestLevel 0 = .ok (.iload_n 1, 1) := by decide +kernel
theorem dX6_bestLevel_1 : decode cX6_bestLevel 1 = .ok (.i2l, 1) := by decide +kernel
theorem dX6_bestLevel_2 : decode cX6_bestLevel 2 = .ok (.lconst 0, 1) := by decide +kernel
theorem dX6_bestLevel_3 : decode cX6_bestLevel 3 = .ok (.lconst 1, 1) := by decide +kernel
theorem dX6_bestLevel_4 : decode cX6_bestLevel 4 = .ok (.invokestatic 67, 3) := by decide +kernel
theorem dX6_bestLevel_7 : decode cX6_bestLevel 7 = .ok (.ifCond .ne 6, 3) := by decide +kernel
theorem dX6_bestLevel_10 : decode cX6_bestLevel 10 = .ok (.bipush (-2), 2) := by decide +kernel
theorem dX6_bestLevel_12 : decode cX6_bestLevel 12 = .ok (.ireturn, 1) := by decide +kernel
theorem dX6_bestLevel_13 : decode cX6_bestLevel 13 = .ok (.bipush (-6), 2) := by decide +kernel
theorem dX6_bestLevel_15 : decode cX6_bestLevel 15 = .ok (.istore_n 2, 1) := by decide +kernel
theorem dX6_bestLevel_16 : decode cX6_bestLevel 16 = .ok (.bipush (-6), 2) := by decide +kernel
theorem dX6_bestLevel_18 : decode cX6_bestLevel 18 = .ok (.istore_n 3, 1) := by decide +kernel
theorem dX6_bestLevel_19 : decode cX6_bestLevel 19 = .ok (.bipush (-100), 2) := by decide +kernel
theorem dX6_bestLevel_21 : decode cX6_bestLevel 21 = .ok (.istore 4, 2) := by decide +kernel
theorem dX6_bestLevel_23 : decode cX6_bestLevel 23 = .ok (.iload 4, 2) := by decide +kernel
theorem dX6_bestLevel_25 : decode cX6_bestLevel 25 = .ok (.bipush 100, 2) := by decide +kernel
theorem dX6_bestLevel_27 : decode cX6_bestLevel 27 = .ok (.if_icmp .gt 52, 3) := by decide +kernel
theorem dX6_bestLevel_30 : decode cX6_bestLevel 30 = .ok (.aload_n 0, 1) := by decide +kernel
theorem dX6_bestLevel_31 : decode cX6_bestLevel 31 = .ok (.iload 4, 2) := by decide +kernel
theorem dX6_bestLevel_33 : decode cX6_bestLevel 33 = .ok (.invokevirtual 145, 3) := by decide +kernel
theorem dX6_bestLevel_36 : decode cX6_bestLevel 36 = .ok (.ifCond .eq 43, 3) := by decide +kernel
theorem dX6_bestLevel_39 : decode cX6_bestLevel 39 = .ok (.aload_n 0, 1) := by decide +kernel
theorem dX6_bestLevel_40 : decode cX6_bestLevel 40 = .ok (.iload 4, 2) := by decide +kernel
theorem dX6_bestLevel_42 : decode cX6_bestLevel 42 = .ok (.invokevirtual 148, 3) := by decide +kernel
theorem dX6_bestLevel_45 : decode cX6_bestLevel 45 = .ok (.istore 5, 2) := by decide +kernel
theorem dX6_bestLevel_47 : decode cX6_bestLevel 47 = .ok (.iload 5, 2) := by decide +kernel
theorem dX6_bestLevel_49 : decode cX6_bestLevel 49 = .ok (.iload_n 3, 1) := by decide +kernel
theorem dX6_bestLevel_50 : decode cX6_bestLevel 50 = .ok (.if_icmp .le 8, 3) := by decide +kernel
theorem dX6_bestLevel_53 : decode cX6_bestLevel 53 = .ok (.iload 4, 2) := by decide +kernel
theorem dX6_bestLevel_55 : decode cX6_bestLevel 55 = .ok (.goto 4, 3) := by decide +kernel
theorem dX6_bestLevel_58 : decode cX6_bestLevel 58 = .ok (.iload_n 2, 1) := by decide +kernel
theorem dX6_bestLevel_59 : decode cX6_bestLevel 59 = .ok (.istore_n 2, 1) := by decide +kernel
theorem dX6_bestLevel_60 : decode cX6_bestLevel 60 = .ok (.iload 5, 2) := by decide +kernel
theorem dX6_bestLevel_62 : decode cX6_bestLevel 62 = .ok (.iload_n 3, 1) := by decide +kernel
theorem dX6_bestLevel_63 : decode cX6_bestLevel 63 = .ok (.if_icmp .le 8, 3) := by decide +kernel
theorem dX6_bestLevel_66 : decode cX6_bestLevel 66 = .ok (.iload 5, 2) := by decide +kernel
theorem dX6_bestLevel_68 : decode cX6_bestLevel 68 = .ok (.goto 4, 3) := by decide +kernel
theorem dX6_bestLevel_71 : decode cX6_bestLevel 71 = .ok (.iload_n 3, 1) := by decide +kernel
theorem dX6_bestLevel_72 : decode cX6_bestLevel 72 = .ok (.istore_n 3, 1) := by decide +kernel
theorem dX6_bestLevel_73 : decode cX6_bestLevel 73 = .ok (.iinc 4 1, 3) := by decide +kernel
theorem dX6_bestLevel_76 : decode cX6_bestLevel 76 = .ok (.goto (-53), 3) := by decide +kernel
theorem dX6_bestLevel_79 : decode cX6_bestLevel 79 = .ok (.iload_n 1, 1) := by decide +kernel
theorem dX6_bestLevel_80 : decode cX6_bestLevel 80 = .ok (.ifCond .ne 11, 3) := by decide +kernel
theorem dX6_bestLevel_83 : decode cX6_bestLevel 83 = .ok (.iload_n 2, 1) := by decide +kernel
theorem dX6_bestLevel_84 : decode cX6_bestLevel 84 = .ok (.sipush 1000, 3) := by decide +kernel
theorem dX6_bestLevel_87 : decode cX6_bestLevel 87 = .ok (.iadd, 1) := by decide +kernel
theorem dX6_bestLevel_88 : decode cX6_bestLevel 88 = .ok (.goto 4, 3) := by decide +kernel
theorem dX6_bestLevel_91 : decode cX6_bestLevel 91 = .ok (.iload_n 3, 1) := by decide +kernel
theorem dX6_bestLevel_92 : decode cX6_bestLevel 92 = .ok (.ireturn, 1) := by decide +kernel
theorem dX6_unlikeOf_0 : decode cX6_unlikeOf 0 = .ok (.aload_n 0, 1) := by decide +kernel
theorem dX6_unlikeOf_1 : decode cX6_unlikeOf 1 = .ok (.iload_n 1, 1) := by decide +kernel
theorem dX6_unlikeOf_2 : decode cX6_unlikeOf 2 = .ok (.iconst 2, 1) := by decide +kernel
theorem dX6_unlikeOf_3 : decode cX6_unlikeOf 3 = .ok (.invokevirtual 114, 3) := by decide +kernel
theorem dX6_unlikeOf_6 : decode cX6_unlikeOf 6 = .ok (.aload_n 0, 1) := by decide +kernel
theorem dX6_unlikeOf_7 : decode cX6_unlikeOf 7 = .ok (.iload_n 2, 1) := by decide +kernel
theorem dX6_unlikeOf_8 : decode cX6_unlikeOf 8 = .ok (.iconst 2, 1) := by decide +kernel
theorem dX6_unlikeOf_9 : decode cX6_unlikeOf 9 = .ok (.invokevirtual 114, 3) := by decide +kernel
theorem dX6_unlikeOf_12 : decode cX6_unlikeOf 12 = .ok (.if_icmp .ge 12, 3) := by decide +kernel
theorem dX6_unlikeOf_15 : decode cX6_unlikeOf 15 = .ok (.aload_n 0, 1) := by decide +kernel
theorem dX6_unlikeOf_16 : decode cX6_unlikeOf 16 = .ok (.iload_n 1, 1) := by decide +kernel
theorem dX6_unlikeOf_17 : decode cX6_unlikeOf 17 = .ok (.iconst 2, 1) := by decide +kernel
theorem dX6_unlikeOf_18 : decode cX6_unlikeOf 18 = .ok (.invokevirtual 114, 3) := by decide +kernel
theorem dX6_unlikeOf_21 : decode cX6_unlikeOf 21 = .ok (.goto 9, 3) := by decide +kernel
theorem dX6_unlikeOf_24 : decode cX6_unlikeOf 24 = .ok (.aload_n 0, 1) := by decide +kernel
theorem dX6_unlikeOf_25 : decode cX6_unlikeOf 25 = .ok (.iload_n 2, 1) := by decide +kernel
theorem dX6_unlikeOf_26 : decode cX6_unlikeOf 26 = .ok (.iconst 2, 1) := by decide +kernel
theorem dX6_unlikeOf_27 : decode cX6_unlikeOf 27 = .ok (.invokevirtual 114, 3) := by decide +kernel
theorem dX6_unlikeOf_30 : decode cX6_unlikeOf 30 = .ok (.istore_n 3, 1) := by decide +kernel
theorem dX6_unlikeOf_31 : decode cX6_unlikeOf 31 = .ok (.aload_n 0, 1) := by decide +kernel
theorem dX6_unlikeOf_32 : decode cX6_unlikeOf 32 = .ok (.iload_n 1, 1) := by decide +kernel
theorem dX6_unlikeOf_33 : decode cX6_unlikeOf 33 = .ok (.iconst 1, 1) := by decide +kernel
theorem dX6_unlikeOf_34 : decode cX6_unlikeOf 34 = .ok (.invokevirtual 114, 3) := by decide +kernel
theorem dX6_unlikeOf_37 : decode cX6_unlikeOf 37 = .ok (.aload_n 0, 1) := by decide +kernel
theorem dX6_unlikeOf_38 : decode cX6_unlikeOf 38 = .ok (.iload_n 1, 1) := by decide +kernel
theorem dX6_unlikeOf_39 : decode cX6_unlikeOf 39 = .ok (.iconst 2, 1) := by decide +kernel
theorem dX6_unlikeOf_40 : decode cX6_unlikeOf 40 = .ok (.invokevirtual 114, 3) := by decide +kernel
theorem dX6_unlikeOf_43 : decode cX6_unlikeOf 43 = .ok (.isub, 1) := by decide +kernel
theorem dX6_unlikeOf_44 : decode cX6_unlikeOf 44 = .ok (.istore 4, 2) := by decide +kernel
theorem dX6_unlikeOf_46 : decode cX6_unlikeOf 46 = .ok (.aload_n 0, 1) := by decide +kernel
theorem dX6_unlikeOf_47 : decode cX6_unlikeOf 47 = .ok (.iload_n 2, 1) := by decide +kernel
theorem dX6_unlikeOf_48 : decode cX6_unlikeOf 48 = .ok (.iconst 1, 1) := by decide +kernel
theorem dX6_unlikeOf_49 : decode cX6_unlikeOf 49 = .ok (.invokevirtual 114, 3) := by decide +kernel
theorem dX6_unlikeOf_52 : decode cX6_unlikeOf 52 = .ok (.aload_n 0, 1) := by decide +kernel
theorem dX6_unlikeOf_53 : decode cX6_unlikeOf 53 = .ok (.iload_n 2, 1) := by decide +kernel
theorem dX6_unlikeOf_54 : decode cX6_unlikeOf 54 = .ok (.iconst 2, 1) := by decide +kernel
theorem dX6_unlikeOf_55 : decode cX6_unlikeOf 55 = .ok (.invokevirtual 114, 3) := by decide +kernel
theorem dX6_unlikeOf_58 : decode cX6_unlikeOf 58 = .ok (.isub, 1) := by decide +kernel
theorem dX6_unlikeOf_59 : decode cX6_unlikeOf 59 = .ok (.istore 5, 2) := by decide +kernel
theorem dX6_unlikeOf_61 : decode cX6_unlikeOf 61 = .ok (.iload 4, 2) := by decide +kernel
theorem dX6_unlikeOf_63 : decode cX6_unlikeOf 63 = .ok (.iload 5, 2) := by decide +kernel
theorem dX6_unlikeOf_65 : decode cX6_unlikeOf 65 = .ok (.if_icmp .ge 8, 3) := by decide +kernel
theorem dX6_unlikeOf_68 : decode cX6_unlikeOf 68 = .ok (.iload 4, 2) := by decide +kernel
theorem dX6_unlikeOf_70 : decode cX6_unlikeOf 70 = .ok (.goto 5, 3) := by decide +kernel
theorem dX6_unlikeOf_73 : decode cX6_unlikeOf 73 = .ok (.iload 5, 2) := by decide +kernel
theorem dX6_unlikeOf_75 : decode cX6_unlikeOf 75 = .ok (.istore 6, 2) := by decide +kernel
theorem dX6_unlikeOf_77 : decode cX6_unlikeOf 77 = .ok (.iconst 0, 1) := by decide +kernel
theorem dX6_unlikeOf_78 : decode cX6_unlikeOf 78 = .ok (.istore 7, 2) := by decide +kernel
theorem dX6_unlikeOf_80 : decode cX6_unlikeOf 80 = .ok (.iload_n 3, 1) := by decide +kernel
theorem dX6_unlikeOf_81 : decode cX6_unlikeOf 81 = .ok (.ineg, 1) := by decide +kernel
theorem dX6_unlikeOf_82 : decode cX6_unlikeOf 82 = .ok (.istore 8, 2) := by decide +kernel
theorem dX6_unlikeOf_84 : decode cX6_unlikeOf 84 = .ok (.iload 8, 2) := by decide +kernel
theorem dX6_unlikeOf_86 : decode cX6_unlikeOf 86 = .ok (.iload 6, 2) := by decide +kernel
theorem dX6_unlikeOf_88 : decode cX6_unlikeOf 88 = .ok (.if_icmp .ge 58, 3) := by decide +kernel
theorem dX6_unlikeOf_91 : decode cX6_unlikeOf 91 = .ok (.aload_n 0, 1) := by decide +kernel
theorem dX6_unlikeOf_92 : decode cX6_unlikeOf 92 = .ok (.iload_n 1, 1) := by decide +kernel
theorem dX6_unlikeOf_93 : decode cX6_unlikeOf 93 = .ok (.aload_n 0, 1) := by decide +kernel
theorem dX6_unlikeOf_94 : decode cX6_unlikeOf 94 = .ok (.iload_n 1, 1) := by decide +kernel
theorem dX6_unlikeOf_95 : decode cX6_unlikeOf 95 = .ok (.iconst 2, 1) := by decide +kernel
theorem dX6_unlikeOf_96 : decode cX6_unlikeOf 96 = .ok (.invokevirtual 114, 3) := by decide +kernel
theorem dX6_unlikeOf_99 : decode cX6_unlikeOf 99 = .ok (.iload 8, 2) := by decide +kernel
theorem dX6_unlikeOf_101 : decode cX6_unlikeOf 101 = .ok (.iadd, 1) := by decide +kernel
theorem dX6_unlikeOf_102 : decode cX6_unlikeOf 102 = .ok (.invokevirtual 120, 3) := by decide +kernel
theorem dX6_unlikeOf_105 : decode cX6_unlikeOf 105 = .ok (.aload_n 0, 1) := by decide +kernel
theorem dX6_unlikeOf_106 : decode cX6_unlikeOf 106 = .ok (.iload_n 2, 1) := by decide +kernel
theorem dX6_unlikeOf_107 : decode cX6_unlikeOf 107 = .ok (.aload_n 0, 1) := by decide +kernel
theorem dX6_unlikeOf_108 : decode cX6_unlikeOf 108 = .ok (.iload_n 2, 1) := by decide +kernel
theorem dX6_unlikeOf_109 : decode cX6_unlikeOf 109 = .ok (.iconst 2, 1) := by decide +kernel
theorem dX6_unlikeOf_110 : decode cX6_unlikeOf 110 = .ok (.invokevirtual 114, 3) := by decide +kernel
theorem dX6_unlikeOf_113 : decode cX6_unlikeOf 113 = .ok (.iload 8, 2) := by decide +kernel
theorem dX6_unlikeOf_115 : decode cX6_unlikeOf 115 = .ok (.iadd, 1) := by decide +kernel
theorem dX6_unlikeOf_116 : decode cX6_unlikeOf 116 = .ok (.invokevirtual 120, 3) := by decide +kernel
theorem dX6_unlikeOf_119 : decode cX6_unlikeOf 119 = .ok (.isub, 1) := by decide +kernel
theorem dX6_unlikeOf_120 : decode cX6_unlikeOf 120 = .ok (.istore 9, 2) := by decide +kernel
theorem dX6_unlikeOf_122 : decode cX6_unlikeOf 122 = .ok (.iload 7, 2) := by decide +kernel
theorem dX6_unlikeOf_124 : decode cX6_unlikeOf 124 = .ok (.iload 9, 2) := by decide +kernel
theorem dX6_unlikeOf_126 : decode cX6_unlikeOf 126 = .ok (.ifCond .ge 9, 3) := by decide +kernel
theorem dX6_unlikeOf_129 : decode cX6_unlikeOf 129 = .ok (.iload 9, 2) := by decide +kernel
theorem dX6_unlikeOf_131 : decode cX6_unlikeOf 131 = .ok (.ineg, 1) := by decide +kernel
theorem dX6_unlikeOf_132 : decode cX6_unlikeOf 132 = .ok (.goto 5, 3) := by decide +kernel
theorem dX6_unlikeOf_135 : decode cX6_unlikeOf 135 = .ok (.iload 9, 2) := by decide +kernel
theorem dX6_unlikeOf_137 : decode cX6_unlikeOf 137 = .ok (.iadd, 1) := by decide +kernel
theorem dX6_unlikeOf_138 : decode cX6_unlikeOf 138 = .ok (.istore 7, 2) := by decide +kernel
theorem dX6_unlikeOf_140 : decode cX6_unlikeOf 140 = .ok (.iinc 8 1, 3) := by decide +kernel
theorem dX6_unlikeOf_143 : decode cX6_unlikeOf 143 = .ok (.goto (-59), 3) := by decide +kernel
theorem dX6_unlikeOf_146 : decode cX6_unlikeOf 146 = .ok (.iload 7, 2) := by decide +kernel
theorem dX6_unlikeOf_148 : decode cX6_unlikeOf 148 = .ok (.ireturn, 1) := by decide +kernel
theorem dX6_unlike_0 : decode cX6_unlike 0 = .ok (.aload_n 0, 1) := by decide +kernel
theorem dX6_unlike_1 : decode cX6_unlike 1 = .ok (.iload_n 1, 1) := by decide +kernel
theorem dX6_unlike_2 : decode cX6_unlike 2 = .ok (.invokevirtual 111, 3) := by decide +kernel
theorem dX6_unlike_5 : decode cX6_unlike 5 = .ok (.ifCond .eq 20, 3) := by decide +kernel
theorem dX6_unlike_8 : decode cX6_unlike 8 = .ok (.aload_n 0, 1) := by decide +kernel
theorem dX6_unlike_9 : decode cX6_unlike 9 = .ok (.iload_n 2, 1) := by decide +kernel
theorem dX6_unlike_10 : decode cX6_unlike 10 = .ok (.invokevirtual 111, 3) := by decide +kernel
theorem dX6_unlike_13 : decode cX6_unlike 13 = .ok (.ifCond .eq 12, 3) := by decide +kernel
theorem dX6_unlike_16 : decode cX6_unlike 16 = .ok (.aload_n 0, 1) := by decide +kernel
theorem dX6_unlike_17 : decode cX6_unlike 17 = .ok (.iload_n 1, 1) := by decide +kernel
theorem dX6_unlike_18 : decode cX6_unlike 18 = .ok (.iload_n 2, 1) := by decide +kernel
theorem dX6_unlike_19 : decode cX6_unlike 19 = .ok (.invokevirtual 151, 3) := by decide +kernel
theorem dX6_unlike_22 : decode cX6_unlike 22 = .ok (.goto 4, 3) := by decide +kernel
theorem dX6_unlike_25 : decode cX6_unlike 25 = .ok (.iconst (-1), 1) := by decide +kernel
theorem dX6_unlike_26 : decode cX6_unlike 26 = .ok (.ireturn, 1) := by decide +kernel
theorem dX6_nearest_0 : decode cX6_nearest 0 = .ok (.aload_n 0, 1) := by decide +kernel
theorem dX6_nearest_1 : decode cX6_nearest 1 = .ok (.iload_n 1, 1) := by decide +kernel
theorem dX6_nearest_2 : decode cX6_nearest 2 = .ok (.invokevirtual 111, 3) := by decide +kernel
theorem dX6_nearest_5 : decode cX6_nearest 5 = .ok (.ifCond .ne 5, 3) := by decide +kernel
theorem dX6_nearest_8 : decode cX6_nearest 8 = .ok (.iconst (-1), 1) := by decide +kernel
theorem dX6_nearest_9 : decode cX6_nearest 9 = .ok (.ireturn, 1) := by decide +kernel
theorem dX6_nearest_10 : decode cX6_nearest 10 = .ok (.bipush (-6), 2) := by decide +kernel
theorem dX6_nearest_12 : decode cX6_nearest 12 = .ok (.istore_n 2, 1) := by decide +kernel
theorem dX6_nearest_13 : decode cX6_nearest 13 = .ok (.iconst 0, 1) := by decide +kernel
theorem dX6_nearest_14 : decode cX6_nearest 14 = .ok (.istore_n 3, 1) := by decide +kernel
theorem dX6_nearest_15 : decode cX6_nearest 15 = .ok (.iconst 0, 1) := by decide +kernel
theorem dX6_nearest_16 : decode cX6_nearest 16 = .ok (.istore 4, 2) := by decide +kernel
theorem dX6_nearest_18 : decode cX6_nearest 18 = .ok (.iload 4, 2) := by decide +kernel
theorem dX6_nearest_20 : decode cX6_nearest 20 = .ok (.aload_n 0, 1) := by decide +kernel
theorem dX6_nearest_21 : decode cX6_nearest 21 = .ok (.getfield 7, 3) := by decide +kernel
theorem dX6_nearest_24 : decode cX6_nearest 24 = .ok (.bipush 22, 2) := by decide +kernel
theorem dX6_nearest_26 : decode cX6_nearest 26 = .ok (.iaload, 1) := by decide +kernel
theorem dX6_nearest_27 : decode cX6_nearest 27 = .ok (.if_icmp .ge 67, 3) := by decide +kernel
theorem dX6_nearest_30 : decode cX6_nearest 30 = .ok (.aload_n 0, 1) := by decide +kernel
theorem dX6_nearest_31 : decode cX6_nearest 31 = .ok (.iload_n 1, 1) := by decide +kernel
theorem dX6_nearest_32 : decode cX6_nearest 32 = .ok (.iload 4, 2) := by decide +kernel
theorem dX6_nearest_34 : decode cX6_nearest 34 = .ok (.invokevirtual 151, 3) := by decide +kernel
theorem dX6_nearest_37 : decode cX6_nearest 37 = .ok (.istore 5, 2) := by decide +kernel
theorem dX6_nearest_39 : decode cX6_nearest 39 = .ok (.iload 4, 2) := by decide +kernel
theorem dX6_nearest_41 : decode cX6_nearest 41 = .ok (.iload_n 1, 1) := by decide +kernel
theorem dX6_nearest_42 : decode cX6_nearest 42 = .ok (.if_icmp .eq 19, 3) := by decide +kernel
theorem dX6_nearest_45 : decode cX6_nearest 45 = .ok (.iload_n 2, 1) := by decide +kernel
theorem dX6_nearest_46 : decode cX6_nearest 46 = .ok (.bipush (-6), 2) := by decide +kernel
theorem dX6_nearest_48 : decode cX6_nearest 48 = .ok (.if_icmp .eq 9, 3) := by decide +kernel
theorem dX6_nearest_51 : decode cX6_nearest 51 = .ok (.iload 5, 2) := by decide +kernel
theorem dX6_nearest_53 : decode cX6_nearest 53 = .ok (.iload_n 3, 1) := by decide +kernel
theorem dX6_nearest_54 : decode cX6_nearest 54 = .ok (.if_icmp .ge 7, 3) := by decide +kernel
theorem dX6_nearest_57 : decode cX6_nearest 57 = .ok (.iconst 1, 1) := by decide +kernel
theorem dX6_nearest_58 : decode cX6_nearest 58 = .ok (.goto 4, 3) := by decide +kernel
theorem dX6_nearest_61 : decode cX6_nearest 61 = .ok (.iconst 0, 1) := by decide +kernel
theorem dX6_nearest_62 : decode cX6_nearest 62 = .ok (.istore 6, 2) := by decide +kernel
theorem dX6_nearest_64 : decode cX6_nearest 64 = .ok (.iload 6, 2) := by decide +kernel
theorem dX6_nearest_66 : decode cX6_nearest 66 = .ok (.ifCond .eq 8, 3) := by decide +kernel
theorem dX6_nearest_69 : decode cX6_nearest 69 = .ok (.iload 4, 2) := by decide +kernel
theorem dX6_nearest_71 : decode cX6_nearest 71 = .ok (.goto 4, 3) := by decide +kernel
theorem dX6_nearest_74 : decode cX6_nearest 74 = .ok (.iload_n 2, 1) := by decide +kernel
theorem dX6_nearest_75 : decode cX6_nearest 75 = .ok (.istore_n 2, 1) := by decide +kernel
theorem dX6_nearest_76 : decode cX6_nearest 76 = .ok (.iload 6, 2) := by decide +kernel
theorem dX6_nearest_78 : decode cX6_nearest 78 = .ok (.ifCond .eq 8, 3) := by decide +kernel
theorem dX6_nearest_81 : decode cX6_nearest 81 = .ok (.iload 5, 2) := by decide +kernel
theorem dX6_nearest_83 : decode cX6_nearest 83 = .ok (.goto 4, 3) := by decide +kernel
theorem dX6_nearest_86 : decode cX6_nearest 86 = .ok (.iload_n 3, 1) := by decide +kernel
theorem dX6_nearest_87 : decode cX6_nearest 87 = .ok (.istore_n 3, 1) := by decide +kernel
theorem dX6_nearest_88 : decode cX6_nearest 88 = .ok (.iinc 4 1, 3) := by decide +kernel
theorem dX6_nearest_91 : decode cX6_nearest 91 = .ok (.goto (-73), 3) := by decide +kernel
theorem dX6_nearest_94 : decode cX6_nearest 94 = .ok (.iload_n 2, 1) := by decide +kernel
theorem dX6_nearest_95 : decode cX6_nearest 95 = .ok (.ireturn, 1) := by decide +kernel
theorem dX6_put_0 : decode cX6_put 0 = .ok (.iconst 0, 1) := by decide +kernel
theorem dX6_put_1 : decode cX6_put 1 = .ok (.istore_n 3, 1) := by decide +kernel
theorem dX6_put_2 : decode cX6_put 2 = .ok (.iconst 1, 1) := by decide +kernel
theorem dX6_put_3 : decode cX6_put 3 = .ok (.istore 4, 2) := by decide +kernel
theorem dX6_put_5 : decode cX6_put 5 = .ok (.lload_n 1, 1) := by decide +kernel
theorem dX6_put_6 : decode cX6_put 6 = .ok (.lstore 5, 2) := by decide +kernel
theorem dX6_put_8 : decode cX6_put 8 = .ok (.iload_n 3, 1) := by decide +kernel
theorem dX6_put_9 : decode cX6_put 9 = .ok (.bipush 8, 2) := by decide +kernel
theorem dX6_put_11 : decode cX6_put 11 = .ok (.if_icmp .ge 57, 3) := by decide +kernel
theorem dX6_put_14 : decode cX6_put 14 = .ok (.lload 5, 2) := by decide +kernel
theorem dX6_put_16 : decode cX6_put 16 = .ok (.ldc2_w 154, 3) := by decide +kernel
theorem dX6_put_19 : decode cX6_put 19 = .ok (.land, 1) := by decide +kernel
theorem dX6_put_20 : decode cX6_put 20 = .ok (.lconst 0, 1) := by decide +kernel
theorem dX6_put_21 : decode cX6_put 21 = .ok (.lcmp, 1) := by decide +kernel
theorem dX6_put_22 : decode cX6_put 22 = .ok (.ifCond .eq 46, 3) := by decide +kernel
theorem dX6_put_25 : decode cX6_put 25 = .ok (.iload 4, 2) := by decide +kernel
theorem dX6_put_27 : decode cX6_put 27 = .ok (.ifCond .eq 25, 3) := by decide +kernel
theorem dX6_put_30 : decode cX6_put 30 = .ok (.lload 5, 2) := by decide +kernel
theorem dX6_put_32 : decode cX6_put 32 = .ok (.ldc2_w 154, 3) := by decide +kernel
theorem dX6_put_35 : decode cX6_put 35 = .ok (.land, 1) := by decide +kernel
theorem dX6_put_36 : decode cX6_put 36 = .ok (.ldc2_w 156, 3) := by decide +kernel
theorem dX6_put_39 : decode cX6_put 39 = .ok (.ldc2_w 158, 3) := by decide +kernel
theorem dX6_put_42 : decode cX6_put 42 = .ok (.invokestatic 67, 3) := by decide +kernel
theorem dX6_put_45 : decode cX6_put 45 = .ok (.ifCond .eq 7, 3) := by decide +kernel
theorem dX6_put_48 : decode cX6_put 48 = .ok (.iconst 1, 1) := by decide +kernel
theorem dX6_put_49 : decode cX6_put 49 = .ok (.goto 4, 3) := by decide +kernel
theorem dX6_put_52 : decode cX6_put 52 = .ok (.iconst 0, 1) := by decide +kernel
theorem dX6_put_53 : decode cX6_put 53 = .ok (.istore 4, 2) := by decide +kernel
theorem dX6_put_55 : decode cX6_put 55 = .ok (.lload 5, 2) := by decide +kernel
theorem dX6_put_57 : decode cX6_put 57 = .ok (.bipush 8, 2) := by decide +kernel
theorem dX6_put_59 : decode cX6_put 59 = .ok (.lushr, 1) := by decide +kernel
theorem dX6_put_60 : decode cX6_put 60 = .ok (.lstore 5, 2) := by decide +kernel
theorem dX6_put_62 : decode cX6_put 62 = .ok (.iinc 3 1, 3) := by decide +kernel
theorem dX6_put_65 : decode cX6_put 65 = .ok (.goto (-57), 3) := by decide +kernel
theorem dX6_put_68 : decode cX6_put 68 = .ok (.iload_n 3, 1) := by decide +kernel
theorem dX6_put_69 : decode cX6_put 69 = .ok (.ifCond .eq 15, 3) := by decide +kernel
theorem dX6_put_72 : decode cX6_put 72 = .ok (.lload 5, 2) := by decide +kernel
theorem dX6_put_74 : decode cX6_put 74 = .ok (.lconst 0, 1) := by decide +kernel
theorem dX6_put_75 : decode cX6_put 75 = .ok (.lcmp, 1) := by decide +kernel
theorem dX6_put_76 : decode cX6_put 76 = .ok (.ifCond .ne 8, 3) := by decide +kernel
theorem dX6_put_79 : decode cX6_put 79 = .ok (.iload 4, 2) := by decide +kernel
theorem dX6_put_81 : decode cX6_put 81 = .ok (.ifCond .ne 6, 3) := by decide +kernel
theorem dX6_put_84 : decode cX6_put 84 = .ok (.bipush (-2), 2) := by decide +kernel
theorem dX6_put_86 : decode cX6_put 86 = .ok (.ireturn, 1) := by decide +kernel
theorem dX6_put_87 : decode cX6_put 87 = .ok (.aload_n 0, 1) := by decide +kernel
theorem dX6_put_88 : decode cX6_put 88 = .ok (.getfield 142, 3) := by decide +kernel
theorem dX6_put_91 : decode cX6_put 91 = .ok (.iload_n 3, 1) := by decide +kernel
theorem dX6_put_92 : decode cX6_put 92 = .ok (.iadd, 1) := by decide +kernel
theorem dX6_put_93 : decode cX6_put 93 = .ok (.bipush 80, 2) := by decide +kernel
theorem dX6_put_95 : decode cX6_put 95 = .ok (.if_icmp .le 6, 3) := by decide +kernel
theorem dX6_put_98 : decode cX6_put 98 = .ok (.bipush (-4), 2) := by decide +kernel
theorem dX6_put_100 : decode cX6_put 100 = .ok (.ireturn, 1) := by decide +kernel
theorem dX6_put_101 : decode cX6_put 101 = .ok (.iload_n 3, 1) := by decide +kernel
theorem dX6_put_102 : decode cX6_put 102 = .ok (.iconst 1, 1) := by decide +kernel
theorem dX6_put_103 : decode cX6_put 103 = .ok (.isub, 1) := by decide +kernel
theorem dX6_put_104 : decode cX6_put 104 = .ok (.istore 7, 2) := by decide +kernel
theorem dX6_put_106 : decode cX6_put 106 = .ok (.iload 7, 2) := by decide +kernel
theorem dX6_put_108 : decode cX6_put 108 = .ok (.ifCond .lt 40, 3) := by decide +kernel
theorem dX6_put_111 : decode cX6_put 111 = .ok (.aload_n 0, 1) := by decide +kernel
theorem dX6_put_112 : decode cX6_put 112 = .ok (.getfield 25, 3) := by decide +kernel
theorem dX6_put_115 : decode cX6_put 115 = .ok (.aload_n 0, 1) := by decide +kernel
theorem dX6_put_116 : decode cX6_put 116 = .ok (.getfield 142, 3) := by decide +kernel
theorem dX6_put_119 : decode cX6_put 119 = .ok (.lload_n 1, 1) := by decide +kernel
theorem dX6_put_120 : decode cX6_put 120 = .ok (.bipush 8, 2) := by decide +kernel
theorem dX6_put_122 : decode cX6_put 122 = .ok (.iload 7, 2) := by decide +kernel
theorem dX6_put_124 : decode cX6_put 124 = .ok (.imul, 1) := by decide +kernel
theorem dX6_put_125 : decode cX6_put 125 = .ok (.lushr, 1) := by decide +kernel
theorem dX6_put_126 : decode cX6_put 126 = .ok (.ldc2_w 154, 3) := by decide +kernel
theorem dX6_put_129 : decode cX6_put 129 = .ok (.land, 1) := by decide +kernel
theorem dX6_put_130 : decode cX6_put 130 = .ok (.l2i, 1) := by decide +kernel
theorem dX6_put_131 : decode cX6_put 131 = .ok (.iastore, 1) := by decide +kernel
theorem dX6_put_132 : decode cX6_put 132 = .ok (.aload_n 0, 1) := by decide +kernel
theorem dX6_put_133 : decode cX6_put 133 = .ok (.dup, 1) := by decide +kernel
theorem dX6_put_134 : decode cX6_put 134 = .ok (.getfield 142, 3) := by decide +kernel
theorem dX6_put_137 : decode cX6_put 137 = .ok (.iconst 1, 1) := by decide +kernel
theorem dX6_put_138 : decode cX6_put 138 = .ok (.iadd, 1) := by decide +kernel
theorem dX6_put_139 : decode cX6_put 139 = .ok (.putfield 142, 3) := by decide +kernel
theorem dX6_put_142 : decode cX6_put 142 = .ok (.iinc 7 (-1), 3) := by decide +kernel
theorem dX6_put_145 : decode cX6_put 145 = .ok (.goto (-39), 3) := by decide +kernel
theorem dX6_put_148 : decode cX6_put 148 = .ok (.aload_n 0, 1) := by decide +kernel
theorem dX6_put_149 : decode cX6_put 149 = .ok (.getfield 142, 3) := by decide +kernel
theorem dX6_put_152 : decode cX6_put 152 = .ok (.ireturn, 1) := by decide +kernel
theorem dX6_wipe_0 : decode cX6_wipe 0 = .ok (.aload_n 0, 1) := by decide +kernel
theorem dX6_wipe_1 : decode cX6_wipe 1 = .ok (.getfield 142, 3) := by decide +kernel
theorem dX6_wipe_4 : decode cX6_wipe 4 = .ok (.istore_n 1, 1) := by decide +kernel
theorem dX6_wipe_5 : decode cX6_wipe 5 = .ok (.aload_n 0, 1) := by decide +kernel
theorem dX6_wipe_6 : decode cX6_wipe 6 = .ok (.iconst 0, 1) := by decide +kernel
theorem dX6_wipe_7 : decode cX6_wipe 7 = .ok (.putfield 142, 3) := by decide +kernel
theorem dX6_wipe_10 : decode cX6_wipe 10 = .ok (.iload_n 1, 1) := by decide +kernel
theorem dX6_wipe_11 : decode cX6_wipe 11 = .ok (.ireturn, 1) := by decide +kernel
theorem dX6_isHere_0 : decode cX6_isHere 0 = .ok (.aload_n 0, 1) := by decide +kernel
theorem dX6_isHere_1 : decode cX6_isHere 1 = .ok (.getfield 160, 3) := by decide +kernel
theorem dX6_isHere_4 : decode cX6_isHere 4 = .ok (.aload_n 0, 1) := by decide +kernel
theorem dX6_isHere_5 : decode cX6_isHere 5 = .ok (.getfield 142, 3) := by decide +kernel
theorem dX6_isHere_8 : decode cX6_isHere 8 = .ok (.if_icmp .ge 27, 3) := by decide +kernel
theorem dX6_isHere_11 : decode cX6_isHere 11 = .ok (.aload_n 0, 1) := by decide +kernel
theorem dX6_isHere_12 : decode cX6_isHere 12 = .ok (.getfield 25, 3) := by decide +kernel
theorem dX6_isHere_15 : decode cX6_isHere 15 = .ok (.aload_n 0, 1) := by decide +kernel
theorem dX6_isHere_16 : decode cX6_isHere 16 = .ok (.getfield 160, 3) := by decide +kernel
theorem dX6_isHere_19 : decode cX6_isHere 19 = .ok (.iaload, 1) := by decide +kernel
theorem dX6_isHere_20 : decode cX6_isHere 20 = .ok (.i2l, 1) := by decide +kernel
theorem dX6_isHere_21 : decode cX6_isHere 21 = .ok (.iload_n 1, 1) := by decide +kernel
theorem dX6_isHere_22 : decode cX6_isHere 22 = .ok (.i2l, 1) := by decide +kernel
theorem dX6_isHere_23 : decode cX6_isHere 23 = .ok (.iload_n 2, 1) := by decide +kernel
theorem dX6_isHere_24 : decode cX6_isHere 24 = .ok (.i2l, 1) := by decide +kernel
theorem dX6_isHere_25 : decode cX6_isHere 25 = .ok (.invokestatic 67, 3) := by decide +kernel
theorem dX6_isHere_28 : decode cX6_isHere 28 = .ok (.ifCond .eq 7, 3) := by decide +kernel
theorem dX6_isHere_31 : decode cX6_isHere 31 = .ok (.iconst 1, 1) := by decide +kernel
theorem dX6_isHere_32 : decode cX6_isHere 32 = .ok (.goto 4, 3) := by decide +kernel
theorem dX6_isHere_35 : decode cX6_isHere 35 = .ok (.iconst 0, 1) := by decide +kernel
theorem dX6_isHere_36 : decode cX6_isHere 36 = .ok (.ireturn, 1) := by decide +kernel
theorem dX6_takes_0 : decode cX6_takes 0 = .ok (.aload_n 0, 1) := by decide +kernel
theorem dX6_takes_1 : decode cX6_takes 1 = .ok (.iload_n 1, 1) := by decide +kernel
theorem dX6_takes_2 : decode cX6_takes 2 = .ok (.iload_n 1, 1) := by decide +kernel
theorem dX6_takes_3 : decode cX6_takes 3 = .ok (.invokevirtual 163, 3) := by decide +kernel
theorem dX6_takes_6 : decode cX6_takes 6 = .ok (.istore_n 2, 1) := by decide +kernel
theorem dX6_takes_7 : decode cX6_takes 7 = .ok (.aload_n 0, 1) := by decide +kernel
theorem dX6_takes_8 : decode cX6_takes 8 = .ok (.dup, 1) := by decide +kernel
theorem dX6_takes_9 : decode cX6_takes 9 = .ok (.getfield 160, 3) := by decide +kernel
theorem dX6_takes_12 : decode cX6_takes 12 = .ok (.iload_n 2, 1) := by decide +kernel
theorem dX6_takes_13 : decode cX6_takes 13 = .ok (.ifCond .eq 7, 3) := by decide +kernel
theorem dX6_takes_16 : decode cX6_takes 16 = .ok (.iconst 1, 1) := by decide +kernel
theorem dX6_takes_17 : decode cX6_takes 17 = .ok (.goto 4, 3) := by decide +kernel
theorem dX6_takes_20 : decode cX6_takes 20 = .ok (.iconst 0, 1) := by decide +kernel
theorem dX6_takes_21 : decode cX6_takes 21 = .ok (.iadd, 1) := by decide +kernel
theorem dX6_takes_22 : decode cX6_takes 22 = .ok (.putfield 160, 3) := by decide +kernel
theorem dX6_takes_25 : decode cX6_takes 25 = .ok (.iload_n 2, 1) := by decide +kernel
theorem dX6_takes_26 : decode cX6_takes 26 = .ok (.ireturn, 1) := by decide +kernel
theorem dX6_readsNumber_0 : decode cX6_readsNumber 0 = .ok (.aload_n 0, 1) := by decide +kernel
theorem dX6_readsNumber_1 : decode cX6_readsNumber 1 = .ok (.bipush 48, 2) := by decide +kernel
theorem dX6_readsNumber_3 : decode cX6_readsNumber 3 = .ok (.bipush 57, 2) := by decide +kernel
theorem dX6_readsNumber_5 : decode cX6_readsNumber 5 = .ok (.invokevirtual 163, 3) := by decide +kernel
theorem dX6_readsNumber_8 : decode cX6_readsNumber 8 = .ok (.ifCond .ne 5, 3) := by decide +kernel
theorem dX6_readsNumber_11 : decode cX6_readsNumber 11 = .ok (.iconst 0, 1) := by decide +kernel
theorem dX6_readsNumber_12 : decode cX6_readsNumber 12 = .ok (.ireturn, 1) := by decide +kernel
theorem dX6_readsNumber_13 : decode cX6_readsNumber 13 = .ok (.aload_n 0, 1) := by decide +kernel
theorem dX6_readsNumber_14 : decode cX6_readsNumber 14 = .ok (.aload_n 0, 1) := by decide +kernel
theorem dX6_readsNumber_15 : decode cX6_readsNumber 15 = .ok (.getfield 25, 3) := by decide +kernel
theorem dX6_readsNumber_18 : decode cX6_readsNumber 18 = .ok (.aload_n 0, 1) := by decide +kernel
theorem dX6_readsNumber_19 : decode cX6_readsNumber 19 = .ok (.getfield 160, 3) := by decide +kernel
theorem dX6_readsNumber_22 : decode cX6_readsNumber 22 = .ok (.iaload, 1) := by decide +kernel
theorem dX6_readsNumber_23 : decode cX6_readsNumber 23 = .ok (.bipush 48, 2) := by decide +kernel
theorem dX6_readsNumber_25 : decode cX6_readsNumber 25 = .ok (.isub, 1) := by decide +kernel
theorem dX6_readsNumber_26 : decode cX6_readsNumber 26 = .ok (.putfield 166, 3) := by decide +kernel
theorem dX6_readsNumber_29 : decode cX6_readsNumber 29 = .ok (.aload_n 0, 1) := by decide +kernel
theorem dX6_readsNumber_30 : decode cX6_readsNumber 30 = .ok (.dup, 1) := by decide +kernel
theorem dX6_readsNumber_31 : decode cX6_readsNumber 31 = .ok (.getfield 160, 3) := by decide +kernel
theorem dX6_readsNumber_34 : decode cX6_readsNumber 34 = .ok (.iconst 1, 1) := by decide +kernel
theorem dX6_readsNumber_35 : decode cX6_readsNumber 35 = .ok (.iadd, 1) := by decide +kernel
theorem dX6_readsNumber_36 : decode cX6_readsNumber 36 = .ok (.putfield 160, 3) := by decide +kernel
theorem dX6_readsNumber_39 : decode cX6_readsNumber 39 = .ok (.aload_n 0, 1) := by decide +kernel
theorem dX6_readsNumber_40 : decode cX6_readsNumber 40 = .ok (.getfield 166, 3) := by decide +kernel
theorem dX6_readsNumber_43 : decode cX6_readsNumber 43 = .ok (.ifCond .le 76, 3) := by decide +kernel
theorem dX6_readsNumber_46 : decode cX6_readsNumber 46 = .ok (.aload_n 0, 1) := by decide +kernel
theorem dX6_readsNumber_47 : decode cX6_readsNumber 47 = .ok (.bipush 48, 2) := by decide +kernel
theorem dX6_readsNumber_49 : decode cX6_readsNumber 49 = .ok (.bipush 57, 2) := by decide +kernel
theorem dX6_readsNumber_51 : decode cX6_readsNumber 51 = .ok (.invokevirtual 163, 3) := by decide +kernel
theorem dX6_readsNumber_54 : decode cX6_readsNumber 54 = .ok (.ifCond .eq 65, 3) := by decide +kernel
theorem dX6_readsNumber_57 : decode cX6_readsNumber 57 = .ok (.bipush 10, 2) := by decide +kernel
theorem dX6_readsNumber_59 : decode cX6_readsNumber 59 = .ok (.aload_n 0, 1) := by decide +kernel
theorem dX6_readsNumber_60 : decode cX6_readsNumber 60 = .ok (.getfield 166, 3) := by decide +kernel
theorem dX6_readsNumber_63 : decode cX6_readsNumber 63 = .ok (.imul, 1) := by decide +kernel
theorem dX6_readsNumber_64 : decode cX6_readsNumber 64 = .ok (.aload_n 0, 1) := by decide +kernel
theorem dX6_readsNumber_65 : decode cX6_readsNumber 65 = .ok (.getfield 25, 3) := by decide +kernel
theorem dX6_readsNumber_68 : decode cX6_readsNumber 68 = .ok (.aload_n 0, 1) := by decide +kernel
theorem dX6_readsNumber_69 : decode cX6_readsNumber 69 = .ok (.getfield 160, 3) := by decide +kernel
theorem dX6_readsNumber_72 : decode cX6_readsNumber 72 = .ok (.iaload, 1) := by decide +kernel
theorem dX6_readsNumber_73 : decode cX6_readsNumber 73 = .ok (.iadd, 1) := by decide +kernel
theorem dX6_readsNumber_74 : decode cX6_readsNumber 74 = .ok (.bipush 48, 2) := by decide +kernel
theorem dX6_readsNumber_76 : decode cX6_readsNumber 76 = .ok (.isub, 1) := by decide +kernel
theorem dX6_readsNumber_77 : decode cX6_readsNumber 77 = .ok (.bipush 100, 2) := by decide +kernel
theorem dX6_readsNumber_79 : decode cX6_readsNumber 79 = .ok (.if_icmp .gt 40, 3) := by decide +kernel
theorem dX6_readsNumber_82 : decode cX6_readsNumber 82 = .ok (.aload_n 0, 1) := by decide +kernel
theorem dX6_readsNumber_83 : decode cX6_readsNumber 83 = .ok (.bipush 10, 2) := by decide +kernel
theorem dX6_readsNumber_85 : decode cX6_readsNumber 85 = .ok (.aload_n 0, 1) := by decide +kernel
theorem dX6_readsNumber_86 : decode cX6_readsNumber 86 = .ok (.getfield 166, 3) := by decide +kernel
theorem dX6_readsNumber_89 : decode cX6_readsNumber 89 = .ok (.imul, 1) := by decide +kernel
theorem dX6_readsNumber_90 : decode cX6_readsNumber 90 = .ok (.aload_n 0, 1) := by decide +kernel
theorem dX6_readsNumber_91 : decode cX6_readsNumber 91 = .ok (.getfield 25, 3) := by decide +kernel
theorem dX6_readsNumber_94 : decode cX6_readsNumber 94 = .ok (.aload_n 0, 1) := by decide +kernel
theorem dX6_readsNumber_95 : decode cX6_readsNumber 95 = .ok (.getfield 160, 3) := by decide +kernel
theorem dX6_readsNumber_98 : decode cX6_readsNumber 98 = .ok (.iaload, 1) := by decide +kernel
theorem dX6_readsNumber_99 : decode cX6_readsNumber 99 = .ok (.iadd, 1) := by decide +kernel
theorem dX6_readsNumber_100 : decode cX6_readsNumber 100 = .ok (.bipush 48, 2) := by decide +kernel
theorem dX6_readsNumber_102 : decode cX6_readsNumber 102 = .ok (.isub, 1) := by decide +kernel
theorem dX6_readsNumber_103 : decode cX6_readsNumber 103 = .ok (.putfield 166, 3) := by decide +kernel
theorem dX6_readsNumber_106 : decode cX6_readsNumber 106 = .ok (.aload_n 0, 1) := by decide +kernel
theorem dX6_readsNumber_107 : decode cX6_readsNumber 107 = .ok (.dup, 1) := by decide +kernel
theorem dX6_readsNumber_108 : decode cX6_readsNumber 108 = .ok (.getfield 160, 3) := by decide +kernel
theorem dX6_readsNumber_111 : decode cX6_readsNumber 111 = .ok (.iconst 1, 1) := by decide +kernel
theorem dX6_readsNumber_112 : decode cX6_readsNumber 112 = .ok (.iadd, 1) := by decide +kernel
theorem dX6_readsNumber_113 : decode cX6_readsNumber 113 = .ok (.putfield 160, 3) := by decide +kernel
theorem dX6_readsNumber_116 : decode cX6_readsNumber 116 = .ok (.goto (-77), 3) := by decide +kernel
theorem dX6_readsNumber_119 : decode cX6_readsNumber 119 = .ok (.iconst 1, 1) := by decide +kernel
theorem dX6_readsNumber_120 : decode cX6_readsNumber 120 = .ok (.ireturn, 1) := by decide +kernel
theorem dX6_readsValue_0 : decode cX6_readsValue 0 = .ok (.aload_n 0, 1) := by decide +kernel
theorem dX6_readsValue_1 : decode cX6_readsValue 1 = .ok (.bipush 45, 2) := by decide +kernel
theorem dX6_readsValue_3 : decode cX6_readsValue 3 = .ok (.invokevirtual 169, 3) := by decide +kernel
theorem dX6_readsValue_6 : decode cX6_readsValue 6 = .ok (.istore_n 1, 1) := by decide +kernel
theorem dX6_readsValue_7 : decode cX6_readsValue 7 = .ok (.aload_n 0, 1) := by decide +kernel
theorem dX6_readsValue_8 : decode cX6_readsValue 8 = .ok (.invokevirtual 172, 3) := by decide +kernel
theorem dX6_readsValue_11 : decode cX6_readsValue 11 = .ok (.istore_n 2, 1) := by decide +kernel
theorem dX6_readsValue_12 : decode cX6_readsValue 12 = .ok (.aload_n 0, 1) := by decide +kernel
theorem dX6_readsValue_13 : decode cX6_readsValue 13 = .ok (.iload_n 1, 1) := by decide +kernel
theorem dX6_readsValue_14 : decode cX6_readsValue 14 = .ok (.ifCond .eq 11, 3) := by decide +kernel
theorem dX6_readsValue_17 : decode cX6_readsValue 17 = .ok (.aload_n 0, 1) := by decide +kernel
theorem dX6_readsValue_18 : decode cX6_readsValue 18 = .ok (.getfield 166, 3) := by decide +kernel
theorem dX6_readsValue_21 : decode cX6_readsValue 21 = .ok (.ineg, 1) := by decide +kernel
theorem dX6_readsValue_22 : decode cX6_readsValue 22 = .ok (.goto 7, 3) := by decide +kernel
theorem dX6_readsValue_25 : decode cX6_readsValue 25 = .ok (.aload_n 0, 1) := by decide +kernel
theorem dX6_readsValue_26 : decode cX6_readsValue 26 = .ok (.getfield 166, 3) := by decide +kernel
theorem dX6_readsValue_29 : decode cX6_readsValue 29 = .ok (.putfield 166, 3) := by decide +kernel
theorem dX6_readsValue_32 : decode cX6_readsValue 32 = .ok (.iload_n 2, 1) := by decide +kernel
theorem dX6_readsValue_33 : decode cX6_readsValue 33 = .ok (.ireturn, 1) := by decide +kernel
theorem dX6_does_0 : decode cX6_does 0 = .ok (.aload_n 0, 1) := by decide +kernel
theorem dX6_does_1 : decode cX6_does 1 = .ok (.iload_n 1, 1) := by decide +kernel
theorem dX6_does_2 : decode cX6_does 2 = .ok (.ifCond .ge 7, 3) := by decide +kernel
theorem dX6_does_5 : decode cX6_does 5 = .ok (.iload_n 1, 1) := by decide +kernel
theorem dX6_does_6 : decode cX6_does 6 = .ok (.goto 4, 3) := by decide +kernel
theorem dX6_does_9 : decode cX6_does 9 = .ok (.iconst 0, 1) := by decide +kernel
theorem dX6_does_10 : decode cX6_does 10 = .ok (.putfield 175, 3) := by decide +kernel
theorem dX6_does_13 : decode cX6_does 13 = .ok (.return_, 1) := by decide +kernel
theorem dX6_readsSamples_0 : decode cX6_readsSamples 0 = .ok (.iconst 1, 1) := by decide +kernel
theorem dX6_readsSamples_1 : decode cX6_readsSamples 1 = .ok (.istore_n 1, 1) := by decide +kernel
theorem dX6_readsSamples_2 : decode cX6_readsSamples 2 = .ok (.iload_n 1, 1) := by decide +kernel
theorem dX6_readsSamples_3 : decode cX6_readsSamples 3 = .ok (.ifCond .eq 77, 3) := by decide +kernel
theorem dX6_readsSamples_6 : decode cX6_readsSamples 6 = .ok (.aload_n 0, 1) := by decide +kernel
theorem dX6_readsSamples_7 : decode cX6_readsSamples 7 = .ok (.invokevirtual 178, 3) := by decide +kernel
theorem dX6_readsSamples_10 : decode cX6_readsSamples 10 = .ok (.ifCond .ne 5, 3) := by decide +kernel
theorem dX6_readsSamples_13 : decode cX6_readsSamples 13 = .ok (.iconst 0, 1) := by decide +kernel
theorem dX6_readsSamples_14 : decode cX6_readsSamples 14 = .ok (.ireturn, 1) := by decide +kernel
theorem dX6_readsSamples_15 : decode cX6_readsSamples 15 = .ok (.aload_n 0, 1) := by decide +kernel
theorem dX6_readsSamples_16 : decode cX6_readsSamples 16 = .ok (.getfield 166, 3) := by decide +kernel
theorem dX6_readsSamples_19 : decode cX6_readsSamples 19 = .ok (.istore_n 2, 1) := by decide +kernel
theorem dX6_readsSamples_20 : decode cX6_readsSamples 20 = .ok (.aload_n 0, 1) := by decide +kernel
theorem dX6_readsSamples_21 : decode cX6_readsSamples 21 = .ok (.iconst 1, 1) := by decide +kernel
theorem dX6_readsSamples_22 : decode cX6_readsSamples 22 = .ok (.putfield 166, 3) := by decide +kernel
theorem dX6_readsSamples_25 : decode cX6_readsSamples 25 = .ok (.aload_n 0, 1) := by decide +kernel
theorem dX6_readsSamples_26 : decode cX6_readsSamples 26 = .ok (.bipush 42, 2) := by decide +kernel
theorem dX6_readsSamples_28 : decode cX6_readsSamples 28 = .ok (.invokevirtual 169, 3) := by decide +kernel
theorem dX6_readsSamples_31 : decode cX6_readsSamples 31 = .ok (.ifCond .eq 12, 3) := by decide +kernel
theorem dX6_readsSamples_34 : decode cX6_readsSamples 34 = .ok (.aload_n 0, 1) := by decide +kernel
theorem dX6_readsSamples_35 : decode cX6_readsSamples 35 = .ok (.invokevirtual 172, 3) := by decide +kernel
theorem dX6_readsSamples_38 : decode cX6_readsSamples 38 = .ok (.ifCond .ne 5, 3) := by decide +kernel
theorem dX6_readsSamples_41 : decode cX6_readsSamples 41 = .ok (.iconst 0, 1) := by decide +kernel
theorem dX6_readsSamples_42 : decode cX6_readsSamples 42 = .ok (.ireturn, 1) := by decide +kernel
theorem dX6_readsSamples_43 : decode cX6_readsSamples 43 = .ok (.aload_n 0, 1) := by decide +kernel
theorem dX6_readsSamples_44 : decode cX6_readsSamples 44 = .ok (.getfield 181, 3) := by decide +kernel
theorem dX6_readsSamples_47 : decode cX6_readsSamples 47 = .ok (.ifCond .eq 23, 3) := by decide +kernel
theorem dX6_readsSamples_50 : decode cX6_readsSamples 50 = .ok (.aload_n 0, 1) := by decide +kernel
theorem dX6_readsSamples_51 : decode cX6_readsSamples 51 = .ok (.getfield 175, 3) := by decide +kernel
theorem dX6_readsSamples_54 : decode cX6_readsSamples 54 = .ok (.ifCond .ne 16, 3) := by decide +kernel
theorem dX6_readsSamples_57 : decode cX6_readsSamples 57 = .ok (.aload_n 0, 1) := by decide +kernel
theorem dX6_readsSamples_58 : decode cX6_readsSamples 58 = .ok (.aload_n 0, 1) := by decide +kernel
theorem dX6_readsSamples_59 : decode cX6_readsSamples 59 = .ok (.iload_n 2, 1) := by decide +kernel
theorem dX6_readsSamples_60 : decode cX6_readsSamples 60 = .ok (.aload_n 0, 1) := by decide +kernel
theorem dX6_readsSamples_61 : decode cX6_readsSamples 61 = .ok (.getfield 166, 3) := by decide +kernel
theorem dX6_readsSamples_64 : decode cX6_readsSamples 64 = .ok (.invokevirtual 105, 3) := by decide +kernel
theorem dX6_readsSamples_67 : decode cX6_readsSamples 67 = .ok (.invokevirtual 185, 3) := by decide +kernel
theorem dX6_readsSamples_70 : decode cX6_readsSamples 70 = .ok (.aload_n 0, 1) := by decide +kernel
theorem dX6_readsSamples_71 : decode cX6_readsSamples 71 = .ok (.bipush 44, 2) := by decide +kernel
theorem dX6_readsSamples_73 : decode cX6_readsSamples 73 = .ok (.invokevirtual 169, 3) := by decide +kernel
theorem dX6_readsSamples_76 : decode cX6_readsSamples 76 = .ok (.istore_n 1, 1) := by decide +kernel
theorem dX6_readsSamples_77 : decode cX6_readsSamples 77 = .ok (.goto (-75), 3) := by decide +kernel
theorem dX6_readsSamples_80 : decode cX6_readsSamples 80 = .ok (.iconst 1, 1) := by decide +kernel
theorem dX6_readsSamples_81 : decode cX6_readsSamples 81 = .ok (.ireturn, 1) := by decide +kernel
theorem dX6_readsOrder_0 : decode cX6_readsOrder 0 = .ok (.aload_n 0, 1) := by decide +kernel
theorem dX6_readsOrder_1 : decode cX6_readsOrder 1 = .ok (.bipush 99, 2) := by decide +kernel
theorem dX6_readsOrder_3 : decode cX6_readsOrder 3 = .ok (.invokevirtual 169, 3) := by decide +kernel
theorem dX6_readsOrder_6 : decode cX6_readsOrder 6 = .ok (.ifCond .eq 20, 3) := by decide +kernel
theorem dX6_readsOrder_9 : decode cX6_readsOrder 9 = .ok (.aload_n 0, 1) := by decide +kernel
theorem dX6_readsOrder_10 : decode cX6_readsOrder 10 = .ok (.getfield 181, 3) := by decide +kernel
theorem dX6_readsOrder_13 : decode cX6_readsOrder 13 = .ok (.ifCond .eq 11, 3) := by decide +kernel
theorem dX6_readsOrder_16 : decode cX6_readsOrder 16 = .ok (.aload_n 0, 1) := by decide +kernel
theorem dX6_readsOrder_17 : decode cX6_readsOrder 17 = .ok (.aload_n 0, 1) := by decide +kernel
theorem dX6_readsOrder_18 : decode cX6_readsOrder 18 = .ok (.invokevirtual 108, 3) := by decide +kernel
theorem dX6_readsOrder_21 : decode cX6_readsOrder 21 = .ok (.invokevirtual 185, 3) := by decide +kernel
theorem dX6_readsOrder_24 : decode cX6_readsOrder 24 = .ok (.iconst 1, 1) := by decide +kernel
theorem dX6_readsOrder_25 : decode cX6_readsOrder 25 = .ok (.ireturn, 1) := by decide +kernel
theorem dX6_readsOrder_26 : decode cX6_readsOrder 26 = .ok (.aload_n 0, 1) := by decide +kernel
theorem dX6_readsOrder_27 : decode cX6_readsOrder 27 = .ok (.bipush 107, 2) := by decide +kernel
theorem dX6_readsOrder_29 : decode cX6_readsOrder 29 = .ok (.invokevirtual 169, 3) := by decide +kernel
theorem dX6_readsOrder_32 : decode cX6_readsOrder 32 = .ok (.ifCond .eq 56, 3) := by decide +kernel
theorem dX6_readsOrder_35 : decode cX6_readsOrder 35 = .ok (.aload_n 0, 1) := by decide +kernel
theorem dX6_readsOrder_36 : decode cX6_readsOrder 36 = .ok (.bipush 48, 2) := by decide +kernel
theorem dX6_readsOrder_38 : decode cX6_readsOrder 38 = .ok (.bipush 50, 2) := by decide +kernel
theorem dX6_readsOrder_40 : decode cX6_readsOrder 40 = .ok (.invokevirtual 163, 3) := by decide +kernel
theorem dX6_readsOrder_43 : decode cX6_readsOrder 43 = .ok (.ifCond .ne 5, 3) := by decide +kernel
theorem dX6_readsOrder_46 : decode cX6_readsOrder 46 = .ok (.iconst 0, 1) := by decide +kernel
theorem dX6_readsOrder_47 : decode cX6_readsOrder 47 = .ok (.ireturn, 1) := by decide +kernel
theorem dX6_readsOrder_48 : decode cX6_readsOrder 48 = .ok (.aload_n 0, 1) := by decide +kernel
theorem dX6_readsOrder_49 : decode cX6_readsOrder 49 = .ok (.getfield 181, 3) := by decide +kernel
theorem dX6_readsOrder_52 : decode cX6_readsOrder 52 = .ok (.ifCond .eq 24, 3) := by decide +kernel
theorem dX6_readsOrder_55 : decode cX6_readsOrder 55 = .ok (.aload_n 0, 1) := by decide +kernel
theorem dX6_readsOrder_56 : decode cX6_readsOrder 56 = .ok (.aload_n 0, 1) := by decide +kernel
theorem dX6_readsOrder_57 : decode cX6_readsOrder 57 = .ok (.iconst 0, 1) := by decide +kernel
theorem dX6_readsOrder_58 : decode cX6_readsOrder 58 = .ok (.aload_n 0, 1) := by decide +kernel
theorem dX6_readsOrder_59 : decode cX6_readsOrder 59 = .ok (.getfield 25, 3) := by decide +kernel
theorem dX6_readsOrder_62 : decode cX6_readsOrder 62 = .ok (.aload_n 0, 1) := by decide +kernel
theorem dX6_readsOrder_63 : decode cX6_readsOrder 63 = .ok (.getfield 160, 3) := by decide +kernel
theorem dX6_readsOrder_66 : decode cX6_readsOrder 66 = .ok (.iaload, 1) := by decide +kernel
theorem dX6_readsOrder_67 : decode cX6_readsOrder 67 = .ok (.bipush 48, 2) := by decide +kernel
theorem dX6_readsOrder_69 : decode cX6_readsOrder 69 = .ok (.isub, 1) := by decide +kernel
theorem dX6_readsOrder_70 : decode cX6_readsOrder 70 = .ok (.invokevirtual 97, 3) := by decide +kernel
theorem dX6_readsOrder_73 : decode cX6_readsOrder 73 = .ok (.invokevirtual 185, 3) := by decide +kernel
theorem dX6_readsOrder_76 : decode cX6_readsOrder 76 = .ok (.aload_n 0, 1) := by decide +kernel
theorem dX6_readsOrder_77 : decode cX6_readsOrder 77 = .ok (.dup, 1) := by decide +kernel
theorem dX6_readsOrder_78 : decode cX6_readsOrder 78 = .ok (.getfield 160, 3) := by decide +kernel
theorem dX6_readsOrder_81 : decode cX6_readsOrder 81 = .ok (.iconst 1, 1) := by decide +kernel
theorem dX6_readsOrder_82 : decode cX6_readsOrder 82 = .ok (.iadd, 1) := by decide +kernel
theorem dX6_readsOrder_83 : decode cX6_readsOrder 83 = .ok (.putfield 160, 3) := by decide +kernel
theorem dX6_readsOrder_86 : decode cX6_readsOrder 86 = .ok (.iconst 1, 1) := by decide +kernel
theorem dX6_readsOrder_87 : decode cX6_readsOrder 87 = .ok (.ireturn, 1) := by decide +kernel
theorem dX6_readsOrder_88 : decode cX6_readsOrder 88 = .ok (.aload_n 0, 1) := by decide +kernel
theorem dX6_readsOrder_89 : decode cX6_readsOrder 89 = .ok (.bipush 108, 2) := by decide +kernel
theorem dX6_readsOrder_91 : decode cX6_readsOrder 91 = .ok (.invokevirtual 169, 3) := by decide +kernel
theorem dX6_readsOrder_94 : decode cX6_readsOrder 94 = .ok (.ifCond .eq 34, 3) := by decide +kernel
theorem dX6_readsOrder_97 : decode cX6_readsOrder 97 = .ok (.aload_n 0, 1) := by decide +kernel
theorem dX6_readsOrder_98 : decode cX6_readsOrder 98 = .ok (.invokevirtual 178, 3) := by decide +kernel
theorem dX6_readsOrder_101 : decode cX6_readsOrder 101 = .ok (.ifCond .ne 5, 3) := by decide +kernel
theorem dX6_readsOrder_104 : decode cX6_readsOrder 104 = .ok (.iconst 0, 1) := by decide +kernel
theorem dX6_readsOrder_105 : decode cX6_readsOrder 105 = .ok (.ireturn, 1) := by decide +kernel
theorem dX6_readsOrder_106 : decode cX6_readsOrder 106 = .ok (.aload_n 0, 1) := by decide +kernel
theorem dX6_readsOrder_107 : decode cX6_readsOrder 107 = .ok (.getfield 181, 3) := by decide +kernel
theorem dX6_readsOrder_110 : decode cX6_readsOrder 110 = .ok (.ifCond .eq 16, 3) := by decide +kernel
theorem dX6_readsOrder_113 : decode cX6_readsOrder 113 = .ok (.aload_n 0, 1) := by decide +kernel
theorem dX6_readsOrder_114 : decode cX6_readsOrder 114 = .ok (.aload_n 0, 1) := by decide +kernel
theorem dX6_readsOrder_115 : decode cX6_readsOrder 115 = .ok (.iconst 1, 1) := by decide +kernel
theorem dX6_readsOrder_116 : decode cX6_readsOrder 116 = .ok (.aload_n 0, 1) := by decide +kernel
theorem dX6_readsOrder_117 : decode cX6_readsOrder 117 = .ok (.getfield 166, 3) := by decide +kernel
theorem dX6_readsOrder_120 : decode cX6_readsOrder 120 = .ok (.invokevirtual 97, 3) := by decide +kernel
theorem dX6_readsOrder_123 : decode cX6_readsOrder 123 = .ok (.invokevirtual 185, 3) := by decide +kernel
theorem dX6_readsOrder_126 : decode cX6_readsOrder 126 = .ok (.iconst 1, 1) := by decide +kernel
theorem dX6_readsOrder_127 : decode cX6_readsOrder 127 = .ok (.ireturn, 1) := by decide +kernel
theorem dX6_readsOrder_128 : decode cX6_readsOrder 128 = .ok (.aload_n 0, 1) := by decide +kernel
theorem dX6_readsOrder_129 : decode cX6_readsOrder 129 = .ok (.invokevirtual 188, 3) := by decide +kernel
theorem dX6_readsOrder_132 : decode cX6_readsOrder 132 = .ok (.ireturn, 1) := by decide +kernel
theorem dX6_fault_0 : decode cX6_fault 0 = .ok (.aload_n 0, 1) := by decide +kernel
theorem dX6_fault_1 : decode cX6_fault 1 = .ok (.iconst 0, 1) := by decide +kernel
theorem dX6_fault_2 : decode cX6_fault 2 = .ok (.putfield 160, 3) := by decide +kernel
theorem dX6_fault_5 : decode cX6_fault 5 = .ok (.aload_n 0, 1) := by decide +kernel
theorem dX6_fault_6 : decode cX6_fault 6 = .ok (.iconst 0, 1) := by decide +kernel
theorem dX6_fault_7 : decode cX6_fault 7 = .ok (.putfield 181, 3) := by decide +kernel
theorem dX6_fault_10 : decode cX6_fault 10 = .ok (.iconst 1, 1) := by decide +kernel
theorem dX6_fault_11 : decode cX6_fault 11 = .ok (.istore_n 1, 1) := by decide +kernel
theorem dX6_fault_12 : decode cX6_fault 12 = .ok (.iload_n 1, 1) := by decide +kernel
theorem dX6_fault_13 : decode cX6_fault 13 = .ok (.ifCond .eq 25, 3) := by decide +kernel
theorem dX6_fault_16 : decode cX6_fault 16 = .ok (.aload_n 0, 1) := by decide +kernel
theorem dX6_fault_17 : decode cX6_fault 17 = .ok (.invokevirtual 191, 3) := by decide +kernel
theorem dX6_fault_20 : decode cX6_fault 20 = .ok (.ifCond .ne 8, 3) := by decide +kernel
theorem dX6_fault_23 : decode cX6_fault 23 = .ok (.aload_n 0, 1) := by decide +kernel
theorem dX6_fault_24 : decode cX6_fault 24 = .ok (.getfield 160, 3) := by decide +kernel
theorem dX6_fault_27 : decode cX6_fault 27 = .ok (.ireturn, 1) := by decide +kernel
theorem dX6_fault_28 : decode cX6_fault 28 = .ok (.aload_n 0, 1) := by decide +kernel
theorem dX6_fault_29 : decode cX6_fault 29 = .ok (.bipush 59, 2) := by decide +kernel
theorem dX6_fault_31 : decode cX6_fault 31 = .ok (.invokevirtual 169, 3) := by decide +kernel
theorem dX6_fault_34 : decode cX6_fault 34 = .ok (.istore_n 1, 1) := by decide +kernel
theorem dX6_fault_35 : decode cX6_fault 35 = .ok (.goto (-23), 3) := by decide +kernel
theorem dX6_fault_38 : decode cX6_fault 38 = .ok (.aload_n 0, 1) := by decide +kernel
theorem dX6_fault_39 : decode cX6_fault 39 = .ok (.getfield 160, 3) := by decide +kernel
theorem dX6_fault_42 : decode cX6_fault 42 = .ok (.aload_n 0, 1) := by decide +kernel
theorem dX6_fault_43 : decode cX6_fault 43 = .ok (.getfield 142, 3) := by decide +kernel
theorem dX6_fault_46 : decode cX6_fault 46 = .ok (.if_icmp .ne 8, 3) := by decide +kernel
theorem dX6_fault_49 : decode cX6_fault 49 = .ok (.bipush (-6), 2) := by decide +kernel
theorem dX6_fault_51 : decode cX6_fault 51 = .ok (.goto 7, 3) := by decide +kernel
theorem dX6_fault_54 : decode cX6_fault 54 = .ok (.aload_n 0, 1) := by decide +kernel
theorem dX6_fault_55 : decode cX6_fault 55 = .ok (.getfield 160, 3) := by decide +kernel
theorem dX6_fault_58 : decode cX6_fault 58 = .ok (.ireturn, 1) := by decide +kernel
theorem dX6_carryOut_0 : decode cX6_carryOut 0 = .ok (.aload_n 0, 1) := by decide +kernel
theorem dX6_carryOut_1 : decode cX6_carryOut 1 = .ok (.invokevirtual 194, 3) := by decide +kernel
theorem dX6_carryOut_4 : decode cX6_carryOut 4 = .ok (.bipush (-6), 2) := by decide +kernel
theorem dX6_carryOut_6 : decode cX6_carryOut 6 = .ok (.if_icmp .eq 6, 3) := by decide +kernel
theorem dX6_carryOut_9 : decode cX6_carryOut 9 = .ok (.bipush (-3), 2) := by decide +kernel
theorem dX6_carryOut_11 : decode cX6_carryOut 11 = .ok (.ireturn, 1) := by decide +kernel
theorem dX6_carryOut_12 : decode cX6_carryOut 12 = .ok (.aload_n 0, 1) := by decide +kernel
theorem dX6_carryOut_13 : decode cX6_carryOut 13 = .ok (.invokevirtual 94, 3) := by decide +kernel
theorem dX6_carryOut_16 : decode cX6_carryOut 16 = .ok (.aload_n 0, 1) := by decide +kernel
theorem dX6_carryOut_17 : decode cX6_carryOut 17 = .ok (.iconst 0, 1) := by decide +kernel
theorem dX6_carryOut_18 : decode cX6_carryOut 18 = .ok (.putfield 160, 3) := by decide +kernel
theorem dX6_carryOut_21 : decode cX6_carryOut 21 = .ok (.aload_n 0, 1) := by decide +kernel
theorem dX6_carryOut_22 : decode cX6_carryOut 22 = .ok (.iconst 1, 1) := by decide +kernel
theorem dX6_carryOut_23 : decode cX6_carryOut 23 = .ok (.putfield 181, 3) := by decide +kernel
theorem dX6_carryOut_26 : decode cX6_carryOut 26 = .ok (.aload_n 0, 1) := by decide +kernel
theorem dX6_carryOut_27 : decode cX6_carryOut 27 = .ok (.iconst 0, 1) := by decide +kernel
theorem dX6_carryOut_28 : decode cX6_carryOut 28 = .ok (.putfield 175, 3) := by decide +kernel
theorem dX6_carryOut_31 : decode cX6_carryOut 31 = .ok (.iconst 0, 1) := by decide +kernel
theorem dX6_carryOut_32 : decode cX6_carryOut 32 = .ok (.istore_n 1, 1) := by decide +kernel
theorem dX6_carryOut_33 : decode cX6_carryOut 33 = .ok (.iconst 1, 1) := by decide +kernel
theorem dX6_carryOut_34 : decode cX6_carryOut 34 = .ok (.istore_n 2, 1) := by decide +kernel
theorem dX6_carryOut_35 : decode cX6_carryOut 35 = .ok (.iload_n 2, 1) := by decide +kernel
theorem dX6_carryOut_36 : decode cX6_carryOut 36 = .ok (.ifCond .eq 48, 3) := by decide +kernel
theorem dX6_carryOut_39 : decode cX6_carryOut 39 = .ok (.aload_n 0, 1) := by decide +kernel
theorem dX6_carryOut_40 : decode cX6_carryOut 40 = .ok (.invokevirtual 191, 3) := by decide +kernel
theorem dX6_carryOut_43 : decode cX6_carryOut 43 = .ok (.istore_n 3, 1) := by decide +kernel
theorem dX6_carryOut_44 : decode cX6_carryOut 44 = .ok (.iload_n 1, 1) := by decide +kernel
theorem dX6_carryOut_45 : decode cX6_carryOut 45 = .ok (.aload_n 0, 1) := by decide +kernel
theorem dX6_carryOut_46 : decode cX6_carryOut 46 = .ok (.getfield 175, 3) := by decide +kernel
theorem dX6_carryOut_49 : decode cX6_carryOut 49 = .ok (.ifCond .ne 7, 3) := by decide +kernel
theorem dX6_carryOut_52 : decode cX6_carryOut 52 = .ok (.iconst 1, 1) := by decide +kernel
theorem dX6_carryOut_53 : decode cX6_carryOut 53 = .ok (.goto 4, 3) := by decide +kernel
theorem dX6_carryOut_56 : decode cX6_carryOut 56 = .ok (.iconst 0, 1) := by decide +kernel
theorem dX6_carryOut_57 : decode cX6_carryOut 57 = .ok (.iadd, 1) := by decide +kernel
theorem dX6_carryOut_58 : decode cX6_carryOut 58 = .ok (.istore_n 1, 1) := by decide +kernel
theorem dX6_carryOut_59 : decode cX6_carryOut 59 = .ok (.aload_n 0, 1) := by decide +kernel
theorem dX6_carryOut_60 : decode cX6_carryOut 60 = .ok (.getfield 175, 3) := by decide +kernel
theorem dX6_carryOut_63 : decode cX6_carryOut 63 = .ok (.ifCond .ne 16, 3) := by decide +kernel
theorem dX6_carryOut_66 : decode cX6_carryOut 66 = .ok (.aload_n 0, 1) := by decide +kernel
theorem dX6_carryOut_67 : decode cX6_carryOut 67 = .ok (.bipush 59, 2) := by decide +kernel
theorem dX6_carryOut_69 : decode cX6_carryOut 69 = .ok (.invokevirtual 169, 3) := by decide +kernel
theorem dX6_carryOut_72 : decode cX6_carryOut 72 = .ok (.ifCond .eq 7, 3) := by decide +kernel
theorem dX6_carryOut_75 : decode cX6_carryOut 75 = .ok (.iconst 1, 1) := by decide +kernel
theorem dX6_carryOut_76 : decode cX6_carryOut 76 = .ok (.goto 4, 3) := by decide +kernel
theorem dX6_carryOut_79 : decode cX6_carryOut 79 = .ok (.iconst 0, 1) := by decide +kernel
theorem dX6_carryOut_80 : decode cX6_carryOut 80 = .ok (.istore_n 2, 1) := by decide +kernel
theorem dX6_carryOut_81 : decode cX6_carryOut 81 = .ok (.goto (-46), 3) := by decide +kernel
theorem dX6_carryOut_84 : decode cX6_carryOut 84 = .ok (.aload_n 0, 1) := by decide +kernel
theorem dX6_carryOut_85 : decode cX6_carryOut 85 = .ok (.iconst 0, 1) := by decide +kernel
theorem dX6_carryOut_86 : decode cX6_carryOut 86 = .ok (.putfield 142, 3) := by decide +kernel
theorem dX6_carryOut_89 : decode cX6_carryOut 89 = .ok (.aload_n 0, 1) := by decide +kernel
theorem dX6_carryOut_90 : decode cX6_carryOut 90 = .ok (.iload_n 1, 1) := by decide +kernel
theorem dX6_carryOut_91 : decode cX6_carryOut 91 = .ok (.invokevirtual 101, 3) := by decide +kernel
theorem dX6_carryOut_94 : decode cX6_carryOut 94 = .ok (.ireturn, 1) := by decide +kernel
theorem dX6_undo_0 : decode cX6_undo 0 = .ok (.aload_n 0, 1) := by decide +kernel
theorem dX6_undo_1 : decode cX6_undo 1 = .ok (.getfield 28, 3) := by decide +kernel
theorem dX6_undo_4 : decode cX6_undo 4 = .ok (.ifCond .ne 6, 3) := by decide +kernel
theorem dX6_undo_7 : decode cX6_undo 7 = .ok (.bipush (-5), 2) := by decide +kernel
theorem dX6_undo_9 : decode cX6_undo 9 = .ok (.ireturn, 1) := by decide +kernel
theorem dX6_undo_10 : decode cX6_undo 10 = .ok (.aload_n 0, 1) := by decide +kernel
theorem dX6_undo_11 : decode cX6_undo 11 = .ok (.dup, 1) := by decide +kernel
theorem dX6_undo_12 : decode cX6_undo 12 = .ok (.getfield 28, 3) := by decide +kernel
theorem dX6_undo_15 : decode cX6_undo 15 = .ok (.iconst 1, 1) := by decide +kernel
theorem dX6_undo_16 : decode cX6_undo 16 = .ok (.isub, 1) := by decide +kernel
theorem dX6_undo_17 : decode cX6_undo 17 = .ok (.putfield 28, 3) := by decide +kernel
theorem dX6_undo_20 : decode cX6_undo 20 = .ok (.iconst 0, 1) := by decide +kernel
theorem dX6_undo_21 : decode cX6_undo 21 = .ok (.istore_n 1, 1) := by decide +kernel
theorem dX6_undo_22 : decode cX6_undo 22 = .ok (.iload_n 1, 1) := by decide +kernel
theorem dX6_undo_23 : decode cX6_undo 23 = .ok (.sipush 447, 3) := by decide +kernel
theorem dX6_undo_26 : decode cX6_undo 26 = .ok (.if_icmp .ge 30, 3) := by decide +kernel
theorem dX6_undo_29 : decode cX6_undo 29 = .ok (.aload_n 0, 1) := by decide +kernel
theorem dX6_undo_30 : decode cX6_undo 30 = .ok (.getfield 7, 3) := by decide +kernel
theorem dX6_undo_33 : decode cX6_undo 33 = .ok (.iload_n 1, 1) := by decide +kernel
theorem dX6_undo_34 : decode cX6_undo 34 = .ok (.aload_n 0, 1) := by decide +kernel
theorem dX6_undo_35 : decode cX6_undo 35 = .ok (.getfield 16, 3) := by decide +kernel
theorem dX6_undo_38 : decode cX6_undo 38 = .ok (.sipush 447, 3) := by decide +kernel
theorem dX6_undo_41 : decode cX6_undo 41 = .ok (.aload_n 0, 1) := by decide +kernel
theorem dX6_undo_42 : decode cX6_undo 42 = .ok (.getfield 28, 3) := by decide +kernel
theorem dX6_undo_45 : decode cX6_undo 45 = .ok (.imul, 1) := by decide +kernel
theorem dX6_undo_46 : decode cX6_undo 46 = .ok (.iload_n 1, 1) := by decide +kernel
theorem dX6_undo_47 : decode cX6_undo 47 = .ok (.iadd, 1) := by decide +kernel
theorem dX6_undo_48 : decode cX6_undo 48 = .ok (.iaload, 1) := by decide +kernel
theorem dX6_undo_49 : decode cX6_undo 49 = .ok (.iastore, 1) := by decide +kernel
theorem dX6_undo_50 : decode cX6_undo 50 = .ok (.iinc 1 1, 3) := by decide +kernel
theorem dX6_undo_53 : decode cX6_undo 53 = .ok (.goto (-31), 3) := by decide +kernel
theorem dX6_undo_56 : decode cX6_undo 56 = .ok (.aload_n 0, 1) := by decide +kernel
theorem dX6_undo_57 : decode cX6_undo 57 = .ok (.getfield 28, 3) := by decide +kernel
theorem dX6_undo_60 : decode cX6_undo 60 = .ok (.ireturn, 1) := by decide +kernel
theorem dX6_save_0 : decode cX6_save 0 = .ok (.iload_n 1, 1) := by decide +kernel
theorem dX6_save_1 : decode cX6_save 1 = .ok (.i2l, 1) := by decide +kernel
theorem dX6_save_2 : decode cX6_save 2 = .ok (.lconst 0, 1) := by decide +kernel
theorem dX6_save_3 : decode cX6_save 3 = .ok (.lconst 1, 1) := by decide +kernel
theorem dX6_save_4 : decode cX6_save 4 = .ok (.invokestatic 67, 3) := by decide +kernel
theorem dX6_save_7 : decode cX6_save 7 = .ok (.ifCond .ne 6, 3) := by decide +kernel
theorem dX6_save_10 : decode cX6_save 10 = .ok (.bipush (-2), 2) := by decide +kernel
theorem dX6_save_12 : decode cX6_save 12 = .ok (.ireturn, 1) := by decide +kernel
theorem dX6_save_13 : decode cX6_save 13 = .ok (.iconst 0, 1) := by decide +kernel
theorem dX6_save_14 : decode cX6_save 14 = .ok (.istore_n 2, 1) := by decide +kernel
theorem dX6_save_15 : decode cX6_save 15 = .ok (.iload_n 2, 1) := by decide +kernel
theorem dX6_save_16 : decode cX6_save 16 = .ok (.sipush 447, 3) := by decide +kernel
theorem dX6_save_19 : decode cX6_save 19 = .ok (.if_icmp .ge 27, 3) := by decide +kernel
theorem dX6_save_22 : decode cX6_save 22 = .ok (.aload_n 0, 1) := by decide +kernel
theorem dX6_save_23 : decode cX6_save 23 = .ok (.getfield 19, 3) := by decide +kernel
theorem dX6_save_26 : decode cX6_save 26 = .ok (.sipush 447, 3) := by decide +kernel
theorem dX6_save_29 : decode cX6_save 29 = .ok (.iload_n 1, 1) := by decide +kernel
theorem dX6_save_30 : decode cX6_save 30 = .ok (.imul, 1) := by decide +kernel
theorem dX6_save_31 : decode cX6_save 31 = .ok (.iload_n 2, 1) := by decide +kernel
theorem dX6_save_32 : decode cX6_save 32 = .ok (.iadd, 1) := by decide +kernel
theorem dX6_save_33 : decode cX6_save 33 = .ok (.aload_n 0, 1) := by decide +kernel
theorem dX6_save_34 : decode cX6_save 34 = .ok (.getfield 7, 3) := by decide +kernel
theorem dX6_save_37 : decode cX6_save 37 = .ok (.iload_n 2, 1) := by decide +kernel
theorem dX6_save_38 : decode cX6_save 38 = .ok (.iaload, 1) := by decide +kernel
theorem dX6_save_39 : decode cX6_save 39 = .ok (.iastore, 1) := by decide +kernel
theorem dX6_save_40 : decode cX6_save 40 = .ok (.iinc 2 1, 3) := by decide +kernel
theorem dX6_save_43 : decode cX6_save 43 = .ok (.goto (-28), 3) := by decide +kernel
theorem dX6_save_46 : decode cX6_save 46 = .ok (.aload_n 0, 1) := by decide +kernel
theorem dX6_save_47 : decode cX6_save 47 = .ok (.getfield 22, 3) := by decide +kernel
theorem dX6_save_50 : decode cX6_save 50 = .ok (.iload_n 1, 1) := by decide +kernel
theorem dX6_save_51 : decode cX6_save 51 = .ok (.iconst 1, 1) := by decide +kernel
theorem dX6_save_52 : decode cX6_save 52 = .ok (.iastore, 1) := by decide +kernel
theorem dX6_save_53 : decode cX6_save 53 = .ok (.aload_n 0, 1) := by decide +kernel
theorem dX6_save_54 : decode cX6_save 54 = .ok (.getfield 7, 3) := by decide +kernel
theorem dX6_save_57 : decode cX6_save 57 = .ok (.bipush 22, 2) := by decide +kernel
theorem dX6_save_59 : decode cX6_save 59 = .ok (.iaload, 1) := by decide +kernel
theorem dX6_save_60 : decode cX6_save 60 = .ok (.ireturn, 1) := by decide +kernel
theorem dX6_restore_0 : decode cX6_restore 0 = .ok (.iload_n 1, 1) := by decide +kernel
theorem dX6_restore_1 : decode cX6_restore 1 = .ok (.i2l, 1) := by decide +kernel
theorem dX6_restore_2 : decode cX6_restore 2 = .ok (.lconst 0, 1) := by decide +kernel
theorem dX6_restore_3 : decode cX6_restore 3 = .ok (.lconst 1, 1) := by decide +kernel
theorem dX6_restore_4 : decode cX6_restore 4 = .ok (.invokestatic 67, 3) := by decide +kernel
theorem dX6_restore_7 : decode cX6_restore 7 = .ok (.ifCond .ne 6, 3) := by decide +kernel
theorem dX6_restore_10 : decode cX6_restore 10 = .ok (.bipush (-2), 2) := by decide +kernel
theorem dX6_restore_12 : decode cX6_restore 12 = .ok (.ireturn, 1) := by decide +kernel
theorem dX6_restore_13 : decode cX6_restore 13 = .ok (.aload_n 0, 1) := by decide +kernel
theorem dX6_restore_14 : decode cX6_restore 14 = .ok (.getfield 22, 3) := by decide +kernel
theorem dX6_restore_17 : decode cX6_restore 17 = .ok (.iload_n 1, 1) := by decide +kernel
theorem dX6_restore_18 : decode cX6_restore 18 = .ok (.iaload, 1) := by decide +kernel
theorem dX6_restore_19 : decode cX6_restore 19 = .ok (.ifCond .ne 6, 3) := by decide +kernel
theorem dX6_restore_22 : decode cX6_restore 22 = .ok (.bipush (-5), 2) := by decide +kernel
theorem dX6_restore_24 : decode cX6_restore 24 = .ok (.ireturn, 1) := by decide +kernel
theorem dX6_restore_25 : decode cX6_restore 25 = .ok (.aload_n 0, 1) := by decide +kernel
theorem dX6_restore_26 : decode cX6_restore 26 = .ok (.invokevirtual 94, 3) := by decide +kernel
theorem dX6_restore_29 : decode cX6_restore 29 = .ok (.iconst 0, 1) := by decide +kernel
theorem dX6_restore_30 : decode cX6_restore 30 = .ok (.istore_n 2, 1) := by decide +kernel
theorem dX6_restore_31 : decode cX6_restore 31 = .ok (.iload_n 2, 1) := by decide +kernel
theorem dX6_restore_32 : decode cX6_restore 32 = .ok (.sipush 447, 3) := by decide +kernel
theorem dX6_restore_35 : decode cX6_restore 35 = .ok (.if_icmp .ge 27, 3) := by decide +kernel
theorem dX6_restore_38 : decode cX6_restore 38 = .ok (.aload_n 0, 1) := by decide +kernel
theorem dX6_restore_39 : decode cX6_restore 39 = .ok (.getfield 7, 3) := by decide +kernel
theorem dX6_restore_42 : decode cX6_restore 42 = .ok (.iload_n 2, 1) := by decide +kernel
theorem dX6_restore_43 : decode cX6_restore 43 = .ok (.aload_n 0, 1) := by decide +kernel
theorem dX6_restore_44 : decode cX6_restore 44 = .ok (.getfield 19, 3) := by decide +kernel
theorem dX6_restore_47 : decode cX6_restore 47 = .ok (.sipush 447, 3) := by decide +kernel
theorem dX6_restore_50 : decode cX6_restore 50 = .ok (.iload_n 1, 1) := by decide +kernel
theorem dX6_restore_51 : decode cX6_restore 51 = .ok (.imul, 1) := by decide +kernel
theorem dX6_restore_52 : decode cX6_restore 52 = .ok (.iload_n 2, 1) := by decide +kernel
theorem dX6_restore_53 : decode cX6_restore 53 = .ok (.iadd, 1) := by decide +kernel
theorem dX6_restore_54 : decode cX6_restore 54 = .ok (.iaload, 1) := by decide +kernel
theorem dX6_restore_55 : decode cX6_restore 55 = .ok (.iastore, 1) := by decide +kernel
theorem dX6_restore_56 : decode cX6_restore 56 = .ok (.iinc 2 1, 3) := by decide +kernel
theorem dX6_restore_59 : decode cX6_restore 59 = .ok (.goto (-28), 3) := by decide +kernel
theorem dX6_restore_62 : decode cX6_restore 62 = .ok (.aload_n 0, 1) := by decide +kernel
theorem dX6_restore_63 : decode cX6_restore 63 = .ok (.aload_n 0, 1) := by decide +kernel
theorem dX6_restore_64 : decode cX6_restore 64 = .ok (.getfield 7, 3) := by decide +kernel
theorem dX6_restore_67 : decode cX6_restore 67 = .ok (.bipush 22, 2) := by decide +kernel
theorem dX6_restore_69 : decode cX6_restore 69 = .ok (.iaload, 1) := by decide +kernel
theorem dX6_restore_70 : decode cX6_restore 70 = .ok (.invokevirtual 101, 3) := by decide +kernel
theorem dX6_restore_73 : decode cX6_restore 73 = .ok (.ireturn, 1) := by decide +kernel
