theorem dX0_init_0 : decode cX0_init 0 = .ok (.aload_n 0, 1) := by decide +kernel
theorem dX0_init_1 : decode cX0_init 1 = .ok (.invokespecial 3, 3) := by decide +kernel
theorem dX0_init_4 : decode cX0_init 4 = .ok (.aload_n 0, 1) := by decide +kernel
theorem dX0_init_5 : decode cX0_init 5 = .ok (.bipush 6, 2) := by decide +kernel
theorem dX0_init_7 : decode cX0_init 7 = .ok (.anewarray 9, 3) := by decide +kernel
theorem dX0_init_10 : decode cX0_init 10 = .ok (.putfield 11, 3) := by decide +kernel
theorem dX0_init_13 : decode cX0_init 13 = .ok (.aload_n 0, 1) := by decide +kernel
theorem dX0_init_14 : decode cX0_init 14 = .ok (.iconst 0, 1) := by decide +kernel
theorem dX0_init_15 : decode cX0_init 15 = .ok (.putfield 17, 3) := by decide +kernel
theorem dX0_init_18 : decode cX0_init 18 = .ok (.aload_n 0, 1) := by decide +kernel
theorem dX0_init_19 : decode cX0_init 19 = .ok (.iconst 0, 1) := by decide +kernel
theorem dX0_init_20 : decode cX0_init 20 = .ok (.putfield 21, 3) := by decide +kernel
theorem dX0_init_23 : decode cX0_init 23 = .ok (.iconst 0, 1) := by decide +kernel
theorem dX0_init_24 : decode cX0_init 24 = .ok (.istore_n 1, 1) := by decide +kernel
theorem dX0_init_25 : decode cX0_init 25 = .ok (.iload_n 1, 1) := by decide +kernel
theorem dX0_init_26 : decode cX0_init 26 = .ok (.aload_n 0, 1) := by decide +kernel
theorem dX0_init_27 : decode cX0_init 27 = .ok (.getfield 11, 3) := by decide +kernel
theorem dX0_init_30 : decode cX0_init 30 = .ok (.arraylength, 1) := by decide +kernel
theorem dX0_init_31 : decode cX0_init 31 = .ok (.if_icmp .ge 22, 3) := by decide +kernel
theorem dX0_init_34 : decode cX0_init 34 = .ok (.aload_n 0, 1) := by decide +kernel
theorem dX0_init_35 : decode cX0_init 35 = .ok (.getfield 11, 3) := by decide +kernel
theorem dX0_init_38 : decode cX0_init 38 = .ok (.iload_n 1, 1) := by decide +kernel
theorem dX0_init_39 : decode cX0_init 39 = .ok (.new 9, 3) := by decide +kernel
theorem dX0_init_42 : decode cX0_init 42 = .ok (.dup, 1) := by decide +kernel
theorem dX0_init_43 : decode cX0_init 43 = .ok (.invokespecial 24, 3) := by decide +kernel
theorem dX0_init_46 : decode cX0_init 46 = .ok (.aastore, 1) := by decide +kernel
theorem dX0_init_47 : decode cX0_init 47 = .ok (.iinc 1 1, 3) := by decide +kernel
theorem dX0_init_50 : decode cX0_init 50 = .ok (.goto (-25), 3) := by decide +kernel
theorem dX0_init_53 : decode cX0_init 53 = .ok (.return_, 1) := by decide +kernel
theorem dX0_record_0 : decode cX0_record 0 = .ok (.aload_n 0, 1) := by decide +kernel
theorem dX0_record_1 : decode cX0_record 1 = .ok (.getfield 11, 3) := by decide +kernel
theorem dX0_record_4 : decode cX0_record 4 = .ok (.aload_n 0, 1) := by decide +kernel
theorem dX0_record_5 : decode cX0_record 5 = .ok (.getfield 17, 3) := by decide +kernel
theorem dX0_record_8 : decode cX0_record 8 = .ok (.invokestatic 25, 3) := by decide +kernel
theorem dX0_record_11 : decode cX0_record 11 = .ok (.astore_n 2, 1) := by decide +kernel
theorem dX0_record_12 : decode cX0_record 12 = .ok (.aload_n 2, 1) := by decide +kernel
theorem dX0_record_13 : decode cX0_record 13 = .ok (.ifnull 45, 3) := by decide +kernel
theorem dX0_record_16 : decode cX0_record 16 = .ok (.aload_n 2, 1) := by decide +kernel
theorem dX0_record_17 : decode cX0_record 17 = .ok (.aload_n 1, 1) := by decide +kernel
theorem dX0_record_18 : decode cX0_record 18 = .ok (.invokevirtual 29, 3) := by decide +kernel
theorem dX0_record_21 : decode cX0_record 21 = .ok (.aload_n 0, 1) := by decide +kernel
theorem dX0_record_22 : decode cX0_record 22 = .ok (.aload_n 0, 1) := by decide +kernel
theorem dX0_record_23 : decode cX0_record 23 = .ok (.getfield 17, 3) := by decide +kernel
theorem dX0_record_26 : decode cX0_record 26 = .ok (.iconst 5, 1) := by decide +kernel
theorem dX0_record_27 : decode cX0_record 27 = .ok (.if_icmp .ne 7, 3) := by decide +kernel
theorem dX0_record_30 : decode cX0_record 30 = .ok (.iconst 0, 1) := by decide +kernel
theorem dX0_record_31 : decode cX0_record 31 = .ok (.goto 9, 3) := by decide +kernel
theorem dX0_record_34 : decode cX0_record 34 = .ok (.aload_n 0, 1) := by decide +kernel
theorem dX0_record_35 : decode cX0_record 35 = .ok (.getfield 17, 3) := by decide +kernel
theorem dX0_record_38 : decode cX0_record 38 = .ok (.iconst 1, 1) := by decide +kernel
theorem dX0_record_39 : decode cX0_record 39 = .ok (.iadd, 1) := by decide +kernel
theorem dX0_record_40 : decode cX0_record 40 = .ok (.putfield 17, 3) := by decide +kernel
theorem dX0_record_43 : decode cX0_record 43 = .ok (.aload_n 0, 1) := by decide +kernel
theorem dX0_record_44 : decode cX0_record 44 = .ok (.aload_n 0, 1) := by decide +kernel
theorem dX0_record_45 : decode cX0_record 45 = .ok (.getfield 21, 3) := by decide +kernel
theorem dX0_record_48 : decode cX0_record 48 = .ok (.iconst 1, 1) := by decide +kernel
theorem dX0_record_49 : decode cX0_record 49 = .ok (.iadd, 1) := by decide +kernel
theorem dX0_record_50 : decode cX0_record 50 = .ok (.bipush 6, 2) := by decide +kernel
theorem dX0_record_52 : decode cX0_record 52 = .ok (.invokestatic 33, 3) := by decide +kernel
theorem dX0_record_55 : decode cX0_record 55 = .ok (.putfield 21, 3) := by decide +kernel
theorem dX0_record_58 : decode cX0_record 58 = .ok (.return_, 1) := by decide +kernel
theorem dX0_bringBack_0 : decode cX0_bringBack 0 = .ok (.aload_n 0, 1) := by decide +kernel
theorem dX0_bringBack_1 : decode cX0_bringBack 1 = .ok (.getfield 17, 3) := by decide +kernel
theorem dX0_bringBack_4 : decode cX0_bringBack 4 = .ok (.ifCond .ne 7, 3) := by decide +kernel
theorem dX0_bringBack_7 : decode cX0_bringBack 7 = .ok (.iconst 5, 1) := by decide +kernel
theorem dX0_bringBack_8 : decode cX0_bringBack 8 = .ok (.goto 9, 3) := by decide +kernel
theorem dX0_bringBack_11 : decode cX0_bringBack 11 = .ok (.aload_n 0, 1) := by decide +kernel
theorem dX0_bringBack_12 : decode cX0_bringBack 12 = .ok (.getfield 17, 3) := by decide +kernel
theorem dX0_bringBack_15 : decode cX0_bringBack 15 = .ok (.iconst 1, 1) := by decide +kernel
theorem dX0_bringBack_16 : decode cX0_bringBack 16 = .ok (.isub, 1) := by decide +kernel
theorem dX0_bringBack_17 : decode cX0_bringBack 17 = .ok (.istore_n 2, 1) := by decide +kernel
theorem dX0_bringBack_18 : decode cX0_bringBack 18 = .ok (.aload_n 0, 1) := by decide +kernel
theorem dX0_bringBack_19 : decode cX0_bringBack 19 = .ok (.getfield 11, 3) := by decide +kernel
theorem dX0_bringBack_22 : decode cX0_bringBack 22 = .ok (.iload_n 2, 1) := by decide +kernel
theorem dX0_bringBack_23 : decode cX0_bringBack 23 = .ok (.invokestatic 25, 3) := by decide +kernel
theorem dX0_bringBack_26 : decode cX0_bringBack 26 = .ok (.astore_n 3, 1) := by decide +kernel
theorem dX0_bringBack_27 : decode cX0_bringBack 27 = .ok (.aload_n 3, 1) := by decide +kernel
theorem dX0_bringBack_28 : decode cX0_bringBack 28 = .ok (.ifnull 30, 3) := by decide +kernel
theorem dX0_bringBack_31 : decode cX0_bringBack 31 = .ok (.aload_n 0, 1) := by decide +kernel
theorem dX0_bringBack_32 : decode cX0_bringBack 32 = .ok (.getfield 21, 3) := by decide +kernel
theorem dX0_bringBack_35 : decode cX0_bringBack 35 = .ok (.ifCond .le 23, 3) := by decide +kernel
theorem dX0_bringBack_38 : decode cX0_bringBack 38 = .ok (.aload_n 1, 1) := by decide +kernel
theorem dX0_bringBack_39 : decode cX0_bringBack 39 = .ok (.aload_n 3, 1) := by decide +kernel
theorem dX0_bringBack_40 : decode cX0_bringBack 40 = .ok (.invokevirtual 29, 3) := by decide +kernel
theorem dX0_bringBack_43 : decode cX0_bringBack 43 = .ok (.aload_n 0, 1) := by decide +kernel
theorem dX0_bringBack_44 : decode cX0_bringBack 44 = .ok (.iload_n 2, 1) := by decide +kernel
theorem dX0_bringBack_45 : decode cX0_bringBack 45 = .ok (.putfield 17, 3) := by decide +kernel
theorem dX0_bringBack_48 : decode cX0_bringBack 48 = .ok (.aload_n 0, 1) := by decide +kernel
theorem dX0_bringBack_49 : decode cX0_bringBack 49 = .ok (.dup, 1) := by decide +kernel
theorem dX0_bringBack_50 : decode cX0_bringBack 50 = .ok (.getfield 21, 3) := by decide +kernel
theorem dX0_bringBack_53 : decode cX0_bringBack 53 = .ok (.iconst 1, 1) := by decide +kernel
theorem dX0_bringBack_54 : decode cX0_bringBack 54 = .ok (.isub, 1) := by decide +kernel
theorem dX0_bringBack_55 : decode cX0_bringBack 55 = .ok (.putfield 21, 3) := by decide +kernel
theorem dX0_bringBack_58 : decode cX0_bringBack 58 = .ok (.return_, 1) := by decide +kernel
theorem dX1_init_0 : decode cX1_init 0 = .ok (.aload_n 0, 1) := by decide +kernel
theorem dX1_init_1 : decode cX1_init 1 = .ok (.invokespecial 3, 3) := by decide +kernel
theorem dX1_init_4 : decode cX1_init 4 = .ok (.aload_n 0, 1) := by decide +kernel
theorem dX1_init_5 : decode cX1_init 5 = .ok (.bipush 10, 2) := by decide +kernel
theorem dX1_init_7 : decode cX1_init 7 = .ok (.newarray .int, 2) := by decide +kernel
theorem dX1_init_9 : decode cX1_init 9 = .ok (.putfield 9, 3) := by decide +kernel
theorem dX1_init_12 : decode cX1_init 12 = .ok (.aload_n 0, 1) := by decide +kernel
theorem dX1_init_13 : decode cX1_init 13 = .ok (.sipush 400, 3) := by decide +kernel
theorem dX1_init_16 : decode cX1_init 16 = .ok (.newarray .int, 2) := by decide +kernel
theorem dX1_init_18 : decode cX1_init 18 = .ok (.putfield 15, 3) := by decide +kernel
theorem dX1_init_21 : decode cX1_init 21 = .ok (.aload_n 0, 1) := by decide +kernel
theorem dX1_init_22 : decode cX1_init 22 = .ok (.new 18, 3) := by decide +kernel
theorem dX1_init_25 : decode cX1_init 25 = .ok (.dup, 1) := by decide +kernel
theorem dX1_init_26 : decode cX1_init 26 = .ok (.invokespecial 20, 3) := by decide +kernel
theorem dX1_init_29 : decode cX1_init 29 = .ok (.putfield 21, 3) := by decide +kernel
theorem dX1_init_32 : decode cX1_init 32 = .ok (.aload_n 0, 1) := by decide +kernel
theorem dX1_init_33 : decode cX1_init 33 = .ok (.iconst 0, 1) := by decide +kernel
theorem dX1_init_34 : decode cX1_init 34 = .ok (.putfield 25, 3) := by decide +kernel
theorem dX1_init_37 : decode cX1_init 37 = .ok (.aload_n 0, 1) := by decide +kernel
theorem dX1_init_38 : decode cX1_init 38 = .ok (.iconst 0, 1) := by decide +kernel
theorem dX1_init_39 : decode cX1_init 39 = .ok (.putfield 29, 3) := by decide +kernel
theorem dX1_init_42 : decode cX1_init 42 = .ok (.aload_n 0, 1) := by decide +kernel
theorem dX1_init_43 : decode cX1_init 43 = .ok (.iconst 0, 1) := by decide +kernel
theorem dX1_init_44 : decode cX1_init 44 = .ok (.putfield 32, 3) := by decide +kernel
theorem dX1_init_47 : decode cX1_init 47 = .ok (.aload_n 0, 1) := by decide +kernel
theorem dX1_init_48 : decode cX1_init 48 = .ok (.iconst 0, 1) := by decide +kernel
theorem dX1_init_49 : decode cX1_init 49 = .ok (.putfield 35, 3) := by decide +kernel
theorem dX1_init_52 : decode cX1_init 52 = .ok (.aload_n 0, 1) := by decide +kernel
theorem dX1_init_53 : decode cX1_init 53 = .ok (.iconst 0, 1) := by decide +kernel
theorem dX1_init_54 : decode cX1_init 54 = .ok (.putfield 38, 3) := by decide +kernel
theorem dX1_init_57 : decode cX1_init 57 = .ok (.aload_n 0, 1) := by decide +kernel
theorem dX1_init_58 : decode cX1_init 58 = .ok (.iconst 0, 1) := by decide +kernel
theorem dX1_init_59 : decode cX1_init 59 = .ok (.putfield 41, 3) := by decide +kernel
theorem dX1_init_62 : decode cX1_init 62 = .ok (.aload_n 0, 1) := by decide +kernel
theorem dX1_init_63 : decode cX1_init 63 = .ok (.iconst 0, 1) := by decide +kernel
theorem dX1_init_64 : decode cX1_init 64 = .ok (.putfield 44, 3) := by decide +kernel
theorem dX1_init_67 : decode cX1_init 67 = .ok (.aload_n 0, 1) := by decide +kernel
theorem dX1_init_68 : decode cX1_init 68 = .ok (.iconst 0, 1) := by decide +kernel
theorem dX1_init_69 : decode cX1_init 69 = .ok (.putfield 47, 3) := by decide +kernel
theorem dX1_init_72 : decode cX1_init 72 = .ok (.aload_n 0, 1) := by decide +kernel
theorem dX1_init_73 : decode cX1_init 73 = .ok (.iconst 0, 1) := by decide +kernel
theorem dX1_init_74 : decode cX1_init 74 = .ok (.putfield 50, 3) := by decide +kernel
theorem dX1_init_77 : decode cX1_init 77 = .ok (.aload_n 0, 1) := by decide +kernel
theorem dX1_init_78 : decode cX1_init 78 = .ok (.iconst 0, 1) := by decide +kernel
theorem dX1_init_79 : decode cX1_init 79 = .ok (.putfield 53, 3) := by decide +kernel
theorem dX1_init_82 : decode cX1_init 82 = .ok (.aload_n 0, 1) := by decide +kernel
theorem dX1_init_83 : decode cX1_init 83 = .ok (.iconst 0, 1) := by decide +kernel
theorem dX1_init_84 : decode cX1_init 84 = .ok (.putfield 56, 3) := by decide +kernel
theorem dX1_init_87 : decode cX1_init 87 = .ok (.aload_n 0, 1) := by decide +kernel
theorem dX1_init_88 : decode cX1_init 88 = .ok (.iconst 0, 1) := by decide +kernel
theorem dX1_init_89 : decode cX1_init 89 = .ok (.putfield 59, 3) := by decide +kernel
theorem dX1_init_92 : decode cX1_init 92 = .ok (.getstatic 62, 3) := by decide +kernel
theorem dX1_init_95 : decode cX1_init 95 = .ok (.aload_n 0, 1) := by decide +kernel
theorem dX1_init_96 : decode cX1_init 96 = .ok (.getfield 9, 3) := by decide +kernel
theorem dX1_init_99 : decode cX1_init 99 = .ok (.invokestatic 65, 3) := by decide +kernel
theorem dX1_init_102 : decode cX1_init 102 = .ok (.return_, 1) := by decide +kernel
theorem dX1_takeOver_0 : decode cX1_takeOver 0 = .ok (.aload_n 1, 1) := by decide +kernel
theorem dX1_takeOver_1 : decode cX1_takeOver 1 = .ok (.getfield 9, 3) := by decide +kernel
theorem dX1_takeOver_4 : decode cX1_takeOver 4 = .ok (.aload_n 0, 1) := by decide +kernel
theorem dX1_takeOver_5 : decode cX1_takeOver 5 = .ok (.getfield 9, 3) := by decide +kernel
theorem dX1_takeOver_8 : decode cX1_takeOver 8 = .ok (.invokestatic 65, 3) := by decide +kernel
theorem dX1_takeOver_11 : decode cX1_takeOver 11 = .ok (.aload_n 1, 1) := by decide +kernel
theorem dX1_takeOver_12 : decode cX1_takeOver 12 = .ok (.getfield 15, 3) := by decide +kernel
theorem dX1_takeOver_15 : decode cX1_takeOver 15 = .ok (.aload_n 0, 1) := by decide +kernel
theorem dX1_takeOver_16 : decode cX1_takeOver 16 = .ok (.getfield 15, 3) := by decide +kernel
theorem dX1_takeOver_19 : decode cX1_takeOver 19 = .ok (.invokestatic 65, 3) := by decide +kernel
theorem dX1_takeOver_22 : decode cX1_takeOver 22 = .ok (.aload_n 0, 1) := by decide +kernel
theorem dX1_takeOver_23 : decode cX1_takeOver 23 = .ok (.getfield 21, 3) := by decide +kernel
theorem dX1_takeOver_26 : decode cX1_takeOver 26 = .ok (.aload_n 1, 1) := by decide +kernel
theorem dX1_takeOver_27 : decode cX1_takeOver 27 = .ok (.getfield 21, 3) := by decide +kernel
theorem dX1_takeOver_30 : decode cX1_takeOver 30 = .ok (.invokevirtual 69, 3) := by decide +kernel
theorem dX1_takeOver_33 : decode cX1_takeOver 33 = .ok (.aload_n 0, 1) := by decide +kernel
theorem dX1_takeOver_34 : decode cX1_takeOver 34 = .ok (.aload_n 1, 1) := by decide +kernel
theorem dX1_takeOver_35 : decode cX1_takeOver 35 = .ok (.getfield 25, 3) := by decide +kernel
theorem dX1_takeOver_38 : decode cX1_takeOver 38 = .ok (.putfield 25, 3) := by decide +kernel
theorem dX1_takeOver_41 : decode cX1_takeOver 41 = .ok (.aload_n 0, 1) := by decide +kernel
theorem dX1_takeOver_42 : decode cX1_takeOver 42 = .ok (.aload_n 1, 1) := by decide +kernel
theorem dX1_takeOver_43 : decode cX1_takeOver 43 = .ok (.getfield 29, 3) := by decide +kernel
theorem dX1_takeOver_46 : decode cX1_takeOver 46 = .ok (.putfield 29, 3) := by decide +kernel
theorem dX1_takeOver_49 : decode cX1_takeOver 49 = .ok (.aload_n 0, 1) := by decide +kernel
theorem dX1_takeOver_50 : decode cX1_takeOver 50 = .ok (.aload_n 1, 1) := by decide +kernel
theorem dX1_takeOver_51 : decode cX1_takeOver 51 = .ok (.getfield 32, 3) := by decide +kernel
theorem dX1_takeOver_54 : decode cX1_takeOver 54 = .ok (.putfield 32, 3) := by decide +kernel
theorem dX1_takeOver_57 : decode cX1_takeOver 57 = .ok (.aload_n 0, 1) := by decide +kernel
theorem dX1_takeOver_58 : decode cX1_takeOver 58 = .ok (.aload_n 1, 1) := by decide +kernel
theorem dX1_takeOver_59 : decode cX1_takeOver 59 = .ok (.getfield 35, 3) := by decide +kernel
theorem dX1_takeOver_62 : decode cX1_takeOver 62 = .ok (.putfield 35, 3) := by decide +kernel
theorem dX1_takeOver_65 : decode cX1_takeOver 65 = .ok (.aload_n 0, 1) := by decide +kernel
theorem dX1_takeOver_66 : decode cX1_takeOver 66 = .ok (.aload_n 1, 1) := by decide +kernel
theorem dX1_takeOver_67 : decode cX1_takeOver 67 = .ok (.getfield 38, 3) := by decide +kernel
theorem dX1_takeOver_70 : decode cX1_takeOver 70 = .ok (.putfield 38, 3) := by decide +kernel
theorem dX1_takeOver_73 : decode cX1_takeOver 73 = .ok (.aload_n 0, 1) := by decide +kernel
theorem dX1_takeOver_74 : decode cX1_takeOver 74 = .ok (.aload_n 1, 1) := by decide +kernel
theorem dX1_takeOver_75 : decode cX1_takeOver 75 = .ok (.getfield 41, 3) := by decide +kernel
theorem dX1_takeOver_78 : decode cX1_takeOver 78 = .ok (.putfield 41, 3) := by decide +kernel
theorem dX1_takeOver_81 : decode cX1_takeOver 81 = .ok (.aload_n 0, 1) := by decide +kernel
theorem dX1_takeOver_82 : decode cX1_takeOver 82 = .ok (.aload_n 1, 1) := by decide +kernel
theorem dX1_takeOver_83 : decode cX1_takeOver 83 = .ok (.getfield 44, 3) := by decide +kernel
theorem dX1_takeOver_86 : decode cX1_takeOver 86 = .ok (.putfield 44, 3) := by decide +kernel
theorem dX1_takeOver_89 : decode cX1_takeOver 89 = .ok (.aload_n 0, 1) := by decide +kernel
theorem dX1_takeOver_90 : decode cX1_takeOver 90 = .ok (.aload_n 1, 1) := by decide +kernel
theorem dX1_takeOver_91 : decode cX1_takeOver 91 = .ok (.getfield 47, 3) := by decide +kernel
theorem dX1_takeOver_94 : decode cX1_takeOver 94 = .ok (.putfield 47, 3) := by decide +kernel
theorem dX1_takeOver_97 : decode cX1_takeOver 97 = .ok (.aload_n 0, 1) := by decide +kernel
theorem dX1_takeOver_98 : decode cX1_takeOver 98 = .ok (.aload_n 1, 1) := by decide +kernel
theorem dX1_takeOver_99 : decode cX1_takeOver 99 = .ok (.getfield 50, 3) := by decide +kernel
theorem dX1_takeOver_102 : decode cX1_takeOver 102 = .ok (.putfield 50, 3) := by decide +kernel
theorem dX1_takeOver_105 : decode cX1_takeOver 105 = .ok (.aload_n 0, 1) := by decide +kernel
theorem dX1_takeOver_106 : decode cX1_takeOver 106 = .ok (.aload_n 1, 1) := by decide +kernel
theorem dX1_takeOver_107 : decode cX1_takeOver 107 = .ok (.getfield 53, 3) := by decide +kernel
theorem dX1_takeOver_110 : decode cX1_takeOver 110 = .ok (.putfield 53, 3) := by decide +kernel
theorem dX1_takeOver_113 : decode cX1_takeOver 113 = .ok (.aload_n 0, 1) := by decide +kernel
theorem dX1_takeOver_114 : decode cX1_takeOver 114 = .ok (.aload_n 1, 1) := by decide +kernel
theorem dX1_takeOver_115 : decode cX1_takeOver 115 = .ok (.getfield 56, 3) := by decide +kernel
theorem dX1_takeOver_118 : decode cX1_takeOver 118 = .ok (.putfield 56, 3) := by decide +kernel
theorem dX1_takeOver_121 : decode cX1_takeOver 121 = .ok (.aload_n 0, 1) := by decide +kernel
theorem dX1_takeOver_122 : decode cX1_takeOver 122 = .ok (.aload_n 1, 1) := by decide +kernel
theorem dX1_takeOver_123 : decode cX1_takeOver 123 = .ok (.getfield 59, 3) := by decide +kernel
theorem dX1_takeOver_126 : decode cX1_takeOver 126 = .ok (.putfield 59, 3) := by decide +kernel
theorem dX1_takeOver_129 : decode cX1_takeOver 129 = .ok (.return_, 1) := by decide +kernel
theorem dX1_settingOf_0 : decode cX1_settingOf 0 = .ok (.iload_n 1, 1) := by decide +kernel
theorem dX1_settingOf_1 : decode cX1_settingOf 1 = .ok (.ifCond .lt 21, 3) := by decide +kernel
theorem dX1_settingOf_4 : decode cX1_settingOf 4 = .ok (.iload_n 1, 1) := by decide +kernel
theorem dX1_settingOf_5 : decode cX1_settingOf 5 = .ok (.aload_n 0, 1) := by decide +kernel
theorem dX1_settingOf_6 : decode cX1_settingOf 6 = .ok (.getfield 9, 3) := by decide +kernel
theorem dX1_settingOf_9 : decode cX1_settingOf 9 = .ok (.arraylength, 1) := by decide +kernel
theorem dX1_settingOf_10 : decode cX1_settingOf 10 = .ok (.if_icmp .ge 12, 3) := by decide +kernel
theorem dX1_settingOf_13 : decode cX1_settingOf 13 = .ok (.aload_n 0, 1) := by decide +kernel
theorem dX1_settingOf_14 : decode cX1_settingOf 14 = .ok (.getfield 9, 3) := by decide +kernel
theorem dX1_settingOf_17 : decode cX1_settingOf 17 = .ok (.iload_n 1, 1) := by decide +kernel
theorem dX1_settingOf_18 : decode cX1_settingOf 18 = .ok (.iaload, 1) := by decide +kernel
theorem dX1_settingOf_19 : decode cX1_settingOf 19 = .ok (.goto 4, 3) := by decide +kernel
theorem dX1_settingOf_22 : decode cX1_settingOf 22 = .ok (.iconst 0, 1) := by decide +kernel
theorem dX1_settingOf_23 : decode cX1_settingOf 23 = .ok (.ireturn, 1) := by decide +kernel
theorem dX1_errorOfSetting_0 : decode cX1_errorOfSetting 0 = .ok (.iload_n 1, 1) := by decide +kernel
theorem dX1_errorOfSetting_1 : decode cX1_errorOfSetting 1 = .ok (.ifCond .lt 9, 3) := by decide +kernel
theorem dX1_errorOfSetting_4 : decode cX1_errorOfSetting 4 = .ok (.iload_n 1, 1) := by decide +kernel
theorem dX1_errorOfSetting_5 : decode cX1_errorOfSetting 5 = .ok (.bipush 10, 2) := by decide +kernel
theorem dX1_errorOfSetting_7 : decode cX1_errorOfSetting 7 = .ok (.if_icmp .lt 6, 3) := by decide +kernel
theorem dX1_errorOfSetting_10 : decode cX1_errorOfSetting 10 = .ok (.bipush (-2), 2) := by decide +kernel
theorem dX1_errorOfSetting_12 : decode cX1_errorOfSetting 12 = .ok (.ireturn, 1) := by decide +kernel
theorem dX1_errorOfSetting_13 : decode cX1_errorOfSetting 13 = .ok (.iload_n 2, 1) := by decide +kernel
theorem dX1_errorOfSetting_14 : decode cX1_errorOfSetting 14 = .ok (.getstatic 73, 3) := by decide +kernel
theorem dX1_errorOfSetting_17 : decode cX1_errorOfSetting 17 = .ok (.iload_n 1, 1) := by decide +kernel
theorem dX1_errorOfSetting_18 : decode cX1_errorOfSetting 18 = .ok (.invokestatic 76, 3) := by decide +kernel
theorem dX1_errorOfSetting_21 : decode cX1_errorOfSetting 21 = .ok (.if_icmp .lt 14, 3) := by decide +kernel
theorem dX1_errorOfSetting_24 : decode cX1_errorOfSetting 24 = .ok (.iload_n 2, 1) := by decide +kernel
theorem dX1_errorOfSetting_25 : decode cX1_errorOfSetting 25 = .ok (.getstatic 80, 3) := by decide +kernel
theorem dX1_errorOfSetting_28 : decode cX1_errorOfSetting 28 = .ok (.iload_n 1, 1) := by decide +kernel
theorem dX1_errorOfSetting_29 : decode cX1_errorOfSetting 29 = .ok (.invokestatic 76, 3) := by decide +kernel
theorem dX1_errorOfSetting_32 : decode cX1_errorOfSetting 32 = .ok (.if_icmp .le 6, 3) := by decide +kernel
theorem dX1_errorOfSetting_35 : decode cX1_errorOfSetting 35 = .ok (.bipush (-2), 2) := by decide +kernel
theorem dX1_errorOfSetting_37 : decode cX1_errorOfSetting 37 = .ok (.ireturn, 1) := by decide +kernel
theorem dX1_errorOfSetting_38 : decode cX1_errorOfSetting 38 = .ok (.aload_n 0, 1) := by decide +kernel
theorem dX1_errorOfSetting_39 : decode cX1_errorOfSetting 39 = .ok (.iload_n 1, 1) := by decide +kernel
theorem dX1_errorOfSetting_40 : decode cX1_errorOfSetting 40 = .ok (.iload_n 2, 1) := by decide +kernel
theorem dX1_errorOfSetting_41 : decode cX1_errorOfSetting 41 = .ok (.invokevirtual 83, 3) := by decide +kernel
theorem dX1_errorOfSetting_44 : decode cX1_errorOfSetting 44 = .ok (.ifCond .eq 7, 3) := by decide +kernel
theorem dX1_errorOfSetting_47 : decode cX1_errorOfSetting 47 = .ok (.iconst 0, 1) := by decide +kernel
theorem dX1_errorOfSetting_48 : decode cX1_errorOfSetting 48 = .ok (.goto 5, 3) := by decide +kernel
theorem dX1_errorOfSetting_51 : decode cX1_errorOfSetting 51 = .ok (.bipush (-5), 2) := by decide +kernel
theorem dX1_errorOfSetting_53 : decode cX1_errorOfSetting 53 = .ok (.ireturn, 1) := by decide +kernel
theorem dX1_fits_0 : decode cX1_fits 0 = .ok (.iload_n 1, 1) := by decide +kernel
theorem dX1_fits_1 : decode cX1_fits 1 = .ok (.tableswitch 106 3 6 #[31, 46, 61, 84], 31) := by decide +kernel
theorem dX1_fits_32 : decode cX1_fits 32 = .ok (.iload_n 2, 1) := by decide +kernel
theorem dX1_fits_33 : decode cX1_fits 33 = .ok (.aload_n 0, 1) := by decide +kernel
theorem dX1_fits_34 : decode cX1_fits 34 = .ok (.iconst 4, 1) := by decide +kernel
theorem dX1_fits_35 : decode cX1_fits 35 = .ok (.invokevirtual 87, 3) := by decide +kernel
theorem dX1_fits_38 : decode cX1_fits 38 = .ok (.if_icmp .ge 7, 3) := by decide +kernel
theorem dX1_fits_41 : decode cX1_fits 41 = .ok (.iconst 1, 1) := by decide +kernel
theorem dX1_fits_42 : decode cX1_fits 42 = .ok (.goto 4, 3) := by decide +kernel
theorem dX1_fits_45 : decode cX1_fits 45 = .ok (.iconst 0, 1) := by decide +kernel
theorem dX1_fits_46 : decode cX1_fits 46 = .ok (.ireturn, 1) := by decide +kernel
theorem dX1_fits_47 : decode cX1_fits 47 = .ok (.iload_n 2, 1) := by decide +kernel
theorem dX1_fits_48 : decode cX1_fits 48 = .ok (.aload_n 0, 1) := by decide +kernel
theorem dX1_fits_49 : decode cX1_fits 49 = .ok (.iconst 3, 1) := by decide +kernel
theorem dX1_fits_50 : decode cX1_fits 50 = .ok (.invokevirtual 87, 3) := by decide +kernel
theorem dX1_fits_53 : decode cX1_fits 53 = .ok (.if_icmp .le 7, 3) := by decide +kernel
theorem dX1_fits_56 : decode cX1_fits 56 = .ok (.iconst 1, 1) := by decide +kernel
theorem dX1_fits_57 : decode cX1_fits 57 = .ok (.goto 4, 3) := by decide +kernel
theorem dX1_fits_60 : decode cX1_fits 60 = .ok (.iconst 0, 1) := by decide +kernel
theorem dX1_fits_61 : decode cX1_fits 61 = .ok (.ireturn, 1) := by decide +kernel
theorem dX1_fits_62 : decode cX1_fits 62 = .ok (.aload_n 0, 1) := by decide +kernel
theorem dX1_fits_63 : decode cX1_fits 63 = .ok (.getfield 59, 3) := by decide +kernel
theorem dX1_fits_66 : decode cX1_fits 66 = .ok (.ifCond .ne 17, 3) := by decide +kernel
theorem dX1_fits_69 : decode cX1_fits 69 = .ok (.iload_n 2, 1) := by decide +kernel
theorem dX1_fits_70 : decode cX1_fits 70 = .ok (.aload_n 0, 1) := by decide +kernel
theorem dX1_fits_71 : decode cX1_fits 71 = .ok (.bipush 6, 2) := by decide +kernel
theorem dX1_fits_73 : decode cX1_fits 73 = .ok (.invokevirtual 87, 3) := by decide +kernel
theorem dX1_fits_76 : decode cX1_fits 76 = .ok (.if_icmp .le 7, 3) := by decide +kernel
theorem dX1_fits_79 : decode cX1_fits 79 = .ok (.iconst 1, 1) := by decide +kernel
theorem dX1_fits_80 : decode cX1_fits 80 = .ok (.goto 4, 3) := by decide +kernel
theorem dX1_fits_83 : decode cX1_fits 83 = .ok (.iconst 0, 1) := by decide +kernel
theorem dX1_fits_84 : decode cX1_fits 84 = .ok (.ireturn, 1) := by decide +kernel
theorem dX1_fits_85 : decode cX1_fits 85 = .ok (.aload_n 0, 1) := by decide +kernel
theorem dX1_fits_86 : decode cX1_fits 86 = .ok (.getfield 59, 3) := by decide +kernel
theorem dX1_fits_89 : decode cX1_fits 89 = .ok (.ifCond .ne 16, 3) := by decide +kernel
theorem dX1_fits_92 : decode cX1_fits 92 = .ok (.iload_n 2, 1) := by decide +kernel
theorem dX1_fits_93 : decode cX1_fits 93 = .ok (.aload_n 0, 1) := by decide +kernel
theorem dX1_fits_94 : decode cX1_fits 94 = .ok (.iconst 5, 1) := by decide +kernel
theorem dX1_fits_95 : decode cX1_fits 95 = .ok (.invokevirtual 87, 3) := by decide +kernel
theorem dX1_fits_98 : decode cX1_fits 98 = .ok (.if_icmp .ge 7, 3) := by decide +kernel
theorem dX1_fits_101 : decode cX1_fits 101 = .ok (.iconst 1, 1) := by decide +kernel
theorem dX1_fits_102 : decode cX1_fits 102 = .ok (.goto 4, 3) := by decide +kernel
theorem dX1_fits_105 : decode cX1_fits 105 = .ok (.iconst 0, 1) := by decide +kernel
theorem dX1_fits_106 : decode cX1_fits 106 = .ok (.ireturn, 1) := by decide +kernel
theorem dX1_fits_107 : decode cX1_fits 107 = .ok (.iconst 1, 1) := by decide +kernel
theorem dX1_fits_108 : decode cX1_fits 108 = .ok (.ireturn, 1) := by decide +kernel
theorem dX1_changeSetting_0 : decode cX1_changeSetting 0 = .ok (.aload_n 0, 1) := by decide +kernel
theorem dX1_changeSetting_1 : decode cX1_changeSetting 1 = .ok (.iload_n 1, 1) := by decide +kernel
theorem dX1_changeSetting_2 : decode cX1_changeSetting 2 = .ok (.invokevirtual 87, 3) := by decide +kernel
theorem dX1_changeSetting_5 : decode cX1_changeSetting 5 = .ok (.istore_n 3, 1) := by decide +kernel
theorem dX1_changeSetting_6 : decode cX1_changeSetting 6 = .ok (.aload_n 0, 1) := by decide +kernel
theorem dX1_changeSetting_7 : decode cX1_changeSetting 7 = .ok (.getfield 9, 3) := by decide +kernel
theorem dX1_changeSetting_10 : decode cX1_changeSetting 10 = .ok (.iload_n 1, 1) := by decide +kernel
theorem dX1_changeSetting_11 : decode cX1_changeSetting 11 = .ok (.iload_n 2, 1) := by decide +kernel
theorem dX1_changeSetting_12 : decode cX1_changeSetting 12 = .ok (.invokestatic 91, 3) := by decide +kernel
theorem dX1_changeSetting_15 : decode cX1_changeSetting 15 = .ok (.iload_n 1, 1) := by decide +kernel
theorem dX1_changeSetting_16 : decode cX1_changeSetting 16 = .ok (.iconst 4, 1) := by decide +kernel
theorem dX1_changeSetting_17 : decode cX1_changeSetting 17 = .ok (.if_icmp .gt 8, 3) := by decide +kernel
theorem dX1_changeSetting_20 : decode cX1_changeSetting 20 = .ok (.aload_n 0, 1) := by decide +kernel
theorem dX1_changeSetting_21 : decode cX1_changeSetting 21 = .ok (.iconst 0, 1) := by decide +kernel
theorem dX1_changeSetting_22 : decode cX1_changeSetting 22 = .ok (.putfield 29, 3) := by decide +kernel
theorem dX1_changeSetting_25 : decode cX1_changeSetting 25 = .ok (.iload_n 1, 1) := by decide +kernel
theorem dX1_changeSetting_26 : decode cX1_changeSetting 26 = .ok (.bipush 8, 2) := by decide +kernel
theorem dX1_changeSetting_28 : decode cX1_changeSetting 28 = .ok (.if_icmp .ne 11, 3) := by decide +kernel
theorem dX1_changeSetting_31 : decode cX1_changeSetting 31 = .ok (.aload_n 0, 1) := by decide +kernel
theorem dX1_changeSetting_32 : decode cX1_changeSetting 32 = .ok (.getfield 21, 3) := by decide +kernel
theorem dX1_changeSetting_35 : decode cX1_changeSetting 35 = .ok (.iload_n 2, 1) := by decide +kernel
theorem dX1_changeSetting_36 : decode cX1_changeSetting 36 = .ok (.invokevirtual 95, 3) := by decide +kernel
theorem dX1_changeSetting_39 : decode cX1_changeSetting 39 = .ok (.iload_n 3, 1) := by decide +kernel
theorem dX1_changeSetting_40 : decode cX1_changeSetting 40 = .ok (.ireturn, 1) := by decide +kernel
theorem dX1_errorOfSamples_0 : decode cX1_errorOfSamples 0 = .ok (.iload_n 1, 1) := by decide +kernel
theorem dX1_errorOfSamples_1 : decode cX1_errorOfSamples 1 = .ok (.bipush (-100), 2) := by decide +kernel
theorem dX1_errorOfSamples_3 : decode cX1_errorOfSamples 3 = .ok (.if_icmp .lt 20, 3) := by decide +kernel
theorem dX1_errorOfSamples_6 : decode cX1_errorOfSamples 6 = .ok (.iload_n 1, 1) := by decide +kernel
theorem dX1_errorOfSamples_7 : decode cX1_errorOfSamples 7 = .ok (.bipush 100, 2) := by decide +kernel
theorem dX1_errorOfSamples_9 : decode cX1_errorOfSamples 9 = .ok (.if_icmp .gt 14, 3) := by decide +kernel
theorem dX1_errorOfSamples_12 : decode cX1_errorOfSamples 12 = .ok (.iload_n 2, 1) := by decide +kernel
theorem dX1_errorOfSamples_13 : decode cX1_errorOfSamples 13 = .ok (.iconst 1, 1) := by decide +kernel
theorem dX1_errorOfSamples_14 : decode cX1_errorOfSamples 14 = .ok (.if_icmp .lt 9, 3) := by decide +kernel
theorem dX1_errorOfSamples_17 : decode cX1_errorOfSamples 17 = .ok (.iload_n 2, 1) := by decide +kernel
theorem dX1_errorOfSamples_18 : decode cX1_errorOfSamples 18 = .ok (.bipush 100, 2) := by decide +kernel
theorem dX1_errorOfSamples_20 : decode cX1_errorOfSamples 20 = .ok (.if_icmp .le 6, 3) := by decide +kernel
theorem dX1_errorOfSamples_23 : decode cX1_errorOfSamples 23 = .ok (.bipush (-2), 2) := by decide +kernel
theorem dX1_errorOfSamples_25 : decode cX1_errorOfSamples 25 = .ok (.ireturn, 1) := by decide +kernel
theorem dX1_errorOfSamples_26 : decode cX1_errorOfSamples 26 = .ok (.aload_n 0, 1) := by decide +kernel
theorem dX1_errorOfSamples_27 : decode cX1_errorOfSamples 27 = .ok (.getfield 25, 3) := by decide +kernel
theorem dX1_errorOfSamples_30 : decode cX1_errorOfSamples 30 = .ok (.iload_n 2, 1) := by decide +kernel
theorem dX1_errorOfSamples_31 : decode cX1_errorOfSamples 31 = .ok (.iadd, 1) := by decide +kernel
theorem dX1_errorOfSamples_32 : decode cX1_errorOfSamples 32 = .ok (.sipush 400, 3) := by decide +kernel
theorem dX1_errorOfSamples_35 : decode cX1_errorOfSamples 35 = .ok (.if_icmp .le 8, 3) := by decide +kernel
theorem dX1_errorOfSamples_38 : decode cX1_errorOfSamples 38 = .ok (.bipush (-4), 2) := by decide +kernel
theorem dX1_errorOfSamples_40 : decode cX1_errorOfSamples 40 = .ok (.goto 4, 3) := by decide +kernel
theorem dX1_errorOfSamples_43 : decode cX1_errorOfSamples 43 = .ok (.iconst 0, 1) := by decide +kernel
theorem dX1_errorOfSamples_44 : decode cX1_errorOfSamples 44 = .ok (.ireturn, 1) := by decide +kernel
theorem dX1_takeSamples_0 : decode cX1_takeSamples 0 = .ok (.iconst 0, 1) := by decide +kernel
theorem dX1_takeSamples_1 : decode cX1_takeSamples 1 = .ok (.istore_n 3, 1) := by decide +kernel
theorem dX1_takeSamples_2 : decode cX1_takeSamples 2 = .ok (.iconst 0, 1) := by decide +kernel
theorem dX1_takeSamples_3 : decode cX1_takeSamples 3 = .ok (.istore 4, 2) := by decide +kernel
theorem dX1_takeSamples_5 : decode cX1_takeSamples 5 = .ok (.iload 4, 2) := by decide +kernel
theorem dX1_takeSamples_7 : decode cX1_takeSamples 7 = .ok (.iload_n 2, 1) := by decide +kernel
theorem dX1_takeSamples_8 : decode cX1_takeSamples 8 = .ok (.if_icmp .ge 24, 3) := by decide +kernel
theorem dX1_takeSamples_11 : decode cX1_takeSamples 11 = .ok (.aload_n 0, 1) := by decide +kernel
theorem dX1_takeSamples_12 : decode cX1_takeSamples 12 = .ok (.iload_n 1, 1) := by decide +kernel
theorem dX1_takeSamples_13 : decode cX1_takeSamples 13 = .ok (.invokevirtual 99, 3) := by decide +kernel
theorem dX1_takeSamples_16 : decode cX1_takeSamples 16 = .ok (.ifCond .eq 10, 3) := by decide +kernel
theorem dX1_takeSamples_19 : decode cX1_takeSamples 19 = .ok (.aload_n 0, 1) := by decide +kernel
theorem dX1_takeSamples_20 : decode cX1_takeSamples 20 = .ok (.invokevirtual 103, 3) := by decide +kernel
theorem dX1_takeSamples_23 : decode cX1_takeSamples 23 = .ok (.iinc 3 1, 3) := by decide +kernel
theorem dX1_takeSamples_26 : decode cX1_takeSamples 26 = .ok (.iinc 4 1, 3) := by decide +kernel
theorem dX1_takeSamples_29 : decode cX1_takeSamples 29 = .ok (.goto (-24), 3) := by decide +kernel
theorem dX1_takeSamples_32 : decode cX1_takeSamples 32 = .ok (.iload_n 3, 1) := by decide +kernel
theorem dX1_takeSamples_33 : decode cX1_takeSamples 33 = .ok (.ireturn, 1) := by decide +kernel
theorem dX1_takeSample_0 : decode cX1_takeSample 0 = .ok (.aload_n 0, 1) := by decide +kernel
theorem dX1_takeSample_1 : decode cX1_takeSample 1 = .ok (.iload_n 1, 1) := by decide +kernel
theorem dX1_takeSample_2 : decode cX1_takeSample 2 = .ok (.invokevirtual 106, 3) := by decide +kernel
theorem dX1_takeSample_5 : decode cX1_takeSample 5 = .ok (.istore_n 2, 1) := by decide +kernel
theorem dX1_takeSample_6 : decode cX1_takeSample 6 = .ok (.aload_n 0, 1) := by decide +kernel
theorem dX1_takeSample_7 : decode cX1_takeSample 7 = .ok (.getfield 59, 3) := by decide +kernel
theorem dX1_takeSample_10 : decode cX1_takeSample 10 = .ok (.ifCond .le 7, 3) := by decide +kernel
theorem dX1_takeSample_13 : decode cX1_takeSample 13 = .ok (.iconst 1, 1) := by decide +kernel
theorem dX1_takeSample_14 : decode cX1_takeSample 14 = .ok (.goto 4, 3) := by decide +kernel
theorem dX1_takeSample_17 : decode cX1_takeSample 17 = .ok (.iconst 0, 1) := by decide +kernel
theorem dX1_takeSample_18 : decode cX1_takeSample 18 = .ok (.istore_n 3, 1) := by decide +kernel
theorem dX1_takeSample_19 : decode cX1_takeSample 19 = .ok (.iload_n 2, 1) := by decide +kernel
theorem dX1_takeSample_20 : decode cX1_takeSample 20 = .ok (.ifCond .eq 15, 3) := by decide +kernel
theorem dX1_takeSample_23 : decode cX1_takeSample 23 = .ok (.aload_n 0, 1) := by decide +kernel
theorem dX1_takeSample_24 : decode cX1_takeSample 24 = .ok (.invokevirtual 109, 3) := by decide +kernel
theorem dX1_takeSample_27 : decode cX1_takeSample 27 = .ok (.iconst 1, 1) := by decide +kernel
theorem dX1_takeSample_28 : decode cX1_takeSample 28 = .ok (.if_icmp .ne 7, 3) := by decide +kernel
theorem dX1_takeSample_31 : decode cX1_takeSample 31 = .ok (.iconst 1, 1) := by decide +kernel
theorem dX1_takeSample_32 : decode cX1_takeSample 32 = .ok (.goto 4, 3) := by decide +kernel
theorem dX1_takeSample_35 : decode cX1_takeSample 35 = .ok (.iconst 0, 1) := by decide +kernel
theorem dX1_takeSample_36 : decode cX1_takeSample 36 = .ok (.istore 4, 2) := by decide +kernel
theorem dX1_takeSample_38 : decode cX1_takeSample 38 = .ok (.iload_n 3, 1) := by decide +kernel
theorem dX1_takeSample_39 : decode cX1_takeSample 39 = .ok (.ifCond .eq 16, 3) := by decide +kernel
theorem dX1_takeSample_42 : decode cX1_takeSample 42 = .ok (.aload_n 0, 1) := by decide +kernel
theorem dX1_takeSample_43 : decode cX1_takeSample 43 = .ok (.dup, 1) := by decide +kernel
theorem dX1_takeSample_44 : decode cX1_takeSample 44 = .ok (.getfield 59, 3) := by decide +kernel
theorem dX1_takeSample_47 : decode cX1_takeSample 47 = .ok (.iconst 1, 1) := by decide +kernel
theorem dX1_takeSample_48 : decode cX1_takeSample 48 = .ok (.isub, 1) := by decide +kernel
theorem dX1_takeSample_49 : decode cX1_takeSample 49 = .ok (.putfield 59, 3) := by decide +kernel
theorem dX1_takeSample_52 : decode cX1_takeSample 52 = .ok (.goto 12, 3) := by decide +kernel
theorem dX1_takeSample_55 : decode cX1_takeSample 55 = .ok (.iload 4, 2) := by decide +kernel
theorem dX1_takeSample_57 : decode cX1_takeSample 57 = .ok (.ifCond .eq 7, 3) := by decide +kernel
theorem dX1_takeSample_60 : decode cX1_takeSample 60 = .ok (.aload_n 0, 1) := by decide +kernel
theorem dX1_takeSample_61 : decode cX1_takeSample 61 = .ok (.invokevirtual 113, 3) := by decide +kernel
theorem dX1_takeSample_64 : decode cX1_takeSample 64 = .ok (.iload_n 2, 1) := by decide +kernel
theorem dX1_takeSample_65 : decode cX1_takeSample 65 = .ok (.ifCond .eq 18, 3) := by decide +kernel
theorem dX1_takeSample_68 : decode cX1_takeSample 68 = .ok (.iload 4, 2) := by decide +kernel
theorem dX1_takeSample_70 : decode cX1_takeSample 70 = .ok (.ifCond .ne 13, 3) := by decide +kernel
theorem dX1_takeSample_73 : decode cX1_takeSample 73 = .ok (.aload_n 0, 1) := by decide +kernel
theorem dX1_takeSample_74 : decode cX1_takeSample 74 = .ok (.dup, 1) := by decide +kernel
theorem dX1_takeSample_75 : decode cX1_takeSample 75 = .ok (.getfield 38, 3) := by decide +kernel
theorem dX1_takeSample_78 : decode cX1_takeSample 78 = .ok (.iconst 1, 1) := by decide +kernel
theorem dX1_takeSample_79 : decode cX1_takeSample 79 = .ok (.iadd, 1) := by decide +kernel
theorem dX1_takeSample_80 : decode cX1_takeSample 80 = .ok (.putfield 38, 3) := by decide +kernel
theorem dX1_takeSample_83 : decode cX1_takeSample 83 = .ok (.aload_n 0, 1) := by decide +kernel
theorem dX1_takeSample_84 : decode cX1_takeSample 84 = .ok (.getfield 15, 3) := by decide +kernel
theorem dX1_takeSample_87 : decode cX1_takeSample 87 = .ok (.aload_n 0, 1) := by decide +kernel
theorem dX1_takeSample_88 : decode cX1_takeSample 88 = .ok (.getfield 25, 3) := by decide +kernel
theorem dX1_takeSample_91 : decode cX1_takeSample 91 = .ok (.iload_n 1, 1) := by decide +kernel
theorem dX1_takeSample_92 : decode cX1_takeSample 92 = .ok (.invokestatic 91, 3) := by decide +kernel
theorem dX1_takeSample_95 : decode cX1_takeSample 95 = .ok (.aload_n 0, 1) := by decide +kernel
theorem dX1_takeSample_96 : decode cX1_takeSample 96 = .ok (.dup, 1) := by decide +kernel
theorem dX1_takeSample_97 : decode cX1_takeSample 97 = .ok (.getfield 25, 3) := by decide +kernel
theorem dX1_takeSample_100 : decode cX1_takeSample 100 = .ok (.iconst 1, 1) := by decide +kernel
theorem dX1_takeSample_101 : decode cX1_takeSample 101 = .ok (.iadd, 1) := by decide +kernel
theorem dX1_takeSample_102 : decode cX1_takeSample 102 = .ok (.putfield 25, 3) := by decide +kernel
theorem dX1_takeSample_105 : decode cX1_takeSample 105 = .ok (.aload_n 0, 1) := by decide +kernel
theorem dX1_takeSample_106 : decode cX1_takeSample 106 = .ok (.dup, 1) := by decide +kernel
theorem dX1_takeSample_107 : decode cX1_takeSample 107 = .ok (.getfield 44, 3) := by decide +kernel
theorem dX1_takeSample_110 : decode cX1_takeSample 110 = .ok (.iconst 1, 1) := by decide +kernel
theorem dX1_takeSample_111 : decode cX1_takeSample 111 = .ok (.iadd, 1) := by decide +kernel
theorem dX1_takeSample_112 : decode cX1_takeSample 112 = .ok (.putfield 44, 3) := by decide +kernel
theorem dX1_takeSample_115 : decode cX1_takeSample 115 = .ok (.iload_n 3, 1) := by decide +kernel
theorem dX1_takeSample_116 : decode cX1_takeSample 116 = .ok (.ifCond .ne 8, 3) := by decide +kernel
theorem dX1_takeSample_119 : decode cX1_takeSample 119 = .ok (.iload 4, 2) := by decide +kernel
theorem dX1_takeSample_121 : decode cX1_takeSample 121 = .ok (.ifCond .eq 14, 3) := by decide +kernel
theorem dX1_takeSample_124 : decode cX1_takeSample 124 = .ok (.aload_n 0, 1) := by decide +kernel
theorem dX1_takeSample_125 : decode cX1_takeSample 125 = .ok (.getfield 59, 3) := by decide +kernel
theorem dX1_takeSample_128 : decode cX1_takeSample 128 = .ok (.ifCond .ne 7, 3) := by decide +kernel
theorem dX1_takeSample_131 : decode cX1_takeSample 131 = .ok (.iconst 1, 1) := by decide +kernel
theorem dX1_takeSample_132 : decode cX1_takeSample 132 = .ok (.goto 4, 3) := by decide +kernel
theorem dX1_takeSample_135 : decode cX1_takeSample 135 = .ok (.iconst 0, 1) := by decide +kernel
theorem dX1_takeSample_136 : decode cX1_takeSample 136 = .ok (.ireturn, 1) := by decide +kernel
theorem dX1_detect_0 : decode cX1_detect 0 = .ok (.aload_n 0, 1) := by decide +kernel
theorem dX1_detect_1 : decode cX1_detect 1 = .ok (.aload_n 0, 1) := by decide +kernel
theorem dX1_detect_2 : decode cX1_detect 2 = .ok (.iconst 0, 1) := by decide +kernel
theorem dX1_detect_3 : decode cX1_detect 3 = .ok (.invokevirtual 87, 3) := by decide +kernel
theorem dX1_detect_6 : decode cX1_detect 6 = .ok (.iconst 2, 1) := by decide +kernel
theorem dX1_detect_7 : decode cX1_detect 7 = .ok (.if_icmp .ne 7, 3) := by decide +kernel
theorem dX1_detect_10 : decode cX1_detect 10 = .ok (.iconst 3, 1) := by decide +kernel
theorem dX1_detect_11 : decode cX1_detect 11 = .ok (.goto 4, 3) := by decide +kernel
theorem dX1_detect_14 : decode cX1_detect 14 = .ok (.iconst 1, 1) := by decide +kernel
theorem dX1_detect_15 : decode cX1_detect 15 = .ok (.invokevirtual 87, 3) := by decide +kernel
theorem dX1_detect_18 : decode cX1_detect 18 = .ok (.istore_n 2, 1) := by decide +kernel
theorem dX1_detect_19 : decode cX1_detect 19 = .ok (.aload_n 0, 1) := by decide +kernel
theorem dX1_detect_20 : decode cX1_detect 20 = .ok (.iload_n 1, 1) := by decide +kernel
theorem dX1_detect_21 : decode cX1_detect 21 = .ok (.aload_n 0, 1) := by decide +kernel
theorem dX1_detect_22 : decode cX1_detect 22 = .ok (.getfield 29, 3) := by decide +kernel
theorem dX1_detect_25 : decode cX1_detect 25 = .ok (.iload_n 2, 1) := by decide +kernel
theorem dX1_detect_26 : decode cX1_detect 26 = .ok (.invokevirtual 116, 3) := by decide +kernel
theorem dX1_detect_29 : decode cX1_detect 29 = .ok (.istore_n 3, 1) := by decide +kernel
theorem dX1_detect_30 : decode cX1_detect 30 = .ok (.aload_n 0, 1) := by decide +kernel
theorem dX1_detect_31 : decode cX1_detect 31 = .ok (.iload_n 3, 1) := by decide +kernel
theorem dX1_detect_32 : decode cX1_detect 32 = .ok (.bipush (-5), 2) := by decide +kernel
theorem dX1_detect_34 : decode cX1_detect 34 = .ok (.iand, 1) := by decide +kernel
theorem dX1_detect_35 : decode cX1_detect 35 = .ok (.putfield 29, 3) := by decide +kernel
theorem dX1_detect_38 : decode cX1_detect 38 = .ok (.iload_n 3, 1) := by decide +kernel
theorem dX1_detect_39 : decode cX1_detect 39 = .ok (.iconst 4, 1) := by decide +kernel
theorem dX1_detect_40 : decode cX1_detect 40 = .ok (.iand, 1) := by decide +kernel
theorem dX1_detect_41 : decode cX1_detect 41 = .ok (.ifCond .ne 5, 3) := by decide +kernel
theorem dX1_detect_44 : decode cX1_detect 44 = .ok (.iconst 0, 1) := by decide +kernel
theorem dX1_detect_45 : decode cX1_detect 45 = .ok (.ireturn, 1) := by decide +kernel
theorem dX1_detect_46 : decode cX1_detect 46 = .ok (.aload_n 0, 1) := by decide +kernel
theorem dX1_detect_47 : decode cX1_detect 47 = .ok (.dup, 1) := by decide +kernel
theorem dX1_detect_48 : decode cX1_detect 48 = .ok (.getfield 32, 3) := by decide +kernel
theorem dX1_detect_51 : decode cX1_detect 51 = .ok (.iconst 1, 1) := by decide +kernel
theorem dX1_detect_52 : decode cX1_detect 52 = .ok (.iadd, 1) := by decide +kernel
theorem dX1_detect_53 : decode cX1_detect 53 = .ok (.putfield 32, 3) := by decide +kernel
theorem dX1_detect_56 : decode cX1_detect 56 = .ok (.iconst 1, 1) := by decide +kernel
theorem dX1_detect_57 : decode cX1_detect 57 = .ok (.ireturn, 1) := by decide +kernel
theorem dX1_detectorAfter_0 : decode cX1_detectorAfter 0 = .ok (.aload_n 0, 1) := by decide +kernel
theorem dX1_detectorAfter_1 : decode cX1_detectorAfter 1 = .ok (.iconst 0, 1) := by decide +kernel
theorem dX1_detectorAfter_2 : decode cX1_detectorAfter 2 = .ok (.invokevirtual 87, 3) := by decide +kernel
theorem dX1_detectorAfter_5 : decode cX1_detectorAfter 5 = .ok (.lookupswitch 85 #[(0, 27), (1, 56)], 27) := by decide +kernel
theorem dX1_detectorAfter_32 : decode cX1_detectorAfter 32 = .ok (.iload_n 2, 1) := by decide +kernel
theorem dX1_detectorAfter_33 : decode cX1_detectorAfter 33 = .ok (.iconst 1, 1) := by decide +kernel
theorem dX1_detectorAfter_34 : decode cX1_detectorAfter 34 = .ok (.if_icmp .ne 10, 3) := by decide +kernel
theorem dX1_detectorAfter_37 : decode cX1_detectorAfter 37 = .ok (.iload_n 1, 1) := by decide +kernel
theorem dX1_detectorAfter_38 : decode cX1_detectorAfter 38 = .ok (.iload_n 3, 1) := by decide +kernel
theorem dX1_detectorAfter_39 : decode cX1_detectorAfter 39 = .ok (.if_icmp .lt 5, 3) := by decide +kernel
theorem dX1_detectorAfter_42 : decode cX1_detectorAfter 42 = .ok (.iconst 4, 1) := by decide +kernel
theorem dX1_detectorAfter_43 : decode cX1_detectorAfter 43 = .ok (.ireturn, 1) := by decide +kernel
theorem dX1_detectorAfter_44 : decode cX1_detectorAfter 44 = .ok (.iload_n 1, 1) := by decide +kernel
theorem dX1_detectorAfter_45 : decode cX1_detectorAfter 45 = .ok (.iload_n 3, 1) := by decide +kernel
theorem dX1_detectorAfter_46 : decode cX1_detectorAfter 46 = .ok (.aload_n 0, 1) := by decide +kernel
theorem dX1_detectorAfter_47 : decode cX1_detectorAfter 47 = .ok (.iconst 2, 1) := by decide +kernel
theorem dX1_detectorAfter_48 : decode cX1_detectorAfter 48 = .ok (.invokevirtual 87, 3) := by decide +kernel
theorem dX1_detectorAfter_51 : decode cX1_detectorAfter 51 = .ok (.isub, 1) := by decide +kernel
theorem dX1_detectorAfter_52 : decode cX1_detectorAfter 52 = .ok (.if_icmp .ge 7, 3) := by decide +kernel
theorem dX1_detectorAfter_55 : decode cX1_detectorAfter 55 = .ok (.iconst 1, 1) := by decide +kernel
theorem dX1_detectorAfter_56 : decode cX1_detectorAfter 56 = .ok (.goto 4, 3) := by decide +kernel
theorem dX1_detectorAfter_59 : decode cX1_detectorAfter 59 = .ok (.iload_n 2, 1) := by decide +kernel
theorem dX1_detectorAfter_60 : decode cX1_detectorAfter 60 = .ok (.ireturn, 1) := by decide +kernel
theorem dX1_detectorAfter_61 : decode cX1_detectorAfter 61 = .ok (.iload_n 2, 1) := by decide +kernel
theorem dX1_detectorAfter_62 : decode cX1_detectorAfter 62 = .ok (.iconst 1, 1) := by decide +kernel
theorem dX1_detectorAfter_63 : decode cX1_detectorAfter 63 = .ok (.if_icmp .ne 10, 3) := by decide +kernel
theorem dX1_detectorAfter_66 : decode cX1_detectorAfter 66 = .ok (.iload_n 1, 1) := by decide +kernel
theorem dX1_detectorAfter_67 : decode cX1_detectorAfter 67 = .ok (.iload_n 3, 1) := by decide +kernel
theorem dX1_detectorAfter_68 : decode cX1_detectorAfter 68 = .ok (.if_icmp .gt 5, 3) := by decide +kernel
theorem dX1_detectorAfter_71 : decode cX1_detectorAfter 71 = .ok (.iconst 4, 1) := by decide +kernel
theorem dX1_detectorAfter_72 : decode cX1_detectorAfter 72 = .ok (.ireturn, 1) := by decide +kernel
theorem dX1_detectorAfter_73 : decode cX1_detectorAfter 73 = .ok (.iload_n 1, 1) := by decide +kernel
theorem dX1_detectorAfter_74 : decode cX1_detectorAfter 74 = .ok (.iload_n 3, 1) := by decide +kernel
theorem dX1_detectorAfter_75 : decode cX1_detectorAfter 75 = .ok (.aload_n 0, 1) := by decide +kernel
theorem dX1_detectorAfter_76 : decode cX1_detectorAfter 76 = .ok (.iconst 2, 1) := by decide +kernel
theorem dX1_detectorAfter_77 : decode cX1_detectorAfter 77 = .ok (.invokevirtual 87, 3) := by decide +kernel
theorem dX1_detectorAfter_80 : decode cX1_detectorAfter 80 = .ok (.iadd, 1) := by decide +kernel
theorem dX1_detectorAfter_81 : decode cX1_detectorAfter 81 = .ok (.if_icmp .le 7, 3) := by decide +kernel
theorem dX1_detectorAfter_84 : decode cX1_detectorAfter 84 = .ok (.iconst 1, 1) := by decide +kernel
theorem dX1_detectorAfter_85 : decode cX1_detectorAfter 85 = .ok (.goto 4, 3) := by decide +kernel
theorem dX1_detectorAfter_88 : decode cX1_detectorAfter 88 = .ok (.iload_n 2, 1) := by decide +kernel
theorem dX1_detectorAfter_89 : decode cX1_detectorAfter 89 = .ok (.ireturn, 1) := by decide +kernel
theorem dX1_detectorAfter_90 : decode cX1_detectorAfter 90 = .ok (.iload_n 1, 1) := by decide +kernel
theorem dX1_detectorAfter_91 : decode cX1_detectorAfter 91 = .ok (.iload_n 3, 1) := by decide +kernel
theorem dX1_detectorAfter_92 : decode cX1_detectorAfter 92 = .ok (.if_icmp .ge 14, 3) := by decide +kernel
theorem dX1_detectorAfter_95 : decode cX1_detectorAfter 95 = .ok (.iload_n 2, 1) := by decide +kernel
theorem dX1_detectorAfter_96 : decode cX1_detectorAfter 96 = .ok (.iconst 2, 1) := by decide +kernel
theorem dX1_detectorAfter_97 : decode cX1_detectorAfter 97 = .ok (.if_icmp .ne 7, 3) := by decide +kernel
theorem dX1_detectorAfter_100 : decode cX1_detectorAfter 100 = .ok (.iconst 5, 1) := by decide +kernel
theorem dX1_detectorAfter_101 : decode cX1_detectorAfter 101 = .ok (.goto 4, 3) := by decide +kernel
theorem dX1_detectorAfter_104 : decode cX1_detectorAfter 104 = .ok (.iconst 1, 1) := by decide +kernel
theorem dX1_detectorAfter_105 : decode cX1_detectorAfter 105 = .ok (.ireturn, 1) := by decide +kernel
theorem dX1_detectorAfter_106 : decode cX1_detectorAfter 106 = .ok (.iload_n 1, 1) := by decide +kernel
theorem dX1_detectorAfter_107 : decode cX1_detectorAfter 107 = .ok (.aload_n 0, 1) := by decide +kernel
theorem dX1_detectorAfter_108 : decode cX1_detectorAfter 108 = .ok (.iconst 4, 1) := by decide +kernel
theorem dX1_detectorAfter_109 : decode cX1_detectorAfter 109 = .ok (.invokevirtual 87, 3) := by decide +kernel
theorem dX1_detectorAfter_112 : decode cX1_detectorAfter 112 = .ok (.if_icmp .lt 5, 3) := by decide +kernel
theorem dX1_detectorAfter_115 : decode cX1_detectorAfter 115 = .ok (.iconst 0, 1) := by decide +kernel
theorem dX1_detectorAfter_116 : decode cX1_detectorAfter 116 = .ok (.ireturn, 1) := by decide +kernel
theorem dX1_detectorAfter_117 : decode cX1_detectorAfter 117 = .ok (.iload_n 2, 1) := by decide +kernel
theorem dX1_detectorAfter_118 : decode cX1_detectorAfter 118 = .ok (.iconst 1, 1) := by decide +kernel
theorem dX1_detectorAfter_119 : decode cX1_detectorAfter 119 = .ok (.if_icmp .ne 7, 3) := by decide +kernel
theorem dX1_detectorAfter_122 : decode cX1_detectorAfter 122 = .ok (.iconst 2, 1) := by decide +kernel
theorem dX1_detectorAfter_123 : decode cX1_detectorAfter 123 = .ok (.goto 4, 3) := by decide +kernel
theorem dX1_detectorAfter_126 : decode cX1_detectorAfter 126 = .ok (.iload_n 2, 1) := by decide +kernel
theorem dX1_detectorAfter_127 : decode cX1_detectorAfter 127 = .ok (.ireturn, 1) := by decide +kernel
theorem dX1_beginSegment_0 : decode cX1_beginSegment 0 = .ok (.aload_n 0, 1) := by decide +kernel
theorem dX1_beginSegment_1 : decode cX1_beginSegment 1 = .ok (.dup, 1) := by decide +kernel
theorem dX1_beginSegment_2 : decode cX1_beginSegment 2 = .ok (.getfield 35, 3) := by decide +kernel
theorem dX1_beginSegment_5 : decode cX1_beginSegment 5 = .ok (.iconst 1, 1) := by decide +kernel
theorem dX1_beginSegment_6 : decode cX1_beginSegment 6 = .ok (.iadd, 1) := by decide +kernel
theorem dX1_beginSegment_7 : decode cX1_beginSegment 7 = .ok (.putfield 35, 3) := by decide +kernel
theorem dX1_beginSegment_10 : decode cX1_beginSegment 10 = .ok (.aload_n 0, 1) := by decide +kernel
theorem dX1_beginSegment_11 : decode cX1_beginSegment 11 = .ok (.aload_n 0, 1) := by decide +kernel
theorem dX1_beginSegment_12 : decode cX1_beginSegment 12 = .ok (.getfield 25, 3) := by decide +kernel
theorem dX1_beginSegment_15 : decode cX1_beginSegment 15 = .ok (.putfield 47, 3) := by decide +kernel
theorem dX1_beginSegment_18 : decode cX1_beginSegment 18 = .ok (.aload_n 0, 1) := by decide +kernel
theorem dX1_beginSegment_19 : decode cX1_beginSegment 19 = .ok (.aload_n 0, 1) := by decide +kernel
theorem dX1_beginSegment_20 : decode cX1_beginSegment 20 = .ok (.iconst 5, 1) := by decide +kernel
theorem dX1_beginSegment_21 : decode cX1_beginSegment 21 = .ok (.invokevirtual 87, 3) := by decide +kernel
theorem dX1_beginSegment_24 : decode cX1_beginSegment 24 = .ok (.putfield 50, 3) := by decide +kernel
theorem dX1_beginSegment_27 : decode cX1_beginSegment 27 = .ok (.aload_n 0, 1) := by decide +kernel
theorem dX1_beginSegment_28 : decode cX1_beginSegment 28 = .ok (.aload_n 0, 1) := by decide +kernel
theorem dX1_beginSegment_29 : decode cX1_beginSegment 29 = .ok (.bipush 6, 2) := by decide +kernel
theorem dX1_beginSegment_31 : decode cX1_beginSegment 31 = .ok (.invokevirtual 87, 3) := by decide +kernel
theorem dX1_beginSegment_34 : decode cX1_beginSegment 34 = .ok (.putfield 53, 3) := by decide +kernel
theorem dX1_beginSegment_37 : decode cX1_beginSegment 37 = .ok (.aload_n 0, 1) := by decide +kernel
theorem dX1_beginSegment_38 : decode cX1_beginSegment 38 = .ok (.aload_n 0, 1) := by decide +kernel
theorem dX1_beginSegment_39 : decode cX1_beginSegment 39 = .ok (.iconst 0, 1) := by decide +kernel
theorem dX1_beginSegment_40 : decode cX1_beginSegment 40 = .ok (.invokevirtual 87, 3) := by decide +kernel
theorem dX1_beginSegment_43 : decode cX1_beginSegment 43 = .ok (.putfield 56, 3) := by decide +kernel
theorem dX1_beginSegment_46 : decode cX1_beginSegment 46 = .ok (.aload_n 0, 1) := by decide +kernel
theorem dX1_beginSegment_47 : decode cX1_beginSegment 47 = .ok (.aload_n 0, 1) := by decide +kernel
theorem dX1_beginSegment_48 : decode cX1_beginSegment 48 = .ok (.getfield 50, 3) := by decide +kernel
theorem dX1_beginSegment_51 : decode cX1_beginSegment 51 = .ok (.aload_n 0, 1) := by decide +kernel
theorem dX1_beginSegment_52 : decode cX1_beginSegment 52 = .ok (.getfield 53, 3) := by decide +kernel
theorem dX1_beginSegment_55 : decode cX1_beginSegment 55 = .ok (.isub, 1) := by decide +kernel
theorem dX1_beginSegment_56 : decode cX1_beginSegment 56 = .ok (.iconst 1, 1) := by decide +kernel
theorem dX1_beginSegment_57 : decode cX1_beginSegment 57 = .ok (.isub, 1) := by decide +kernel
theorem dX1_beginSegment_58 : decode cX1_beginSegment 58 = .ok (.putfield 59, 3) := by decide +kernel
theorem dX1_beginSegment_61 : decode cX1_beginSegment 61 = .ok (.return_, 1) := by decide +kernel
theorem dX1_completeSegment_0 : decode cX1_completeSegment 0 = .ok (.aload_n 0, 1) := by decide +kernel
theorem dX1_completeSegment_1 : decode cX1_completeSegment 1 = .ok (.getfield 21, 3) := by decide +kernel
theorem dX1_completeSegment_4 : decode cX1_completeSegment 4 = .ok (.aload_n 0, 1) := by decide +kernel
theorem dX1_completeSegment_5 : decode cX1_completeSegment 5 = .ok (.bipush 8, 2) := by decide +kernel
theorem dX1_completeSegment_7 : decode cX1_completeSegment 7 = .ok (.invokevirtual 87, 3) := by decide +kernel
theorem dX1_completeSegment_10 : decode cX1_completeSegment 10 = .ok (.iconst 1, 1) := by decide +kernel
theorem dX1_completeSegment_11 : decode cX1_completeSegment 11 = .ok (.isub, 1) := by decide +kernel
theorem dX1_completeSegment_12 : decode cX1_completeSegment 12 = .ok (.invokevirtual 95, 3) := by decide +kernel
theorem dX1_completeSegment_15 : decode cX1_completeSegment 15 = .ok (.aload_n 0, 1) := by decide +kernel
theorem dX1_completeSegment_16 : decode cX1_completeSegment 16 = .ok (.getfield 21, 3) := by decide +kernel
theorem dX1_completeSegment_19 : decode cX1_completeSegment 19 = .ok (.aload_n 0, 1) := by decide +kernel
theorem dX1_completeSegment_20 : decode cX1_completeSegment 20 = .ok (.getfield 47, 3) := by decide +kernel
theorem dX1_completeSegment_23 : decode cX1_completeSegment 23 = .ok (.aload_n 0, 1) := by decide +kernel
theorem dX1_completeSegment_24 : decode cX1_completeSegment 24 = .ok (.getfield 50, 3) := by decide +kernel
theorem dX1_completeSegment_27 : decode cX1_completeSegment 27 = .ok (.aload_n 0, 1) := by decide +kernel
theorem dX1_completeSegment_28 : decode cX1_completeSegment 28 = .ok (.getfield 53, 3) := by decide +kernel
theorem dX1_completeSegment_31 : decode cX1_completeSegment 31 = .ok (.aload_n 0, 1) := by decide +kernel
theorem dX1_completeSegment_32 : decode cX1_completeSegment 32 = .ok (.getfield 56, 3) := by decide +kernel
theorem dX1_completeSegment_35 : decode cX1_completeSegment 35 = .ok (.invokevirtual 120, 3) := by decide +kernel
theorem dX1_completeSegment_38 : decode cX1_completeSegment 38 = .ok (.aload_n 0, 1) := by decide +kernel
theorem dX1_completeSegment_39 : decode cX1_completeSegment 39 = .ok (.dup, 1) := by decide +kernel
theorem dX1_completeSegment_40 : decode cX1_completeSegment 40 = .ok (.getfield 41, 3) := by decide +kernel
theorem dX1_completeSegment_43 : decode cX1_completeSegment 43 = .ok (.iconst 1, 1) := by decide +kernel
theorem dX1_completeSegment_44 : decode cX1_completeSegment 44 = .ok (.iadd, 1) := by decide +kernel
theorem dX1_completeSegment_45 : decode cX1_completeSegment 45 = .ok (.putfield 41, 3) := by decide +kernel
theorem dX1_completeSegment_48 : decode cX1_completeSegment 48 = .ok (.aload_n 0, 1) := by decide +kernel
theorem dX1_completeSegment_49 : decode cX1_completeSegment 49 = .ok (.iconst 0, 1) := by decide +kernel
theorem dX1_completeSegment_50 : decode cX1_completeSegment 50 = .ok (.putfield 44, 3) := by decide +kernel
theorem dX1_completeSegment_53 : decode cX1_completeSegment 53 = .ok (.return_, 1) := by decide +kernel
theorem dX1_forget_0 : decode cX1_forget 0 = .ok (.aload_n 0, 1) := by decide +kernel
theorem dX1_forget_1 : decode cX1_forget 1 = .ok (.getfield 21, 3) := by decide +kernel
theorem dX1_forget_4 : decode cX1_forget 4 = .ok (.getfield 124, 3) := by decide +kernel
theorem dX1_forget_7 : decode cX1_forget 7 = .ok (.istore_n 1, 1) := by decide +kernel
theorem dX1_forget_8 : decode cX1_forget 8 = .ok (.aload_n 0, 1) := by decide +kernel
theorem dX1_forget_9 : decode cX1_forget 9 = .ok (.getfield 21, 3) := by decide +kernel
theorem dX1_forget_12 : decode cX1_forget 12 = .ok (.iconst 0, 1) := by decide +kernel
theorem dX1_forget_13 : decode cX1_forget 13 = .ok (.putfield 124, 3) := by decide +kernel
theorem dX1_forget_16 : decode cX1_forget 16 = .ok (.aload_n 0, 1) := by decide +kernel
theorem dX1_forget_17 : decode cX1_forget 17 = .ok (.iconst 0, 1) := by decide +kernel
theorem dX1_forget_18 : decode cX1_forget 18 = .ok (.putfield 25, 3) := by decide +kernel
theorem dX1_forget_21 : decode cX1_forget 21 = .ok (.aload_n 0, 1) := by decide +kernel
theorem dX1_forget_22 : decode cX1_forget 22 = .ok (.iconst 0, 1) := by decide +kernel
theorem dX1_forget_23 : decode cX1_forget 23 = .ok (.putfield 44, 3) := by decide +kernel
theorem dX1_forget_26 : decode cX1_forget 26 = .ok (.aload_n 0, 1) := by decide +kernel
theorem dX1_forget_27 : decode cX1_forget 27 = .ok (.iconst 0, 1) := by decide +kernel
theorem dX1_forget_28 : decode cX1_forget 28 = .ok (.putfield 59, 3) := by decide +kernel
theorem dX1_forget_31 : decode cX1_forget 31 = .ok (.aload_n 0, 1) := by decide +kernel
theorem dX1_forget_32 : decode cX1_forget 32 = .ok (.iconst 0, 1) := by decide +kernel
theorem dX1_forget_33 : decode cX1_forget 33 = .ok (.putfield 29, 3) := by decide +kernel
theorem dX1_forget_36 : decode cX1_forget 36 = .ok (.iload_n 1, 1) := by decide +kernel
theorem dX1_forget_37 : decode cX1_forget 37 = .ok (.ireturn, 1) := by decide +kernel
theorem dX1_phase_0 : decode cX1_phase 0 = .ok (.aload_n 0, 1) := by decide +kernel
theorem dX1_phase_1 : decode cX1_phase 1 = .ok (.getfield 59, 3) := by decide +kernel
theorem dX1_phase_4 : decode cX1_phase 4 = .ok (.ifCond .le 5, 3) := by decide +kernel
theorem dX1_phase_7 : decode cX1_phase 7 = .ok (.iconst 3, 1) := by decide +kernel
theorem dX1_phase_8 : decode cX1_phase 8 = .ok (.ireturn, 1) := by decide +kernel
theorem dX1_phase_9 : decode cX1_phase 9 = .ok (.aload_n 0, 1) := by decide +kernel
theorem dX1_phase_10 : decode cX1_phase 10 = .ok (.getfield 21, 3) := by decide +kernel
theorem dX1_phase_13 : decode cX1_phase 13 = .ok (.getfield 124, 3) := by decide +kernel
theorem dX1_phase_16 : decode cX1_phase 16 = .ok (.aload_n 0, 1) := by decide +kernel
theorem dX1_phase_17 : decode cX1_phase 17 = .ok (.bipush 8, 2) := by decide +kernel
theorem dX1_phase_19 : decode cX1_phase 19 = .ok (.invokevirtual 87, 3) := by decide +kernel
theorem dX1_phase_22 : decode cX1_phase 22 = .ok (.if_icmp .lt 14, 3) := by decide +kernel
theorem dX1_phase_25 : decode cX1_phase 25 = .ok (.aload_n 0, 1) := by decide +kernel
theorem dX1_phase_26 : decode cX1_phase 26 = .ok (.bipush 9, 2) := by decide +kernel
theorem dX1_phase_28 : decode cX1_phase 28 = .ok (.invokevirtual 87, 3) := by decide +kernel
theorem dX1_phase_31 : decode cX1_phase 31 = .ok (.ifCond .ne 5, 3) := by decide +kernel
theorem dX1_phase_34 : decode cX1_phase 34 = .ok (.iconst 2, 1) := by decide +kernel
theorem dX1_phase_35 : decode cX1_phase 35 = .ok (.ireturn, 1) := by decide +kernel
theorem dX1_phase_36 : decode cX1_phase 36 = .ok (.aload_n 0, 1) := by decide +kernel
theorem dX1_phase_37 : decode cX1_phase 37 = .ok (.getfield 44, 3) := by decide +kernel
theorem dX1_phase_40 : decode cX1_phase 40 = .ok (.aload_n 0, 1) := by decide +kernel
theorem dX1_phase_41 : decode cX1_phase 41 = .ok (.bipush 6, 2) := by decide +kernel
theorem dX1_phase_43 : decode cX1_phase 43 = .ok (.invokevirtual 87, 3) := by decide +kernel
theorem dX1_phase_46 : decode cX1_phase 46 = .ok (.if_icmp .lt 16, 3) := by decide +kernel
theorem dX1_phase_49 : decode cX1_phase 49 = .ok (.aload_n 0, 1) := by decide +kernel
theorem dX1_phase_50 : decode cX1_phase 50 = .ok (.getfield 44, 3) := by decide +kernel
theorem dX1_phase_53 : decode cX1_phase 53 = .ok (.aload_n 0, 1) := by decide +kernel
theorem dX1_phase_54 : decode cX1_phase 54 = .ok (.bipush 7, 2) := by decide +kernel
theorem dX1_phase_56 : decode cX1_phase 56 = .ok (.invokevirtual 87, 3) := by decide +kernel
theorem dX1_phase_59 : decode cX1_phase 59 = .ok (.if_icmp .ge 7, 3) := by decide +kernel
theorem dX1_phase_62 : decode cX1_phase 62 = .ok (.iconst 0, 1) := by decide +kernel
theorem dX1_phase_63 : decode cX1_phase 63 = .ok (.goto 4, 3) := by decide +kernel
theorem dX1_phase_66 : decode cX1_phase 66 = .ok (.iconst 1, 1) := by decide +kernel
theorem dX1_phase_67 : decode cX1_phase 67 = .ok (.ireturn, 1) := by decide +kernel
theorem dX1_numberOf_0 : decode cX1_numberOf 0 = .ok (.iload_n 1, 1) := by decide +kernel
theorem dX1_numberOf_1 : decode cX1_numberOf 1 = .ok (.tableswitch 99 0 8 #[51, 56, 64, 69, 74, 79, 84, 89, 94], 51) := by decide +kernel
theorem dX1_numberOf_52 : decode cX1_numberOf 52 = .ok (.aload_n 0, 1) := by decide +kernel
theorem dX1_numberOf_53 : decode cX1_numberOf 53 = .ok (.getfield 25, 3) := by decide +kernel
theorem dX1_numberOf_56 : decode cX1_numberOf 56 = .ok (.ireturn, 1) := by decide +kernel
theorem dX1_numberOf_57 : decode cX1_numberOf 57 = .ok (.aload_n 0, 1) := by decide +kernel
theorem dX1_numberOf_58 : decode cX1_numberOf 58 = .ok (.getfield 21, 3) := by decide +kernel
theorem dX1_numberOf_61 : decode cX1_numberOf 61 = .ok (.getfield 124, 3) := by decide +kernel
theorem dX1_numberOf_64 : decode cX1_numberOf 64 = .ok (.ireturn, 1) := by decide +kernel
theorem dX1_numberOf_65 : decode cX1_numberOf 65 = .ok (.aload_n 0, 1) := by decide +kernel
theorem dX1_numberOf_66 : decode cX1_numberOf 66 = .ok (.invokevirtual 109, 3) := by decide +kernel
theorem dX1_numberOf_69 : decode cX1_numberOf 69 = .ok (.ireturn, 1) := by decide +kernel
theorem dX1_numberOf_70 : decode cX1_numberOf 70 = .ok (.aload_n 0, 1) := by decide +kernel
theorem dX1_numberOf_71 : decode cX1_numberOf 71 = .ok (.getfield 29, 3) := by decide +kernel
theorem dX1_numberOf_74 : decode cX1_numberOf 74 = .ok (.ireturn, 1) := by decide +kernel
theorem dX1_numberOf_75 : decode cX1_numberOf 75 = .ok (.aload_n 0, 1) := by decide +kernel
theorem dX1_numberOf_76 : decode cX1_numberOf 76 = .ok (.getfield 32, 3) := by decide +kernel
theorem dX1_numberOf_79 : decode cX1_numberOf 79 = .ok (.ireturn, 1) := by decide +kernel
theorem dX1_numberOf_80 : decode cX1_numberOf 80 = .ok (.aload_n 0, 1) := by decide +kernel
theorem dX1_numberOf_81 : decode cX1_numberOf 81 = .ok (.getfield 35, 3) := by decide +kernel
theorem dX1_numberOf_84 : decode cX1_numberOf 84 = .ok (.ireturn, 1) := by decide +kernel
theorem dX1_numberOf_85 : decode cX1_numberOf 85 = .ok (.aload_n 0, 1) := by decide +kernel
theorem dX1_numberOf_86 : decode cX1_numberOf 86 = .ok (.getfield 38, 3) := by decide +kernel
theorem dX1_numberOf_89 : decode cX1_numberOf 89 = .ok (.ireturn, 1) := by decide +kernel
theorem dX1_numberOf_90 : decode cX1_numberOf 90 = .ok (.aload_n 0, 1) := by decide +kernel
theorem dX1_numberOf_91 : decode cX1_numberOf 91 = .ok (.getfield 41, 3) := by decide +kernel
theorem dX1_numberOf_94 : decode cX1_numberOf 94 = .ok (.ireturn, 1) := by decide +kernel
theorem dX1_numberOf_95 : decode cX1_numberOf 95 = .ok (.aload_n 0, 1) := by decide +kernel
theorem dX1_numberOf_96 : decode cX1_numberOf 96 = .ok (.getfield 44, 3) := by decide +kernel
theorem dX1_numberOf_99 : decode cX1_numberOf 99 = .ok (.ireturn, 1) := by decide +kernel
theorem dX1_numberOf_100 : decode cX1_numberOf 100 = .ok (.aload_n 0, 1) := by decide +kernel
theorem dX1_numberOf_101 : decode cX1_numberOf 101 = .ok (.getfield 59, 3) := by decide +kernel
theorem dX1_numberOf_104 : decode cX1_numberOf 104 = .ok (.ireturn, 1) := by decide +kernel
theorem dX1_sampleAt_0 : decode cX1_sampleAt 0 = .ok (.aload_n 0, 1) := by decide +kernel
theorem dX1_sampleAt_1 : decode cX1_sampleAt 1 = .ok (.getfield 15, 3) := by decide +kernel
theorem dX1_sampleAt_4 : decode cX1_sampleAt 4 = .ok (.iload_n 1, 1) := by decide +kernel
theorem dX1_sampleAt_5 : decode cX1_sampleAt 5 = .ok (.invokestatic 76, 3) := by decide +kernel
theorem dX1_sampleAt_8 : decode cX1_sampleAt 8 = .ok (.ireturn, 1) := by decide +kernel
theorem dX1_leastOf_0 : decode cX1_leastOf 0 = .ok (.aload_n 0, 1) := by decide +kernel
theorem dX1_leastOf_1 : decode cX1_leastOf 1 = .ok (.getfield 21, 3) := by decide +kernel
theorem dX1_leastOf_4 : decode cX1_leastOf 4 = .ok (.iload_n 1, 1) := by decide +kernel
theorem dX1_leastOf_5 : decode cX1_leastOf 5 = .ok (.invokevirtual 127, 3) := by decide +kernel
theorem dX1_leastOf_8 : decode cX1_leastOf 8 = .ok (.istore_n 2, 1) := by decide +kernel
theorem dX1_leastOf_9 : decode cX1_leastOf 9 = .ok (.aload_n 0, 1) := by decide +kernel
theorem dX1_leastOf_10 : decode cX1_leastOf 10 = .ok (.getfield 21, 3) := by decide +kernel
theorem dX1_leastOf_13 : decode cX1_leastOf 13 = .ok (.iload_n 1, 1) := by decide +kernel
theorem dX1_leastOf_14 : decode cX1_leastOf 14 = .ok (.iconst 1, 1) := by decide +kernel
theorem dX1_leastOf_15 : decode cX1_leastOf 15 = .ok (.invokevirtual 130, 3) := by decide +kernel
theorem dX1_leastOf_18 : decode cX1_leastOf 18 = .ok (.istore_n 3, 1) := by decide +kernel
theorem dX1_leastOf_19 : decode cX1_leastOf 19 = .ok (.aload_n 0, 1) := by decide +kernel
theorem dX1_leastOf_20 : decode cX1_leastOf 20 = .ok (.iload_n 2, 1) := by decide +kernel
theorem dX1_leastOf_21 : decode cX1_leastOf 21 = .ok (.invokevirtual 134, 3) := by decide +kernel
theorem dX1_leastOf_24 : decode cX1_leastOf 24 = .ok (.istore 4, 2) := by decide +kernel
theorem dX1_leastOf_26 : decode cX1_leastOf 26 = .ok (.iconst 1, 1) := by decide +kernel
theorem dX1_leastOf_27 : decode cX1_leastOf 27 = .ok (.istore 5, 2) := by decide +kernel
theorem dX1_leastOf_29 : decode cX1_leastOf 29 = .ok (.iload 5, 2) := by decide +kernel
theorem dX1_leastOf_31 : decode cX1_leastOf 31 = .ok (.iload_n 3, 1) := by decide +kernel
theorem dX1_leastOf_32 : decode cX1_leastOf 32 = .ok (.if_icmp .ge 24, 3) := by decide +kernel
theorem dX1_leastOf_35 : decode cX1_leastOf 35 = .ok (.iload 4, 2) := by decide +kernel
theorem dX1_leastOf_37 : decode cX1_leastOf 37 = .ok (.aload_n 0, 1) := by decide +kernel
theorem dX1_leastOf_38 : decode cX1_leastOf 38 = .ok (.iload_n 2, 1) := by decide +kernel
theorem dX1_leastOf_39 : decode cX1_leastOf 39 = .ok (.iload 5, 2) := by decide +kernel
theorem dX1_leastOf_41 : decode cX1_leastOf 41 = .ok (.iadd, 1) := by decide +kernel
theorem dX1_leastOf_42 : decode cX1_leastOf 42 = .ok (.invokevirtual 134, 3) := by decide +kernel
theorem dX1_leastOf_45 : decode cX1_leastOf 45 = .ok (.invokestatic 137, 3) := by decide +kernel
theorem dX1_leastOf_48 : decode cX1_leastOf 48 = .ok (.istore 4, 2) := by decide +kernel
theorem dX1_leastOf_50 : decode cX1_leastOf 50 = .ok (.iinc 5 1, 3) := by decide +kernel
theorem dX1_leastOf_53 : decode cX1_leastOf 53 = .ok (.goto (-24), 3) := by decide +kernel
theorem dX1_leastOf_56 : decode cX1_leastOf 56 = .ok (.iload 4, 2) := by decide +kernel
theorem dX1_leastOf_58 : decode cX1_leastOf 58 = .ok (.ireturn, 1) := by decide +kernel
theorem dX1_greatestOf_0 : decode cX1_greatestOf 0 = .ok (.aload_n 0, 1) := by decide +kernel
theorem dX1_greatestOf_1 : decode cX1_greatestOf 1 = .ok (.getfield 21, 3) := by decide +kernel
theorem dX1_greatestOf_4 : decode cX1_greatestOf 4 = .ok (.iload_n 1, 1) := by decide +kernel
theorem dX1_greatestOf_5 : decode cX1_greatestOf 5 = .ok (.invokevirtual 127, 3) := by decide +kernel
theorem dX1_greatestOf_8 : decode cX1_greatestOf 8 = .ok (.istore_n 2, 1) := by decide +kernel
theorem dX1_greatestOf_9 : decode cX1_greatestOf 9 = .ok (.aload_n 0, 1) := by decide +kernel
theorem dX1_greatestOf_10 : decode cX1_greatestOf 10 = .ok (.getfield 21, 3) := by decide +kernel
theorem dX1_greatestOf_13 : decode cX1_greatestOf 13 = .ok (.iload_n 1, 1) := by decide +kernel
theorem dX1_greatestOf_14 : decode cX1_greatestOf 14 = .ok (.iconst 1, 1) := by decide +kernel
theorem dX1_greatestOf_15 : decode cX1_greatestOf 15 = .ok (.invokevirtual 130, 3) := by decide +kernel
theorem dX1_greatestOf_18 : decode cX1_greatestOf 18 = .ok (.istore_n 3, 1) := by decide +kernel
theorem dX1_greatestOf_19 : decode cX1_greatestOf 19 = .ok (.aload_n 0, 1) := by decide +kernel
theorem dX1_greatestOf_20 : decode cX1_greatestOf 20 = .ok (.iload_n 2, 1) := by decide +kernel
theorem dX1_greatestOf_21 : decode cX1_greatestOf 21 = .ok (.invokevirtual 134, 3) := by decide +kernel
theorem dX1_greatestOf_24 : decode cX1_greatestOf 24 = .ok (.istore 4, 2) := by decide +kernel
theorem dX1_greatestOf_26 : decode cX1_greatestOf 26 = .ok (.iconst 1, 1) := by decide +kernel
theorem dX1_greatestOf_27 : decode cX1_greatestOf 27 = .ok (.istore 5, 2) := by decide +kernel
theorem dX1_greatestOf_29 : decode cX1_greatestOf 29 = .ok (.iload 5, 2) := by decide +kernel
theorem dX1_greatestOf_31 : decode cX1_greatestOf 31 = .ok (.iload_n 3, 1) := by decide +kernel
theorem dX1_greatestOf_32 : decode cX1_greatestOf 32 = .ok (.if_icmp .ge 24, 3) := by decide +kernel
theorem dX1_greatestOf_35 : decode cX1_greatestOf 35 = .ok (.iload 4, 2) := by decide +kernel
theorem dX1_greatestOf_37 : decode cX1_greatestOf 37 = .ok (.aload_n 0, 1) := by decide +kernel
theorem dX1_greatestOf_38 : decode cX1_greatestOf 38 = .ok (.iload_n 2, 1) := by decide +kernel
theorem dX1_greatestOf_39 : decode cX1_greatestOf 39 = .ok (.iload 5, 2) := by decide +kernel
theorem dX1_greatestOf_41 : decode cX1_greatestOf 41 = .ok (.iadd, 1) := by decide +kernel
theorem dX1_greatestOf_42 : decode cX1_greatestOf 42 = .ok (.invokevirtual 134, 3) := by decide +kernel
theorem dX1_greatestOf_45 : decode cX1_greatestOf 45 = .ok (.invokestatic 142, 3) := by decide +kernel
theorem dX1_greatestOf_48 : decode cX1_greatestOf 48 = .ok (.istore 4, 2) := by decide +kernel
theorem dX1_greatestOf_50 : decode cX1_greatestOf 50 = .ok (.iinc 5 1, 3) := by decide +kernel
theorem dX1_greatestOf_53 : decode cX1_greatestOf 53 = .ok (.goto (-24), 3) := by decide +kernel
theorem dX1_greatestOf_56 : decode cX1_greatestOf 56 = .ok (.iload 4, 2) := by decide +kernel
theorem dX1_greatestOf_58 : decode cX1_greatestOf 58 = .ok (.ireturn, 1) := by decide +kernel
theorem dX1_sumOf_0 : decode cX1_sumOf 0 = .ok (.aload_n 0, 1) := by decide +kernel
theorem dX1_sumOf_1 : decode cX1_sumOf 1 = .ok (.getfield 21, 3) := by decide +kernel
theorem dX1_sumOf_4 : decode cX1_sumOf 4 = .ok (.iload_n 1, 1) := by decide +kernel
theorem dX1_sumOf_5 : decode cX1_sumOf 5 = .ok (.invokevirtual 127, 3) := by decide +kernel
theorem dX1_sumOf_8 : decode cX1_sumOf 8 = .ok (.istore_n 2, 1) := by decide +kernel
theorem dX1_sumOf_9 : decode cX1_sumOf 9 = .ok (.aload_n 0, 1) := by decide +kernel
theorem dX1_sumOf_10 : decode cX1_sumOf 10 = .ok (.getfield 21, 3) := by decide +kernel
theorem dX1_sumOf_13 : decode cX1_sumOf 13 = .ok (.iload_n 1, 1) := by decide +kernel
theorem dX1_sumOf_14 : decode cX1_sumOf 14 = .ok (.iconst 1, 1) := by decide +kernel
theorem dX1_sumOf_15 : decode cX1_sumOf 15 = .ok (.invokevirtual 130, 3) := by decide +kernel
theorem dX1_sumOf_18 : decode cX1_sumOf 18 = .ok (.istore_n 3, 1) := by decide +kernel
theorem dX1_sumOf_19 : decode cX1_sumOf 19 = .ok (.iconst 0, 1) := by decide +kernel
theorem dX1_sumOf_20 : decode cX1_sumOf 20 = .ok (.istore 4, 2) := by decide +kernel
theorem dX1_sumOf_22 : decode cX1_sumOf 22 = .ok (.iconst 0, 1) := by decide +kernel
theorem dX1_sumOf_23 : decode cX1_sumOf 23 = .ok (.istore 5, 2) := by decide +kernel
theorem dX1_sumOf_25 : decode cX1_sumOf 25 = .ok (.iload 5, 2) := by decide +kernel
theorem dX1_sumOf_27 : decode cX1_sumOf 27 = .ok (.iload_n 3, 1) := by decide +kernel
theorem dX1_sumOf_28 : decode cX1_sumOf 28 = .ok (.if_icmp .ge 22, 3) := by decide +kernel
theorem dX1_sumOf_31 : decode cX1_sumOf 31 = .ok (.iload 4, 2) := by decide +kernel
theorem dX1_sumOf_33 : decode cX1_sumOf 33 = .ok (.aload_n 0, 1) := by decide +kernel
theorem dX1_sumOf_34 : decode cX1_sumOf 34 = .ok (.iload_n 2, 1) := by decide +kernel
theorem dX1_sumOf_35 : decode cX1_sumOf 35 = .ok (.iload 5, 2) := by decide +kernel
theorem dX1_sumOf_37 : decode cX1_sumOf 37 = .ok (.iadd, 1) := by decide +kernel
theorem dX1_sumOf_38 : decode cX1_sumOf 38 = .ok (.invokevirtual 134, 3) := by decide +kernel
theorem dX1_sumOf_41 : decode cX1_sumOf 41 = .ok (.iadd, 1) := by decide +kernel
theorem dX1_sumOf_42 : decode cX1_sumOf 42 = .ok (.istore 4, 2) := by decide +kernel
theorem dX1_sumOf_44 : decode cX1_sumOf 44 = .ok (.iinc 5 1, 3) := by decide +kernel
theorem dX1_sumOf_47 : decode cX1_sumOf 47 = .ok (.goto (-22), 3) := by decide +kernel
theorem dX1_sumOf_50 : decode cX1_sumOf 50 = .ok (.iload 4, 2) := by decide +kernel
theorem dX1_sumOf_52 : decode cX1_sumOf 52 = .ok (.ireturn, 1) := by decide +kernel
theorem dX1_upsOf_0 : decode cX1_upsOf 0 = .ok (.aload_n 0, 1) := by decide +kernel
theorem dX1_upsOf_1 : decode cX1_upsOf 1 = .ok (.getfield 21, 3) := by decide +kernel
theorem dX1_upsOf_4 : decode cX1_upsOf 4 = .ok (.iload_n 1, 1) := by decide +kernel
theorem dX1_upsOf_5 : decode cX1_upsOf 5 = .ok (.invokevirtual 127, 3) := by decide +kernel
theorem dX1_upsOf_8 : decode cX1_upsOf 8 = .ok (.istore_n 2, 1) := by decide +kernel
theorem dX1_upsOf_9 : decode cX1_upsOf 9 = .ok (.aload_n 0, 1) := by decide +kernel
theorem dX1_upsOf_10 : decode cX1_upsOf 10 = .ok (.getfield 21, 3) := by decide +kernel
theorem dX1_upsOf_13 : decode cX1_upsOf 13 = .ok (.iload_n 1, 1) := by decide +kernel
theorem dX1_upsOf_14 : decode cX1_upsOf 14 = .ok (.iconst 1, 1) := by decide +kernel
theorem dX1_upsOf_15 : decode cX1_upsOf 15 = .ok (.invokevirtual 130, 3) := by decide +kernel
theorem dX1_upsOf_18 : decode cX1_upsOf 18 = .ok (.istore_n 3, 1) := by decide +kernel
theorem dX1_upsOf_19 : decode cX1_upsOf 19 = .ok (.iconst 0, 1) := by decide +kernel
theorem dX1_upsOf_20 : decode cX1_upsOf 20 = .ok (.istore 4, 2) := by decide +kernel
theorem dX1_upsOf_22 : decode cX1_upsOf 22 = .ok (.iconst 1, 1) := by decide +kernel
theorem dX1_upsOf_23 : decode cX1_upsOf 23 = .ok (.istore 5, 2) := by decide +kernel
theorem dX1_upsOf_25 : decode cX1_upsOf 25 = .ok (.iload 5, 2) := by decide +kernel
theorem dX1_upsOf_27 : decode cX1_upsOf 27 = .ok (.iload_n 3, 1) := by decide +kernel
theorem dX1_upsOf_28 : decode cX1_upsOf 28 = .ok (.if_icmp .ge 33, 3) := by decide +kernel
theorem dX1_upsOf_31 : decode cX1_upsOf 31 = .ok (.aload_n 0, 1) := by decide +kernel
theorem dX1_upsOf_32 : decode cX1_upsOf 32 = .ok (.iload_n 2, 1) := by decide +kernel
theorem dX1_upsOf_33 : decode cX1_upsOf 33 = .ok (.iload 5, 2) := by decide +kernel
theorem dX1_upsOf_35 : decode cX1_upsOf 35 = .ok (.iadd, 1) := by decide +kernel
theorem dX1_upsOf_36 : decode cX1_upsOf 36 = .ok (.invokevirtual 134, 3) := by decide +kernel
theorem dX1_upsOf_39 : decode cX1_upsOf 39 = .ok (.aload_n 0, 1) := by decide +kernel
theorem dX1_upsOf_40 : decode cX1_upsOf 40 = .ok (.iload_n 2, 1) := by decide +kernel
theorem dX1_upsOf_41 : decode cX1_upsOf 41 = .ok (.iload 5, 2) := by decide +kernel
theorem dX1_upsOf_43 : decode cX1_upsOf 43 = .ok (.iadd, 1) := by decide +kernel
theorem dX1_upsOf_44 : decode cX1_upsOf 44 = .ok (.iconst 1, 1) := by decide +kernel
theorem dX1_upsOf_45 : decode cX1_upsOf 45 = .ok (.isub, 1) := by decide +kernel
theorem dX1_upsOf_46 : decode cX1_upsOf 46 = .ok (.invokevirtual 134, 3) := by decide +kernel
theorem dX1_upsOf_49 : decode cX1_upsOf 49 = .ok (.if_icmp .le 6, 3) := by decide +kernel
theorem dX1_upsOf_52 : decode cX1_upsOf 52 = .ok (.iinc 4 1, 3) := by decide +kernel
theorem dX1_upsOf_55 : decode cX1_upsOf 55 = .ok (.iinc 5 1, 3) := by decide +kernel
theorem dX1_upsOf_58 : decode cX1_upsOf 58 = .ok (.goto (-33), 3) := by decide +kernel
theorem dX1_upsOf_61 : decode cX1_upsOf 61 = .ok (.iload 4, 2) := by decide +kernel
theorem dX1_upsOf_63 : decode cX1_upsOf 63 = .ok (.ireturn, 1) := by decide +kernel
theorem dX1_greatestLevel_0 : decode cX1_greatestLevel 0 = .ok (.aload_n 0, 1) := by decide +kernel
theorem dX1_greatestLevel_1 : decode cX1_greatestLevel 1 = .ok (.iconst 0, 1) := by decide +kernel
theorem dX1_greatestLevel_2 : decode cX1_greatestLevel 2 = .ok (.invokevirtual 87, 3) := by decide +kernel
theorem dX1_greatestLevel_5 : decode cX1_greatestLevel 5 = .ok (.iconst 2, 1) := by decide +kernel
theorem dX1_greatestLevel_6 : decode cX1_greatestLevel 6 = .ok (.if_icmp .ne 13, 3) := by decide +kernel
theorem dX1_greatestLevel_9 : decode cX1_greatestLevel 9 = .ok (.aload_n 0, 1) := by decide +kernel
theorem dX1_greatestLevel_10 : decode cX1_greatestLevel 10 = .ok (.iconst 4, 1) := by decide +kernel
theorem dX1_greatestLevel_11 : decode cX1_greatestLevel 11 = .ok (.invokevirtual 87, 3) := by decide +kernel
theorem dX1_greatestLevel_14 : decode cX1_greatestLevel 14 = .ok (.iconst 1, 1) := by decide +kernel
theorem dX1_greatestLevel_15 : decode cX1_greatestLevel 15 = .ok (.isub, 1) := by decide +kernel
theorem dX1_greatestLevel_16 : decode cX1_greatestLevel 16 = .ok (.goto 5, 3) := by decide +kernel
theorem dX1_greatestLevel_19 : decode cX1_greatestLevel 19 = .ok (.bipush 100, 2) := by decide +kernel
theorem dX1_greatestLevel_21 : decode cX1_greatestLevel 21 = .ok (.ireturn, 1) := by decide +kernel
theorem dX1_firingsWith_0 : decode cX1_firingsWith 0 = .ok (.iconst 0, 1) := by decide +kernel
theorem dX1_firingsWith_1 : decode cX1_firingsWith 1 = .ok (.istore_n 2, 1) := by decide +kernel
theorem dX1_firingsWith_2 : decode cX1_firingsWith 2 = .ok (.iconst 0, 1) := by decide +kernel
theorem dX1_firingsWith_3 : decode cX1_firingsWith 3 = .ok (.istore_n 3, 1) := by decide +kernel
theorem dX1_firingsWith_4 : decode cX1_firingsWith 4 = .ok (.iconst 0, 1) := by decide +kernel
theorem dX1_firingsWith_5 : decode cX1_firingsWith 5 = .ok (.istore 4, 2) := by decide +kernel
theorem dX1_firingsWith_7 : decode cX1_firingsWith 7 = .ok (.iload 4, 2) := by decide +kernel
theorem dX1_firingsWith_9 : decode cX1_firingsWith 9 = .ok (.aload_n 0, 1) := by decide +kernel
theorem dX1_firingsWith_10 : decode cX1_firingsWith 10 = .ok (.getfield 25, 3) := by decide +kernel
theorem dX1_firingsWith_13 : decode cX1_firingsWith 13 = .ok (.if_icmp .ge 39, 3) := by decide +kernel
theorem dX1_firingsWith_16 : decode cX1_firingsWith 16 = .ok (.aload_n 0, 1) := by decide +kernel
theorem dX1_firingsWith_17 : decode cX1_firingsWith 17 = .ok (.aload_n 0, 1) := by decide +kernel
theorem dX1_firingsWith_18 : decode cX1_firingsWith 18 = .ok (.iload 4, 2) := by decide +kernel
theorem dX1_firingsWith_20 : decode cX1_firingsWith 20 = .ok (.invokevirtual 134, 3) := by decide +kernel
theorem dX1_firingsWith_23 : decode cX1_firingsWith 23 = .ok (.iload_n 3, 1) := by decide +kernel
theorem dX1_firingsWith_24 : decode cX1_firingsWith 24 = .ok (.iload_n 1, 1) := by decide +kernel
theorem dX1_firingsWith_25 : decode cX1_firingsWith 25 = .ok (.invokevirtual 116, 3) := by decide +kernel
theorem dX1_firingsWith_28 : decode cX1_firingsWith 28 = .ok (.istore 5, 2) := by decide +kernel
theorem dX1_firingsWith_30 : decode cX1_firingsWith 30 = .ok (.iload 5, 2) := by decide +kernel
theorem dX1_firingsWith_32 : decode cX1_firingsWith 32 = .ok (.iconst 4, 1) := by decide +kernel
theorem dX1_firingsWith_33 : decode cX1_firingsWith 33 = .ok (.iand, 1) := by decide +kernel
theorem dX1_firingsWith_34 : decode cX1_firingsWith 34 = .ok (.ifCond .eq 6, 3) := by decide +kernel
theorem dX1_firingsWith_37 : decode cX1_firingsWith 37 = .ok (.iinc 2 1, 3) := by decide +kernel
theorem dX1_firingsWith_40 : decode cX1_firingsWith 40 = .ok (.iload 5, 2) := by decide +kernel
theorem dX1_firingsWith_42 : decode cX1_firingsWith 42 = .ok (.bipush (-5), 2) := by decide +kernel
theorem dX1_firingsWith_44 : decode cX1_firingsWith 44 = .ok (.iand, 1) := by decide +kernel
theorem dX1_firingsWith_45 : decode cX1_firingsWith 45 = .ok (.istore_n 3, 1) := by decide +kernel
theorem dX1_firingsWith_46 : decode cX1_firingsWith 46 = .ok (.iinc 4 1, 3) := by decide +kernel
theorem dX1_firingsWith_49 : decode cX1_firingsWith 49 = .ok (.goto (-42), 3) := by decide +kernel
theorem dX1_firingsWith_52 : decode cX1_firingsWith 52 = .ok (.iload_n 2, 1) := by decide +kernel
theorem dX1_firingsWith_53 : decode cX1_firingsWith 53 = .ok (.ireturn, 1) := by decide +kernel
theorem dX1_differenceOf_0 : decode cX1_differenceOf 0 = .ok (.aload_n 0, 1) := by decide +kernel
theorem dX1_differenceOf_1 : decode cX1_differenceOf 1 = .ok (.getfield 21, 3) := by decide +kernel
theorem dX1_differenceOf_4 : decode cX1_differenceOf 4 = .ok (.iload_n 1, 1) := by decide +kernel
theorem dX1_differenceOf_5 : decode cX1_differenceOf 5 = .ok (.iconst 2, 1) := by decide +kernel
theorem dX1_differenceOf_6 : decode cX1_differenceOf 6 = .ok (.invokevirtual 130, 3) := by decide +kernel
theorem dX1_differenceOf_9 : decode cX1_differenceOf 9 = .ok (.aload_n 0, 1) := by decide +kernel
theorem dX1_differenceOf_10 : decode cX1_differenceOf 10 = .ok (.getfield 21, 3) := by decide +kernel
theorem dX1_differenceOf_13 : decode cX1_differenceOf 13 = .ok (.iload_n 2, 1) := by decide +kernel
theorem dX1_differenceOf_14 : decode cX1_differenceOf 14 = .ok (.iconst 2, 1) := by decide +kernel
theorem dX1_differenceOf_15 : decode cX1_differenceOf 15 = .ok (.invokevirtual 130, 3) := by decide +kernel
theorem dX1_differenceOf_18 : decode cX1_differenceOf 18 = .ok (.invokestatic 137, 3) := by decide +kernel
theorem dX1_differenceOf_21 : decode cX1_differenceOf 21 = .ok (.istore_n 3, 1) := by decide +kernel
theorem dX1_differenceOf_22 : decode cX1_differenceOf 22 = .ok (.aload_n 0, 1) := by decide +kernel
theorem dX1_differenceOf_23 : decode cX1_differenceOf 23 = .ok (.getfield 21, 3) := by decide +kernel
theorem dX1_differenceOf_26 : decode cX1_differenceOf 26 = .ok (.iload_n 1, 1) := by decide +kernel
theorem dX1_differenceOf_27 : decode cX1_differenceOf 27 = .ok (.invokevirtual 145, 3) := by decide +kernel
theorem dX1_differenceOf_30 : decode cX1_differenceOf 30 = .ok (.aload_n 0, 1) := by decide +kernel
theorem dX1_differenceOf_31 : decode cX1_differenceOf 31 = .ok (.getfield 21, 3) := by decide +kernel
theorem dX1_differenceOf_34 : decode cX1_differenceOf 34 = .ok (.iload_n 2, 1) := by decide +kernel
theorem dX1_differenceOf_35 : decode cX1_differenceOf 35 = .ok (.invokevirtual 145, 3) := by decide +kernel
theorem dX1_differenceOf_38 : decode cX1_differenceOf 38 = .ok (.invokestatic 137, 3) := by decide +kernel
theorem dX1_differenceOf_41 : decode cX1_differenceOf 41 = .ok (.istore 4, 2) := by decide +kernel
theorem dX1_differenceOf_43 : decode cX1_differenceOf 43 = .ok (.aload_n 0, 1) := by decide +kernel
theorem dX1_differenceOf_44 : decode cX1_differenceOf 44 = .ok (.getfield 21, 3) := by decide +kernel
theorem dX1_differenceOf_47 : decode cX1_differenceOf 47 = .ok (.iload_n 1, 1) := by decide +kernel
theorem dX1_differenceOf_48 : decode cX1_differenceOf 48 = .ok (.iconst 0, 1) := by decide +kernel
theorem dX1_differenceOf_49 : decode cX1_differenceOf 49 = .ok (.invokevirtual 130, 3) := by decide +kernel
theorem dX1_differenceOf_52 : decode cX1_differenceOf 52 = .ok (.istore 5, 2) := by decide +kernel
theorem dX1_differenceOf_54 : decode cX1_differenceOf 54 = .ok (.aload_n 0, 1) := by decide +kernel
theorem dX1_differenceOf_55 : decode cX1_differenceOf 55 = .ok (.getfield 21, 3) := by decide +kernel
theorem dX1_differenceOf_58 : decode cX1_differenceOf 58 = .ok (.iload_n 2, 1) := by decide +kernel
theorem dX1_differenceOf_59 : decode cX1_differenceOf 59 = .ok (.iconst 0, 1) := by decide +kernel
theorem dX1_differenceOf_60 : decode cX1_differenceOf 60 = .ok (.invokevirtual 130, 3) := by decide +kernel
theorem dX1_differenceOf_63 : decode cX1_differenceOf 63 = .ok (.istore 6, 2) := by decide +kernel
theorem dX1_differenceOf_65 : decode cX1_differenceOf 65 = .ok (.iconst 0, 1) := by decide +kernel
theorem dX1_differenceOf_66 : decode cX1_differenceOf 66 = .ok (.istore 7, 2) := by decide +kernel
theorem dX1_differenceOf_68 : decode cX1_differenceOf 68 = .ok (.iload_n 3, 1) := by decide +kernel
theorem dX1_differenceOf_69 : decode cX1_differenceOf 69 = .ok (.ineg, 1) := by decide +kernel
theorem dX1_differenceOf_70 : decode cX1_differenceOf 70 = .ok (.istore 8, 2) := by decide +kernel
theorem dX1_differenceOf_72 : decode cX1_differenceOf 72 = .ok (.iload 8, 2) := by decide +kernel
theorem dX1_differenceOf_74 : decode cX1_differenceOf 74 = .ok (.iload 4, 2) := by decide +kernel
theorem dX1_differenceOf_76 : decode cX1_differenceOf 76 = .ok (.if_icmp .gt 36, 3) := by decide +kernel
theorem dX1_differenceOf_79 : decode cX1_differenceOf 79 = .ok (.iload 7, 2) := by decide +kernel
theorem dX1_differenceOf_81 : decode cX1_differenceOf 81 = .ok (.aload_n 0, 1) := by decide +kernel
theorem dX1_differenceOf_82 : decode cX1_differenceOf 82 = .ok (.iload 5, 2) := by decide +kernel
theorem dX1_differenceOf_84 : decode cX1_differenceOf 84 = .ok (.iload 8, 2) := by decide +kernel
theorem dX1_differenceOf_86 : decode cX1_differenceOf 86 = .ok (.iadd, 1) := by decide +kernel
theorem dX1_differenceOf_87 : decode cX1_differenceOf 87 = .ok (.invokevirtual 134, 3) := by decide +kernel
theorem dX1_differenceOf_90 : decode cX1_differenceOf 90 = .ok (.aload_n 0, 1) := by decide +kernel
theorem dX1_differenceOf_91 : decode cX1_differenceOf 91 = .ok (.iload 6, 2) := by decide +kernel
theorem dX1_differenceOf_93 : decode cX1_differenceOf 93 = .ok (.iload 8, 2) := by decide +kernel
theorem dX1_differenceOf_95 : decode cX1_differenceOf 95 = .ok (.iadd, 1) := by decide +kernel
theorem dX1_differenceOf_96 : decode cX1_differenceOf 96 = .ok (.invokevirtual 134, 3) := by decide +kernel
theorem dX1_differenceOf_99 : decode cX1_differenceOf 99 = .ok (.isub, 1) := by decide +kernel
theorem dX1_differenceOf_100 : decode cX1_differenceOf 100 = .ok (.invokestatic 148, 3) := by decide +kernel
theorem dX1_differenceOf_103 : decode cX1_differenceOf 103 = .ok (.iadd, 1) := by decide +kernel
theorem dX1_differenceOf_104 : decode cX1_differenceOf 104 = .ok (.istore 7, 2) := by decide +kernel
theorem dX1_differenceOf_106 : decode cX1_differenceOf 106 = .ok (.iinc 8 1, 3) := by decide +kernel
theorem dX1_differenceOf_109 : decode cX1_differenceOf 109 = .ok (.goto (-37), 3) := by decide +kernel
theorem dX1_differenceOf_112 : decode cX1_differenceOf 112 = .ok (.iload 7, 2) := by decide +kernel
theorem dX1_differenceOf_114 : decode cX1_differenceOf 114 = .ok (.ireturn, 1) := by decide +kernel
theorem dX2_init_0 : decode cX2_init 0 = .ok (.aload_n 0, 1) := by decide +kernel
theorem dX2_init_1 : decode cX2_init 1 = .ok (.invokespecial 3, 3) := by decide +kernel
theorem dX2_init_4 : decode cX2_init 4 = .ok (.aload_n 0, 1) := by decide +kernel
theorem dX2_init_5 : decode cX2_init 5 = .ok (.bipush 80, 2) := by decide +kernel
theorem dX2_init_7 : decode cX2_init 7 = .ok (.newarray .int, 2) := by decide +kernel
theorem dX2_init_9 : decode cX2_init 9 = .ok (.putfield 9, 3) := by decide +kernel
theorem dX2_init_12 : decode cX2_init 12 = .ok (.aload_n 0, 1) := by decide +kernel
theorem dX2_init_13 : decode cX2_init 13 = .ok (.iconst 0, 1) := by decide +kernel
theorem dX2_init_14 : decode cX2_init 14 = .ok (.putfield 15, 3) := by decide +kernel
theorem dX2_init_17 : decode cX2_init 17 = .ok (.aload_n 0, 1) := by decide +kernel
theorem dX2_init_18 : decode cX2_init 18 = .ok (.bipush 80, 2) := by decide +kernel
theorem dX2_init_20 : decode cX2_init 20 = .ok (.newarray .int, 2) := by decide +kernel
theorem dX2_init_22 : decode cX2_init 22 = .ok (.putfield 19, 3) := by decide +kernel
theorem dX2_init_25 : decode cX2_init 25 = .ok (.aload_n 0, 1) := by decide +kernel
theorem dX2_init_26 : decode cX2_init 26 = .ok (.bipush 80, 2) := by decide +kernel
theorem dX2_init_28 : decode cX2_init 28 = .ok (.newarray .int, 2) := by decide +kernel
theorem dX2_init_30 : decode cX2_init 30 = .ok (.putfield 22, 3) := by decide +kernel
theorem dX2_init_33 : decode cX2_init 33 = .ok (.aload_n 0, 1) := by decide +kernel
theorem dX2_init_34 : decode cX2_init 34 = .ok (.bipush 80, 2) := by decide +kernel
theorem dX2_init_36 : decode cX2_init 36 = .ok (.newarray .int, 2) := by decide +kernel
theorem dX2_init_38 : decode cX2_init 38 = .ok (.putfield 25, 3) := by decide +kernel
theorem dX2_init_41 : decode cX2_init 41 = .ok (.aload_n 0, 1) := by decide +kernel
theorem dX2_init_42 : decode cX2_init 42 = .ok (.bipush 80, 2) := by decide +kernel
theorem dX2_init_44 : decode cX2_init 44 = .ok (.newarray .int, 2) := by decide +kernel
theorem dX2_init_46 : decode cX2_init 46 = .ok (.putfield 28, 3) := by decide +kernel
theorem dX2_init_49 : decode cX2_init 49 = .ok (.aload_n 0, 1) := by decide +kernel
theorem dX2_init_50 : decode cX2_init 50 = .ok (.iconst 0, 1) := by decide +kernel
theorem dX2_init_51 : decode cX2_init 51 = .ok (.putfield 31, 3) := by decide +kernel
theorem dX2_init_54 : decode cX2_init 54 = .ok (.aload_n 0, 1) := by decide +kernel
theorem dX2_init_55 : decode cX2_init 55 = .ok (.iconst 0, 1) := by decide +kernel
theorem dX2_init_56 : decode cX2_init 56 = .ok (.putfield 34, 3) := by decide +kernel
theorem dX2_init_59 : decode cX2_init 59 = .ok (.aload_n 0, 1) := by decide +kernel
theorem dX2_init_60 : decode cX2_init 60 = .ok (.iconst 0, 1) := by decide +kernel
theorem dX2_init_61 : decode cX2_init 61 = .ok (.putfield 37, 3) := by decide +kernel
theorem dX2_init_64 : decode cX2_init 64 = .ok (.return_, 1) := by decide +kernel
theorem dX3_init_0 : decode cX3_init 0 = .ok (.aload_n 0, 1) := by decide +kernel
theorem dX3_init_1 : decode cX3_init 1 = .ok (.invokespecial 3, 3) := by decide +kernel
theorem dX3_init_4 : decode cX3_init 4 = .ok (.aload_n 0, 1) := by decide +kernel
theorem dX3_init_5 : decode cX3_init 5 = .ok (.bipush 24, 2) := by decide +kernel
theorem dX3_init_7 : decode cX3_init 7 = .ok (.newarray .int, 2) := by decide +kernel
theorem dX3_init_9 : decode cX3_init 9 = .ok (.putfield 9, 3) := by decide +kernel
theorem dX3_init_12 : decode cX3_init 12 = .ok (.aload_n 0, 1) := by decide +kernel
theorem dX3_init_13 : decode cX3_init 13 = .ok (.iconst 0, 1) := by decide +kernel
theorem dX3_init_14 : decode cX3_init 14 = .ok (.putfield 15, 3) := by decide +kernel
theorem dX3_init_17 : decode cX3_init 17 = .ok (.return_, 1) := by decide +kernel
theorem dX3_has_0 : decode cX3_has 0 = .ok (.iload_n 1, 1) := by decide +kernel
theorem dX3_has_1 : decode cX3_has 1 = .ok (.ifCond .lt 15, 3) := by decide +kernel
theorem dX3_has_4 : decode cX3_has 4 = .ok (.iload_n 1, 1) := by decide +kernel
theorem dX3_has_5 : decode cX3_has 5 = .ok (.aload_n 0, 1) := by decide +kernel
theorem dX3_has_6 : decode cX3_has 6 = .ok (.getfield 15, 3) := by decide +kernel
theorem dX3_has_9 : decode cX3_has 9 = .ok (.if_icmp .ge 7, 3) := by decide +kernel
theorem dX3_has_12 : decode cX3_has 12 = .ok (.iconst 1, 1) := by decide +kernel
theorem dX3_has_13 : decode cX3_has 13 = .ok (.goto 4, 3) := by decide +kernel
theorem dX3_has_16 : decode cX3_has 16 = .ok (.iconst 0, 1) := by decide +kernel
theorem dX3_has_17 : decode cX3_has 17 = .ok (.ireturn, 1) := by decide +kernel
theorem dX3_numberOf_0 : decode cX3_numberOf 0 = .ok (.aload_n 0, 1) := by decide +kernel
theorem dX3_numberOf_1 : decode cX3_numberOf 1 = .ok (.getfield 9, 3) := by decide +kernel
theorem dX3_numberOf_4 : decode cX3_numberOf 4 = .ok (.iload_n 1, 1) := by decide +kernel
theorem dX3_numberOf_5 : decode cX3_numberOf 5 = .ok (.iconst 4, 1) := by decide +kernel
theorem dX3_numberOf_6 : decode cX3_numberOf 6 = .ok (.imul, 1) := by decide +kernel
theorem dX3_numberOf_7 : decode cX3_numberOf 7 = .ok (.iload_n 2, 1) := by decide +kernel
theorem dX3_numberOf_8 : decode cX3_numberOf 8 = .ok (.iadd, 1) := by decide +kernel
theorem dX3_numberOf_9 : decode cX3_numberOf 9 = .ok (.invokestatic 19, 3) := by decide +kernel
theorem dX3_numberOf_12 : decode cX3_numberOf 12 = .ok (.ireturn, 1) := by decide +kernel
theorem dX3_firstOf_0 : decode cX3_firstOf 0 = .ok (.aload_n 0, 1) := by decide +kernel
theorem dX3_firstOf_1 : decode cX3_firstOf 1 = .ok (.iload_n 1, 1) := by decide +kernel
theorem dX3_firstOf_2 : decode cX3_firstOf 2 = .ok (.iconst 0, 1) := by decide +kernel
theorem dX3_firstOf_3 : decode cX3_firstOf 3 = .ok (.invokevirtual 23, 3) := by decide +kernel
theorem dX3_firstOf_6 : decode cX3_firstOf 6 = .ok (.aload_n 0, 1) := by decide +kernel
theorem dX3_firstOf_7 : decode cX3_firstOf 7 = .ok (.iload_n 1, 1) := by decide +kernel
theorem dX3_firstOf_8 : decode cX3_firstOf 8 = .ok (.iconst 2, 1) := by decide +kernel
theorem dX3_firstOf_9 : decode cX3_firstOf 9 = .ok (.invokevirtual 23, 3) := by decide +kernel
theorem dX3_firstOf_12 : decode cX3_firstOf 12 = .ok (.isub, 1) := by decide +kernel
theorem dX3_firstOf_13 : decode cX3_firstOf 13 = .ok (.ireturn, 1) := by decide +kernel
theorem dX3_behindOf_0 : decode cX3_behindOf 0 = .ok (.aload_n 0, 1) := by decide +kernel
theorem dX3_behindOf_1 : decode cX3_behindOf 1 = .ok (.iload_n 1, 1) := by decide +kernel
theorem dX3_behindOf_2 : decode cX3_behindOf 2 = .ok (.iconst 1, 1) := by decide +kernel
theorem dX3_behindOf_3 : decode cX3_behindOf 3 = .ok (.invokevirtual 23, 3) := by decide +kernel
theorem dX3_behindOf_6 : decode cX3_behindOf 6 = .ok (.aload_n 0, 1) := by decide +kernel
theorem dX3_behindOf_7 : decode cX3_behindOf 7 = .ok (.iload_n 1, 1) := by decide +kernel
theorem dX3_behindOf_8 : decode cX3_behindOf 8 = .ok (.iconst 2, 1) := by decide +kernel
theorem dX3_behindOf_9 : decode cX3_behindOf 9 = .ok (.invokevirtual 23, 3) := by decide +kernel
theorem dX3_behindOf_12 : decode cX3_behindOf 12 = .ok (.isub, 1) := by decide +kernel
theorem dX3_behindOf_13 : decode cX3_behindOf 13 = .ok (.iconst 1, 1) := by decide +kernel
theorem dX3_behindOf_14 : decode cX3_behindOf 14 = .ok (.isub, 1) := by decide +kernel
theorem dX3_behindOf_15 : decode cX3_behindOf 15 = .ok (.ireturn, 1) := by decide +kernel
theorem dX3_append_0 : decode cX3_append 0 = .ok (.aload_n 0, 1) := by decide +kernel
theorem dX3_append_1 : decode cX3_append 1 = .ok (.getfield 15, 3) := by decide +kernel
theorem dX3_append_4 : decode cX3_append 4 = .ok (.bipush 6, 2) := by decide +kernel
theorem dX3_append_6 : decode cX3_append 6 = .ok (.if_icmp .ge 70, 3) := by decide +kernel
theorem dX3_append_9 : decode cX3_append 9 = .ok (.aload_n 0, 1) := by decide +kernel
theorem dX3_append_10 : decode cX3_append 10 = .ok (.getfield 15, 3) := by decide +kernel
theorem dX3_append_13 : decode cX3_append 13 = .ok (.iconst 4, 1) := by decide +kernel
theorem dX3_append_14 : decode cX3_append 14 = .ok (.imul, 1) := by decide +kernel
theorem dX3_append_15 : decode cX3_append 15 = .ok (.istore 5, 2) := by decide +kernel
theorem dX3_append_17 : decode cX3_append 17 = .ok (.aload_n 0, 1) := by decide +kernel
theorem dX3_append_18 : decode cX3_append 18 = .ok (.getfield 9, 3) := by decide +kernel
theorem dX3_append_21 : decode cX3_append 21 = .ok (.iload 5, 2) := by decide +kernel
theorem dX3_append_23 : decode cX3_append 23 = .ok (.iconst 0, 1) := by decide +kernel
theorem dX3_append_24 : decode cX3_append 24 = .ok (.iadd, 1) := by decide +kernel
theorem dX3_append_25 : decode cX3_append 25 = .ok (.iload_n 1, 1) := by decide +kernel
theorem dX3_append_26 : decode cX3_append 26 = .ok (.invokestatic 27, 3) := by decide +kernel
theorem dX3_append_29 : decode cX3_append 29 = .ok (.aload_n 0, 1) := by decide +kernel
theorem dX3_append_30 : decode cX3_append 30 = .ok (.getfield 9, 3) := by decide +kernel
theorem dX3_append_33 : decode cX3_append 33 = .ok (.iload 5, 2) := by decide +kernel
theorem dX3_append_35 : decode cX3_append 35 = .ok (.iconst 1, 1) := by decide +kernel
theorem dX3_append_36 : decode cX3_append 36 = .ok (.iadd, 1) := by decide +kernel
theorem dX3_append_37 : decode cX3_append 37 = .ok (.iload_n 2, 1) := by decide +kernel
theorem dX3_append_38 : decode cX3_append 38 = .ok (.invokestatic 27, 3) := by decide +kernel
theorem dX3_append_41 : decode cX3_append 41 = .ok (.aload_n 0, 1) := by decide +kernel
theorem dX3_append_42 : decode cX3_append 42 = .ok (.getfield 9, 3) := by decide +kernel
theorem dX3_append_45 : decode cX3_append 45 = .ok (.iload 5, 2) := by decide +kernel
theorem dX3_append_47 : decode cX3_append 47 = .ok (.iconst 2, 1) := by decide +kernel
theorem dX3_append_48 : decode cX3_append 48 = .ok (.iadd, 1) := by decide +kernel
theorem dX3_append_49 : decode cX3_append 49 = .ok (.iload_n 3, 1) := by decide +kernel
theorem dX3_append_50 : decode cX3_append 50 = .ok (.invokestatic 27, 3) := by decide +kernel
theorem dX3_append_53 : decode cX3_append 53 = .ok (.aload_n 0, 1) := by decide +kernel
theorem dX3_append_54 : decode cX3_append 54 = .ok (.getfield 9, 3) := by decide +kernel
theorem dX3_append_57 : decode cX3_append 57 = .ok (.iload 5, 2) := by decide +kernel
theorem dX3_append_59 : decode cX3_append 59 = .ok (.iconst 3, 1) := by decide +kernel
theorem dX3_append_60 : decode cX3_append 60 = .ok (.iadd, 1) := by decide +kernel
theorem dX3_append_61 : decode cX3_append 61 = .ok (.iload 4, 2) := by decide +kernel
theorem dX3_append_63 : decode cX3_append 63 = .ok (.invokestatic 27, 3) := by decide +kernel
theorem dX3_append_66 : decode cX3_append 66 = .ok (.aload_n 0, 1) := by decide +kernel
theorem dX3_append_67 : decode cX3_append 67 = .ok (.dup, 1) := by decide +kernel
theorem dX3_append_68 : decode cX3_append 68 = .ok (.getfield 15, 3) := by decide +kernel
theorem dX3_append_71 : decode cX3_append 71 = .ok (.iconst 1, 1) := by decide +kernel
theorem dX3_append_72 : decode cX3_append 72 = .ok (.iadd, 1) := by decide +kernel
theorem dX3_append_73 : decode cX3_append 73 = .ok (.putfield 15, 3) := by decide +kernel
theorem dX3_append_76 : decode cX3_append 76 = .ok (.return_, 1) := by decide +kernel
theorem dX3_removeAt_0 : decode cX3_removeAt 0 = .ok (.aload_n 0, 1) := by decide +kernel
theorem dX3_removeAt_1 : decode cX3_removeAt 1 = .ok (.iload_n 1, 1) := by decide +kernel
theorem dX3_removeAt_2 : decode cX3_removeAt 2 = .ok (.invokevirtual 31, 3) := by decide +kernel
theorem dX3_removeAt_5 : decode cX3_removeAt 5 = .ok (.ifCond .eq 51, 3) := by decide +kernel
theorem dX3_removeAt_8 : decode cX3_removeAt 8 = .ok (.aload_n 0, 1) := by decide +kernel
theorem dX3_removeAt_9 : decode cX3_removeAt 9 = .ok (.dup, 1) := by decide +kernel
theorem dX3_removeAt_10 : decode cX3_removeAt 10 = .ok (.getfield 15, 3) := by decide +kernel
theorem dX3_removeAt_13 : decode cX3_removeAt 13 = .ok (.iconst 1, 1) := by decide +kernel
theorem dX3_removeAt_14 : decode cX3_removeAt 14 = .ok (.isub, 1) := by decide +kernel
theorem dX3_removeAt_15 : decode cX3_removeAt 15 = .ok (.putfield 15, 3) := by decide +kernel
theorem dX3_removeAt_18 : decode cX3_removeAt 18 = .ok (.iload_n 1, 1) := by decide +kernel
theorem dX3_removeAt_19 : decode cX3_removeAt 19 = .ok (.iconst 4, 1) := by decide +kernel
theorem dX3_removeAt_20 : decode cX3_removeAt 20 = .ok (.imul, 1) := by decide +kernel
theorem dX3_removeAt_21 : decode cX3_removeAt 21 = .ok (.istore_n 2, 1) := by decide +kernel
theorem dX3_removeAt_22 : decode cX3_removeAt 22 = .ok (.iload_n 2, 1) := by decide +kernel
theorem dX3_removeAt_23 : decode cX3_removeAt 23 = .ok (.aload_n 0, 1) := by decide +kernel
theorem dX3_removeAt_24 : decode cX3_removeAt 24 = .ok (.getfield 15, 3) := by decide +kernel
theorem dX3_removeAt_27 : decode cX3_removeAt 27 = .ok (.iconst 4, 1) := by decide +kernel
theorem dX3_removeAt_28 : decode cX3_removeAt 28 = .ok (.imul, 1) := by decide +kernel
theorem dX3_removeAt_29 : decode cX3_removeAt 29 = .ok (.if_icmp .ge 27, 3) := by decide +kernel
theorem dX3_removeAt_32 : decode cX3_removeAt 32 = .ok (.aload_n 0, 1) := by decide +kernel
theorem dX3_removeAt_33 : decode cX3_removeAt 33 = .ok (.getfield 9, 3) := by decide +kernel
theorem dX3_removeAt_36 : decode cX3_removeAt 36 = .ok (.iload_n 2, 1) := by decide +kernel
theorem dX3_removeAt_37 : decode cX3_removeAt 37 = .ok (.aload_n 0, 1) := by decide +kernel
theorem dX3_removeAt_38 : decode cX3_removeAt 38 = .ok (.getfield 9, 3) := by decide +kernel
theorem dX3_removeAt_41 : decode cX3_removeAt 41 = .ok (.iload_n 2, 1) := by decide +kernel
theorem dX3_removeAt_42 : decode cX3_removeAt 42 = .ok (.iconst 4, 1) := by decide +kernel
theorem dX3_removeAt_43 : decode cX3_removeAt 43 = .ok (.iadd, 1) := by decide +kernel
theorem dX3_removeAt_44 : decode cX3_removeAt 44 = .ok (.invokestatic 19, 3) := by decide +kernel
theorem dX3_removeAt_47 : decode cX3_removeAt 47 = .ok (.invokestatic 27, 3) := by decide +kernel
theorem dX3_removeAt_50 : decode cX3_removeAt 50 = .ok (.iinc 2 1, 3) := by decide +kernel
theorem dX3_removeAt_53 : decode cX3_removeAt 53 = .ok (.goto (-31), 3) := by decide +kernel
theorem dX3_removeAt_56 : decode cX3_removeAt 56 = .ok (.return_, 1) := by decide +kernel
theorem dX3_keepLatest_0 : decode cX3_keepLatest 0 = .ok (.iconst 0, 1) := by decide +kernel
theorem dX3_keepLatest_1 : decode cX3_keepLatest 1 = .ok (.istore_n 2, 1) := by decide +kernel
theorem dX3_keepLatest_2 : decode cX3_keepLatest 2 = .ok (.iload_n 2, 1) := by decide +kernel
theorem dX3_keepLatest_3 : decode cX3_keepLatest 3 = .ok (.bipush 6, 2) := by decide +kernel
theorem dX3_keepLatest_5 : decode cX3_keepLatest 5 = .ok (.if_icmp .ge 22, 3) := by decide +kernel
theorem dX3_keepLatest_8 : decode cX3_keepLatest 8 = .ok (.aload_n 0, 1) := by decide +kernel
theorem dX3_keepLatest_9 : decode cX3_keepLatest 9 = .ok (.getfield 15, 3) := by decide +kernel
theorem dX3_keepLatest_12 : decode cX3_keepLatest 12 = .ok (.iload_n 1, 1) := by decide +kernel
theorem dX3_keepLatest_13 : decode cX3_keepLatest 13 = .ok (.if_icmp .le 14, 3) := by decide +kernel
theorem dX3_keepLatest_16 : decode cX3_keepLatest 16 = .ok (.aload_n 0, 1) := by decide +kernel
theorem dX3_keepLatest_17 : decode cX3_keepLatest 17 = .ok (.iconst 0, 1) := by decide +kernel
theorem dX3_keepLatest_18 : decode cX3_keepLatest 18 = .ok (.invokevirtual 35, 3) := by decide +kernel
theorem dX3_keepLatest_21 : decode cX3_keepLatest 21 = .ok (.iinc 2 1, 3) := by decide +kernel
theorem dX3_keepLatest_24 : decode cX3_keepLatest 24 = .ok (.goto (-22), 3) := by decide +kernel
theorem dX3_keepLatest_27 : decode cX3_keepLatest 27 = .ok (.return_, 1) := by decide +kernel
theorem dX3_takeOver_0 : decode cX3_takeOver 0 = .ok (.aload_n 1, 1) := by decide +kernel
theorem dX3_takeOver_1 : decode cX3_takeOver 1 = .ok (.getfield 9, 3) := by decide +kernel
theorem dX3_takeOver_4 : decode cX3_takeOver 4 = .ok (.aload_n 0, 1) := by decide +kernel
theorem dX3_takeOver_5 : decode cX3_takeOver 5 = .ok (.getfield 9, 3) := by decide +kernel
theorem dX3_takeOver_8 : decode cX3_takeOver 8 = .ok (.invokestatic 39, 3) := by decide +kernel
theorem dX3_takeOver_11 : decode cX3_takeOver 11 = .ok (.aload_n 0, 1) := by decide +kernel
theorem dX3_takeOver_12 : decode cX3_takeOver 12 = .ok (.aload_n 1, 1) := by decide +kernel
theorem dX3_takeOver_13 : decode cX3_takeOver 13 = .ok (.getfield 15, 3) := by decide +kernel
theorem dX3_takeOver_16 : decode cX3_takeOver 16 = .ok (.putfield 15, 3) := by decide +kernel
theorem dX3_takeOver_19 : decode cX3_takeOver 19 = .ok (.return_, 1) := by decide +kernel
theorem dX4_init_0 : decode cX4_init 0 = .ok (.aload_n 0, 1) := by decide +kernel
theorem dX4_init_1 : decode cX4_init 1 = .ok (.invokespecial 3, 3) := by decide +kernel
theorem dX4_init_4 : decode cX4_init 4 = .ok (.aload_n 0, 1) := by decide +kernel
theorem dX4_init_5 : decode cX4_init 5 = .ok (.iconst 2, 1) := by decide +kernel
theorem dX4_init_6 : decode cX4_init 6 = .ok (.anewarray 9, 3) := by decide +kernel
theorem dX4_init_9 : decode cX4_init 9 = .ok (.putfield 11, 3) := by decide +kernel
theorem dX4_init_12 : decode cX4_init 12 = .ok (.aload_n 0, 1) := by decide +kernel
theorem dX4_init_13 : decode cX4_init 13 = .ok (.iconst 2, 1) := by decide +kernel
theorem dX4_init_14 : decode cX4_init 14 = .ok (.newarray .boolean, 2) := by decide +kernel
theorem dX4_init_16 : decode cX4_init 16 = .ok (.putfield 17, 3) := by decide +kernel
theorem dX4_init_19 : decode cX4_init 19 = .ok (.iconst 0, 1) := by decide +kernel
theorem dX4_init_20 : decode cX4_init 20 = .ok (.istore_n 1, 1) := by decide +kernel
theorem dX4_init_21 : decode cX4_init 21 = .ok (.iload_n 1, 1) := by decide +kernel
theorem dX4_init_22 : decode cX4_init 22 = .ok (.aload_n 0, 1) := by decide +kernel
theorem dX4_init_23 : decode cX4_init 23 = .ok (.getfield 11, 3) := by decide +kernel
theorem dX4_init_26 : decode cX4_init 26 = .ok (.arraylength, 1) := by decide +kernel
theorem dX4_init_27 : decode cX4_init 27 = .ok (.if_icmp .ge 22, 3) := by decide +kernel
theorem dX4_init_30 : decode cX4_init 30 = .ok (.aload_n 0, 1) := by decide +kernel
theorem dX4_init_31 : decode cX4_init 31 = .ok (.getfield 11, 3) := by decide +kernel
theorem dX4_init_34 : decode cX4_init 34 = .ok (.iload_n 1, 1) := by decide +kernel
theorem dX4_init_35 : decode cX4_init 35 = .ok (.new 9, 3) := by decide +kernel
theorem dX4_init_38 : decode cX4_init 38 = .ok (.dup, 1) := by decide +kernel
theorem dX4_init_39 : decode cX4_init 39 = .ok (.invokespecial 21, 3) := by decide +kernel
theorem dX4_init_42 : decode cX4_init 42 = .ok (.aastore, 1) := by decide +kernel
theorem dX4_init_43 : decode cX4_init 43 = .ok (.iinc 1 1, 3) := by decide +kernel
theorem dX4_init_46 : decode cX4_init 46 = .ok (.goto (-25), 3) := by decide +kernel
theorem dX4_init_49 : decode cX4_init 49 = .ok (.return_, 1) := by decide +kernel
