theorem dX2_addLine_0 : decode cX2_addLine 0 = .ok (.aload_n 0, 1) := by decide +kernel
theorem dX2_addLine_1 : decode cX2_addLine 1 = .ok (.getfield 9, 3) := by decide +kernel
theorem dX2_addLine_4 : decode cX2_addLine 4 = .ok (.ifCond .lt 55, 3) := by decide +kernel
theorem dX2_addLine_7 : decode cX2_addLine 7 = .ok (.aload_n 0, 1) := by decide +kernel
theorem dX2_addLine_8 : decode cX2_addLine 8 = .ok (.getfield 9, 3) := by decide +kernel
theorem dX2_addLine_11 : decode cX2_addLine 11 = .ok (.bipush 12, 2) := by decide +kernel
theorem dX2_addLine_13 : decode cX2_addLine 13 = .ok (.if_icmp .ge 46, 3) := by decide +kernel
theorem dX2_addLine_16 : decode cX2_addLine 16 = .ok (.aload_n 0, 1) := by decide +kernel
theorem dX2_addLine_17 : decode cX2_addLine 17 = .ok (.getfield 15, 3) := by decide +kernel
theorem dX2_addLine_20 : decode cX2_addLine 20 = .ok (.aload_n 0, 1) := by decide +kernel
theorem dX2_addLine_21 : decode cX2_addLine 21 = .ok (.getfield 9, 3) := by decide +kernel
theorem dX2_addLine_24 : decode cX2_addLine 24 = .ok (.iload_n 1, 1) := by decide +kernel
theorem dX2_addLine_25 : decode cX2_addLine 25 = .ok (.iastore, 1) := by decide +kernel
theorem dX2_addLine_26 : decode cX2_addLine 26 = .ok (.aload_n 0, 1) := by decide +kernel
theorem dX2_addLine_27 : decode cX2_addLine 27 = .ok (.getfield 19, 3) := by decide +kernel
theorem dX2_addLine_30 : decode cX2_addLine 30 = .ok (.aload_n 0, 1) := by decide +kernel
theorem dX2_addLine_31 : decode cX2_addLine 31 = .ok (.getfield 9, 3) := by decide +kernel
theorem dX2_addLine_34 : decode cX2_addLine 34 = .ok (.iload_n 2, 1) := by decide +kernel
theorem dX2_addLine_35 : decode cX2_addLine 35 = .ok (.iastore, 1) := by decide +kernel
theorem dX2_addLine_36 : decode cX2_addLine 36 = .ok (.aload_n 0, 1) := by decide +kernel
theorem dX2_addLine_37 : decode cX2_addLine 37 = .ok (.getfield 22, 3) := by decide +kernel
theorem dX2_addLine_40 : decode cX2_addLine 40 = .ok (.aload_n 0, 1) := by decide +kernel
theorem dX2_addLine_41 : decode cX2_addLine 41 = .ok (.getfield 9, 3) := by decide +kernel
theorem dX2_addLine_44 : decode cX2_addLine 44 = .ok (.aload_n 0, 1) := by decide +kernel
theorem dX2_addLine_45 : decode cX2_addLine 45 = .ok (.getfield 34, 3) := by decide +kernel
theorem dX2_addLine_48 : decode cX2_addLine 48 = .ok (.iastore, 1) := by decide +kernel
theorem dX2_addLine_49 : decode cX2_addLine 49 = .ok (.aload_n 0, 1) := by decide +kernel
theorem dX2_addLine_50 : decode cX2_addLine 50 = .ok (.dup, 1) := by decide +kernel
theorem dX2_addLine_51 : decode cX2_addLine 51 = .ok (.getfield 9, 3) := by decide +kernel
theorem dX2_addLine_54 : decode cX2_addLine 54 = .ok (.iconst 1, 1) := by decide +kernel
theorem dX2_addLine_55 : decode cX2_addLine 55 = .ok (.iadd, 1) := by decide +kernel
theorem dX2_addLine_56 : decode cX2_addLine 56 = .ok (.putfield 9, 3) := by decide +kernel
theorem dX2_addLine_59 : decode cX2_addLine 59 = .ok (.return_, 1) := by decide +kernel
theorem dX3_readsLine_93 : decode cX3_readsLine 93 = .ok (.aload_n 0, 1) := by decide +kernel
theorem dX3_readsLine_94 : decode cX3_readsLine 94 = .ok (.getfield 15, 3) := by decide +kernel
theorem dX3_readsLine_97 : decode cX3_readsLine 97 = .ok (.sipush 294, 3) := by decide +kernel
theorem dX3_readsLine_100 : decode cX3_readsLine 100 = .ok (.invokevirtual 20, 3) := by decide +kernel
theorem dX3_readsLine_103 : decode cX3_readsLine 103 = .ok (.ifCond .eq 11, 3) := by decide +kernel
theorem dX3_readsLine_114 : decode cX3_readsLine 114 = .ok (.iconst 1, 1) := by decide +kernel
theorem dX3_readsLine_115 : decode cX3_readsLine 115 = .ok (.goto 4, 3) := by decide +kernel
theorem dX3_readsLine_119 : decode cX3_readsLine 119 = .ok (.ireturn, 1) := by decide +kernel
theorem dX3_readsLine_106 : decode cX3_readsLine 106 = .ok (.aload_n 0, 1) := by decide +kernel
theorem dX3_readsLine_107 : decode cX3_readsLine 107 = .ok (.iconst 0, 1) := by decide +kernel
theorem dX3_readsLine_108 : decode cX3_readsLine 108 = .ok (.invokevirtual 38, 3) := by decide +kernel
theorem dX3_readsLine_111 : decode cX3_readsLine 111 = .ok (.ifCond .eq 7, 3) := by decide +kernel
theorem dX3_readsLine_118 : decode cX3_readsLine 118 = .ok (.iconst 0, 1) := by decide +kernel
theorem dX3_readsLine_57 : decode cX3_readsLine 57 = .ok (.istore_n 1, 1) := by decide +kernel
theorem dX3_readsLine_58 : decode cX3_readsLine 58 = .ok (.iload_n 1, 1) := by decide +kernel
theorem dX3_readsLine_59 : decode cX3_readsLine 59 = .ok (.iconst (-1), 1) := by decide +kernel
theorem dX3_readsLine_60 : decode cX3_readsLine 60 = .ok (.if_icmp .ne 7, 3) := by decide +kernel
theorem dX3_readsLine_67 : decode cX3_readsLine 67 = .ok (.aload_n 0, 1) := by decide +kernel
theorem dX3_readsLine_68 : decode cX3_readsLine 68 = .ok (.getfield 15, 3) := by decide +kernel
theorem dX3_readsLine_71 : decode cX3_readsLine 71 = .ok (.bipush 60, 2) := by decide +kernel
theorem dX3_readsLine_73 : decode cX3_readsLine 73 = .ok (.invokevirtual 34, 3) := by decide +kernel
theorem dX3_readsLine_76 : decode cX3_readsLine 76 = .ok (.istore_n 2, 1) := by decide +kernel
theorem dX3_readsLine_77 : decode cX3_readsLine 77 = .ok (.iload_n 2, 1) := by decide +kernel
theorem dX3_readsLine_78 : decode cX3_readsLine 78 = .ok (.iconst (-1), 1) := by decide +kernel
theorem dX3_readsLine_79 : decode cX3_readsLine 79 = .ok (.if_icmp .ne 5, 3) := by decide +kernel
theorem dX3_readsLine_82 : decode cX3_readsLine 82 = .ok (.iconst 0, 1) := by decide +kernel
theorem dX3_readsLine_83 : decode cX3_readsLine 83 = .ok (.ireturn, 1) := by decide +kernel
theorem dX3_readsLine_84 : decode cX3_readsLine 84 = .ok (.aload_n 0, 1) := by decide +kernel
theorem dX3_readsLine_85 : decode cX3_readsLine 85 = .ok (.getfield 9, 3) := by decide +kernel
theorem dX3_readsLine_88 : decode cX3_readsLine 88 = .ok (.iload_n 1, 1) := by decide +kernel
theorem dX3_readsLine_89 : decode cX3_readsLine 89 = .ok (.iload_n 2, 1) := by decide +kernel
theorem dX3_readsLine_90 : decode cX3_readsLine 90 = .ok (.invokevirtual 26, 3) := by decide +kernel
theorem dX3_readsLine_0 : decode cX3_readsLine 0 = .ok (.aload_n 0, 1) := by decide +kernel
theorem dX3_readsLine_1 : decode cX3_readsLine 1 = .ok (.getfield 15, 3) := by decide +kernel
theorem dX3_readsLine_4 : decode cX3_readsLine 4 = .ok (.ldc 19, 2) := by decide +kernel
theorem dX3_readsLine_6 : decode cX3_readsLine 6 = .ok (.invokevirtual 20, 3) := by decide +kernel
theorem dX3_readsLine_9 : decode cX3_readsLine 9 = .ok (.ifCond .eq 15, 3) := by decide +kernel
theorem dX3_readsLine_12 : decode cX3_readsLine 12 = .ok (.aload_n 0, 1) := by decide +kernel
theorem dX3_readsLine_13 : decode cX3_readsLine 13 = .ok (.getfield 9, 3) := by decide +kernel
theorem dX3_readsLine_16 : decode cX3_readsLine 16 = .ok (.iconst 2, 1) := by decide +kernel
theorem dX3_readsLine_17 : decode cX3_readsLine 17 = .ok (.iconst 1, 1) := by decide +kernel
theorem dX3_readsLine_18 : decode cX3_readsLine 18 = .ok (.invokevirtual 26, 3) := by decide +kernel
theorem dX3_readsLine_21 : decode cX3_readsLine 21 = .ok (.goto 72, 3) := by decide +kernel
theorem dX3_readsLine_24 : decode cX3_readsLine 24 = .ok (.aload_n 0, 1) := by decide +kernel
theorem dX3_readsLine_25 : decode cX3_readsLine 25 = .ok (.getfield 15, 3) := by decide +kernel
theorem dX3_readsLine_28 : decode cX3_readsLine 28 = .ok (.ldc 32, 2) := by decide +kernel
theorem dX3_readsLine_30 : decode cX3_readsLine 30 = .ok (.invokevirtual 20, 3) := by decide +kernel
theorem dX3_readsLine_33 : decode cX3_readsLine 33 = .ok (.ifCond .eq 7, 3) := by decide +kernel
theorem dX3_readsLine_36 : decode cX3_readsLine 36 = .ok (.iconst 0, 1) := by decide +kernel
theorem dX3_readsLine_37 : decode cX3_readsLine 37 = .ok (.goto 20, 3) := by decide +kernel
theorem dX3_readsLine_40 : decode cX3_readsLine 40 = .ok (.aload_n 0, 1) := by decide +kernel
theorem dX3_readsLine_41 : decode cX3_readsLine 41 = .ok (.getfield 15, 3) := by decide +kernel
theorem dX3_readsLine_44 : decode cX3_readsLine 44 = .ok (.ldc 33, 2) := by decide +kernel
theorem dX3_readsLine_46 : decode cX3_readsLine 46 = .ok (.invokevirtual 20, 3) := by decide +kernel
theorem dX3_readsLine_49 : decode cX3_readsLine 49 = .ok (.ifCond .eq 7, 3) := by decide +kernel
theorem dX3_readsLine_52 : decode cX3_readsLine 52 = .ok (.iconst 1, 1) := by decide +kernel
theorem dX3_readsLine_53 : decode cX3_readsLine 53 = .ok (.goto 4, 3) := by decide +kernel
theorem dX3_readsLine_56 : decode cX3_readsLine 56 = .ok (.iconst (-1), 1) := by decide +kernel
theorem dX3_readsLine_63 : decode cX3_readsLine 63 = .ok (.iconst (-1), 1) := by decide +kernel
theorem dX3_readsLine_64 : decode cX3_readsLine 64 = .ok (.goto 12, 3) := by decide +kernel
theorem dX8_begin_0 : decode cX8_begin 0 = .ok (.aload_n 0, 1) := by decide +kernel
theorem dX8_begin_1 : decode cX8_begin 1 = .ok (.iconst 0, 1) := by decide +kernel
theorem dX8_begin_2 : decode cX8_begin 2 = .ok (.putfield 19, 3) := by decide +kernel
theorem dX8_begin_5 : decode cX8_begin 5 = .ok (.aload_n 0, 1) := by decide +kernel
theorem dX8_begin_6 : decode cX8_begin 6 = .ok (.invokevirtual 22, 3) := by decide +kernel
theorem dX8_begin_9 : decode cX8_begin 9 = .ok (.return_, 1) := by decide +kernel
theorem dX8_isAtEnd_0 : decode cX8_isAtEnd 0 = .ok (.aload_n 0, 1) := by decide +kernel
theorem dX8_isAtEnd_1 : decode cX8_isAtEnd 1 = .ok (.getfield 25, 3) := by decide +kernel
theorem dX8_isAtEnd_4 : decode cX8_isAtEnd 4 = .ok (.aload_n 0, 1) := by decide +kernel
theorem dX8_isAtEnd_5 : decode cX8_isAtEnd 5 = .ok (.getfield 15, 3) := by decide +kernel
theorem dX8_isAtEnd_8 : decode cX8_isAtEnd 8 = .ok (.if_icmp .lt 7, 3) := by decide +kernel
theorem dX8_isAtEnd_15 : decode cX8_isAtEnd 15 = .ok (.iconst 0, 1) := by decide +kernel
theorem dX8_isAtEnd_16 : decode cX8_isAtEnd 16 = .ok (.ireturn, 1) := by decide +kernel
theorem dX8_isAtEnd_11 : decode cX8_isAtEnd 11 = .ok (.iconst 1, 1) := by decide +kernel
theorem dX8_isAtEnd_12 : decode cX8_isAtEnd 12 = .ok (.goto 4, 3) := by decide +kernel
theorem dX4_readsText_21 : decode cX4_readsText 21 = .ok (.iload_n 1, 1) := by decide +kernel
theorem dX4_readsText_22 : decode cX4_readsText 22 = .ok (.aload_n 0, 1) := by decide +kernel
theorem dX4_readsText_23 : decode cX4_readsText 23 = .ok (.getfield 13, 3) := by decide +kernel
theorem dX4_readsText_26 : decode cX4_readsText 26 = .ok (.if_icmp .ge 44, 3) := by decide +kernel
theorem dX4_readsText_70 : decode cX4_readsText 70 = .ok (.iconst 0, 1) := by decide +kernel
theorem dX4_readsText_71 : decode cX4_readsText 71 = .ok (.ireturn, 1) := by decide +kernel
theorem dX4_readsText_29 : decode cX4_readsText 29 = .ok (.aload_n 0, 1) := by decide +kernel
theorem dX4_readsText_30 : decode cX4_readsText 30 = .ok (.invokevirtual 26, 3) := by decide +kernel
theorem dX4_readsText_33 : decode cX4_readsText 33 = .ok (.ifCond .ne 5, 3) := by decide +kernel
theorem dX4_readsText_36 : decode cX4_readsText 36 = .ok (.iconst 0, 1) := by decide +kernel
theorem dX4_readsText_37 : decode cX4_readsText 37 = .ok (.ireturn, 1) := by decide +kernel
theorem dX4_readsText_38 : decode cX4_readsText 38 = .ok (.aload_n 0, 1) := by decide +kernel
theorem dX4_readsText_39 : decode cX4_readsText 39 = .ok (.getfield 7, 3) := by decide +kernel
theorem dX4_readsText_42 : decode cX4_readsText 42 = .ok (.invokevirtual 22, 3) := by decide +kernel
theorem dX4_readsText_45 : decode cX4_readsText 45 = .ok (.ifCond .eq 5, 3) := by decide +kernel
theorem dX4_readsText_48 : decode cX4_readsText 48 = .ok (.iconst 1, 1) := by decide +kernel
theorem dX4_readsText_49 : decode cX4_readsText 49 = .ok (.ireturn, 1) := by decide +kernel
theorem dX4_readsText_50 : decode cX4_readsText 50 = .ok (.aload_n 0, 1) := by decide +kernel
theorem dX4_readsText_51 : decode cX4_readsText 51 = .ok (.getfield 7, 3) := by decide +kernel
theorem dX4_readsText_54 : decode cX4_readsText 54 = .ok (.bipush 59, 2) := by decide +kernel
theorem dX4_readsText_56 : decode cX4_readsText 56 = .ok (.invokevirtual 29, 3) := by decide +kernel
theorem dX4_readsText_59 : decode cX4_readsText 59 = .ok (.ifCond .ne 5, 3) := by decide +kernel
theorem dX4_readsText_62 : decode cX4_readsText 62 = .ok (.iconst 0, 1) := by decide +kernel
theorem dX4_readsText_63 : decode cX4_readsText 63 = .ok (.ireturn, 1) := by decide +kernel
theorem dX4_readsText_64 : decode cX4_readsText 64 = .ok (.iinc 1 1, 3) := by decide +kernel
theorem dX4_readsText_67 : decode cX4_readsText 67 = .ok (.goto (-46), 3) := by decide +kernel
theorem dX4_readsText_0 : decode cX4_readsText 0 = .ok (.aload_n 0, 1) := by decide +kernel
theorem dX4_readsText_1 : decode cX4_readsText 1 = .ok (.getfield 7, 3) := by decide +kernel
theorem dX4_readsText_4 : decode cX4_readsText 4 = .ok (.invokevirtual 17, 3) := by decide +kernel
theorem dX4_readsText_7 : decode cX4_readsText 7 = .ok (.aload_n 0, 1) := by decide +kernel
theorem dX4_readsText_8 : decode cX4_readsText 8 = .ok (.getfield 7, 3) := by decide +kernel
theorem dX4_readsText_11 : decode cX4_readsText 11 = .ok (.invokevirtual 22, 3) := by decide +kernel
theorem dX4_readsText_14 : decode cX4_readsText 14 = .ok (.ifCond .eq 5, 3) := by decide +kernel
theorem dX4_readsText_17 : decode cX4_readsText 17 = .ok (.iconst 1, 1) := by decide +kernel
theorem dX4_readsText_18 : decode cX4_readsText 18 = .ok (.ireturn, 1) := by decide +kernel
theorem dX4_readsText_19 : decode cX4_readsText 19 = .ok (.iconst 0, 1) := by decide +kernel
theorem dX4_readsText_20 : decode cX4_readsText 20 = .ok (.istore_n 1, 1) := by decide +kernel
theorem dX2_clear_0 : decode cX2_clear 0 = .ok (.aload_n 0, 1) := by decide +kernel
theorem dX2_clear_1 : decode cX2_clear 1 = .ok (.iconst 0, 1) := by decide +kernel
theorem dX2_clear_2 : decode cX2_clear 2 = .ok (.putfield 9, 3) := by decide +kernel
theorem dX2_clear_5 : decode cX2_clear 5 = .ok (.aload_n 0, 1) := by decide +kernel
theorem dX2_clear_6 : decode cX2_clear 6 = .ok (.iconst 0, 1) := by decide +kernel
theorem dX2_clear_7 : decode cX2_clear 7 = .ok (.putfield 34, 3) := by decide +kernel
theorem dX2_clear_10 : decode cX2_clear 10 = .ok (.return_, 1) := by decide +kernel
theorem dX2_copyFrom_0 : decode cX2_copyFrom 0 = .ok (.aload_n 0, 1) := by decide +kernel
theorem dX2_copyFrom_1 : decode cX2_copyFrom 1 = .ok (.aload_n 1, 1) := by decide +kernel
theorem dX2_copyFrom_2 : decode cX2_copyFrom 2 = .ok (.getfield 9, 3) := by decide +kernel
theorem dX2_copyFrom_5 : decode cX2_copyFrom 5 = .ok (.putfield 9, 3) := by decide +kernel
theorem dX2_copyFrom_8 : decode cX2_copyFrom 8 = .ok (.aload_n 0, 1) := by decide +kernel
theorem dX2_copyFrom_9 : decode cX2_copyFrom 9 = .ok (.aload_n 1, 1) := by decide +kernel
theorem dX2_copyFrom_10 : decode cX2_copyFrom 10 = .ok (.getfield 34, 3) := by decide +kernel
theorem dX2_copyFrom_13 : decode cX2_copyFrom 13 = .ok (.putfield 34, 3) := by decide +kernel
theorem dX2_copyFrom_16 : decode cX2_copyFrom 16 = .ok (.aload_n 1, 1) := by decide +kernel
theorem dX2_copyFrom_17 : decode cX2_copyFrom 17 = .ok (.getfield 15, 3) := by decide +kernel
theorem dX2_copyFrom_20 : decode cX2_copyFrom 20 = .ok (.iconst 0, 1) := by decide +kernel
theorem dX2_copyFrom_21 : decode cX2_copyFrom 21 = .ok (.aload_n 0, 1) := by decide +kernel
theorem dX2_copyFrom_22 : decode cX2_copyFrom 22 = .ok (.getfield 15, 3) := by decide +kernel
theorem dX2_copyFrom_25 : decode cX2_copyFrom 25 = .ok (.iconst 0, 1) := by decide +kernel
theorem dX2_copyFrom_26 : decode cX2_copyFrom 26 = .ok (.bipush 12, 2) := by decide +kernel
theorem dX2_copyFrom_28 : decode cX2_copyFrom 28 = .ok (.invokestatic 37, 3) := by decide +kernel
theorem dX2_copyFrom_31 : decode cX2_copyFrom 31 = .ok (.aload_n 1, 1) := by decide +kernel
theorem dX2_copyFrom_32 : decode cX2_copyFrom 32 = .ok (.getfield 19, 3) := by decide +kernel
theorem dX2_copyFrom_35 : decode cX2_copyFrom 35 = .ok (.iconst 0, 1) := by decide +kernel
theorem dX2_copyFrom_36 : decode cX2_copyFrom 36 = .ok (.aload_n 0, 1) := by decide +kernel
theorem dX2_copyFrom_37 : decode cX2_copyFrom 37 = .ok (.getfield 19, 3) := by decide +kernel
theorem dX2_copyFrom_40 : decode cX2_copyFrom 40 = .ok (.iconst 0, 1) := by decide +kernel
theorem dX2_copyFrom_41 : decode cX2_copyFrom 41 = .ok (.bipush 12, 2) := by decide +kernel
theorem dX2_copyFrom_43 : decode cX2_copyFrom 43 = .ok (.invokestatic 37, 3) := by decide +kernel
theorem dX2_copyFrom_46 : decode cX2_copyFrom 46 = .ok (.aload_n 1, 1) := by decide +kernel
theorem dX2_copyFrom_47 : decode cX2_copyFrom 47 = .ok (.getfield 22, 3) := by decide +kernel
theorem dX2_copyFrom_50 : decode cX2_copyFrom 50 = .ok (.iconst 0, 1) := by decide +kernel
theorem dX2_copyFrom_51 : decode cX2_copyFrom 51 = .ok (.aload_n 0, 1) := by decide +kernel
theorem dX2_copyFrom_52 : decode cX2_copyFrom 52 = .ok (.getfield 22, 3) := by decide +kernel
theorem dX2_copyFrom_55 : decode cX2_copyFrom 55 = .ok (.iconst 0, 1) := by decide +kernel
theorem dX2_copyFrom_56 : decode cX2_copyFrom 56 = .ok (.bipush 12, 2) := by decide +kernel
theorem dX2_copyFrom_58 : decode cX2_copyFrom 58 = .ok (.invokestatic 37, 3) := by decide +kernel
theorem dX2_copyFrom_61 : decode cX2_copyFrom 61 = .ok (.aload_n 1, 1) := by decide +kernel
theorem dX2_copyFrom_62 : decode cX2_copyFrom 62 = .ok (.getfield 25, 3) := by decide +kernel
theorem dX2_copyFrom_65 : decode cX2_copyFrom 65 = .ok (.iconst 0, 1) := by decide +kernel
theorem dX2_copyFrom_66 : decode cX2_copyFrom 66 = .ok (.aload_n 0, 1) := by decide +kernel
theorem dX2_copyFrom_67 : decode cX2_copyFrom 67 = .ok (.getfield 25, 3) := by decide +kernel
theorem dX2_copyFrom_70 : decode cX2_copyFrom 70 = .ok (.iconst 0, 1) := by decide +kernel
theorem dX2_copyFrom_71 : decode cX2_copyFrom 71 = .ok (.sipush 400, 3) := by decide +kernel
theorem dX2_copyFrom_74 : decode cX2_copyFrom 74 = .ok (.invokestatic 37, 3) := by decide +kernel
theorem dX2_copyFrom_77 : decode cX2_copyFrom 77 = .ok (.return_, 1) := by decide +kernel
theorem dX5_forget_0 : decode cX5_forget 0 = .ok (.aload_n 0, 1) := by decide +kernel
theorem dX5_forget_1 : decode cX5_forget 1 = .ok (.iconst 0, 1) := by decide +kernel
theorem dX5_forget_2 : decode cX5_forget 2 = .ok (.putfield 26, 3) := by decide +kernel
theorem dX5_forget_5 : decode cX5_forget 5 = .ok (.return_, 1) := by decide +kernel
theorem dX9_noteReading_0 : decode cX9_noteReading 0 = .ok (.aload_n 0, 1) := by decide +kernel
theorem dX9_noteReading_1 : decode cX9_noteReading 1 = .ok (.iload_n 1, 1) := by decide +kernel
theorem dX9_noteReading_2 : decode cX9_noteReading 2 = .ok (.ifCond .eq 7, 3) := by decide +kernel
theorem dX9_noteReading_9 : decode cX9_noteReading 9 = .ok (.aload_n 0, 1) := by decide +kernel
theorem dX9_noteReading_10 : decode cX9_noteReading 10 = .ok (.getfield 10, 3) := by decide +kernel
theorem dX9_noteReading_13 : decode cX9_noteReading 13 = .ok (.getfield 134, 3) := by decide +kernel
theorem dX9_noteReading_16 : decode cX9_noteReading 16 = .ok (.putfield 80, 3) := by decide +kernel
theorem dX9_noteReading_19 : decode cX9_noteReading 19 = .ok (.aload_n 0, 1) := by decide +kernel
theorem dX9_noteReading_20 : decode cX9_noteReading 20 = .ok (.getfield 10, 3) := by decide +kernel
theorem dX9_noteReading_23 : decode cX9_noteReading 23 = .ok (.iconst 0, 1) := by decide +kernel
theorem dX9_noteReading_24 : decode cX9_noteReading 24 = .ok (.putfield 84, 3) := by decide +kernel
theorem dX9_noteReading_27 : decode cX9_noteReading 27 = .ok (.return_, 1) := by decide +kernel
theorem dX9_noteReading_5 : decode cX9_noteReading 5 = .ok (.iconst (-1), 1) := by decide +kernel
theorem dX9_noteReading_6 : decode cX9_noteReading 6 = .ok (.goto 10, 3) := by decide +kernel
theorem dX9_law_0 : decode cX9_law 0 = .ok (.aload_n 0, 1) := by decide +kernel
theorem dX9_law_1 : decode cX9_law 1 = .ok (.getfield 39, 3) := by decide +kernel
theorem dX9_law_4 : decode cX9_law 4 = .ok (.invokevirtual 121, 3) := by decide +kernel
theorem dX9_law_7 : decode cX9_law 7 = .ok (.aload_n 0, 1) := by decide +kernel
theorem dX9_law_8 : decode cX9_law 8 = .ok (.getfield 60, 3) := by decide +kernel
theorem dX9_law_11 : decode cX9_law 11 = .ok (.invokevirtual 124, 3) := by decide +kernel
theorem dX9_law_14 : decode cX9_law 14 = .ok (.istore_n 1, 1) := by decide +kernel
theorem dX9_law_15 : decode cX9_law 15 = .ok (.aload_n 0, 1) := by decide +kernel
theorem dX9_law_16 : decode cX9_law 16 = .ok (.iload_n 1, 1) := by decide +kernel
theorem dX9_law_17 : decode cX9_law 17 = .ok (.invokevirtual 99, 3) := by decide +kernel
theorem dX9_law_20 : decode cX9_law 20 = .ok (.iload_n 1, 1) := by decide +kernel
theorem dX9_law_21 : decode cX9_law 21 = .ok (.ifCond .ne 13, 3) := by decide +kernel
theorem dX9_law_34 : decode cX9_law 34 = .ok (.aload_n 0, 1) := by decide +kernel
theorem dX9_law_35 : decode cX9_law 35 = .ok (.getfield 32, 3) := by decide +kernel
theorem dX9_law_38 : decode cX9_law 38 = .ok (.getfield 125, 3) := by decide +kernel
theorem dX9_law_41 : decode cX9_law 41 = .ok (.aload_n 0, 1) := by decide +kernel
theorem dX9_law_42 : decode cX9_law 42 = .ok (.getfield 39, 3) := by decide +kernel
theorem dX9_law_45 : decode cX9_law 45 = .ok (.invokevirtual 128, 3) := by decide +kernel
theorem dX9_law_48 : decode cX9_law 48 = .ok (.aload_n 0, 1) := by decide +kernel
theorem dX9_law_49 : decode cX9_law 49 = .ok (.getfield 76, 3) := by decide +kernel
theorem dX9_law_52 : decode cX9_law 52 = .ok (.invokevirtual 118, 3) := by decide +kernel
theorem dX9_law_55 : decode cX9_law 55 = .ok (.aload_n 0, 1) := by decide +kernel
theorem dX9_law_56 : decode cX9_law 56 = .ok (.getfield 32, 3) := by decide +kernel
theorem dX9_law_59 : decode cX9_law 59 = .ok (.getfield 125, 3) := by decide +kernel
theorem dX9_law_62 : decode cX9_law 62 = .ok (.getfield 131, 3) := by decide +kernel
theorem dX9_law_65 : decode cX9_law 65 = .ok (.ireturn, 1) := by decide +kernel
/-! the class's reader of the law: lines, the text, law itself -/
theorem KF.ts {I J : Hi} {c : Nat → Nat} {e q : Nat} (h : ∀ a, ¬ (23 ≤ a ∧ a ≤ 29) → J a = TQ5 I c e q a) : ∃ K, (∀ a, ¬ (23 ≤ a ∧ a ≤ 29) → K a = I a) ∧ K 23 = J 23 ∧ J = TQ5 K c e q := by
  have h1 : J 1 = TA (I 1) (nI q) (nI (bh c e q)) (wv c e q) (tn c e q) (fs c e q) := by
    rw [h 1 (by decide)]
    show (zset I 1 _) 1 = _
    exact zset_at _ _ _
  refine ⟨zset J 1 (I 1), fun a ha => ?_, zset_ne _ _ (by decide), ?_⟩
  · by_cases z : a = 1
    · subst z; rw [zset_at]
    · rw [zset_ne _ _ z, h a ha, TQ5_ne z]
  · unfold TQ5 TS
    rw [zset_zset, zset_at, ← h1, zset_self]
/-- n lines are written, all but the draft is as it was -/
def KN (I : Hi) (n : Nat) (K : Hi) : Prop := K 23 0 = nI n ∧ ∀ a, ¬ (23 ≤ a ∧ a ≤ 29) → K a = I a
theorem KN.tx {I K : Hi} {c : Nat → Nat} {e n : Nat} (h : KN I n K) (hT : TX I c e) : TX K c e := ⟨hT.1, by rw [h.2 1 (by decide)]; exact hT.2.1, fun i hi => by rw [h.2 2 (by decide)]; exact hT.2.2 i hi⟩
theorem KN.kp {I K L : Hi} {n : Nat} (h : KN I n K) (h2 : KP K L) : KN I n L := ⟨h2.1.trans h.1, fun a ha => (h2.2 a ha).trans (h.2 a ha)⟩
/-- what a reader of a line leaves -/
def CL5 (I : Hi) (c : Nat → Nat) (e n : Nat) (o : Go) (v : Option Value) (J : Hi) : Prop := ∃ K q', J = TQ5 K c e q' ∧ q' ≤ e ∧ (∀ a, ¬ (23 ≤ a ∧ a ≤ 29) → K a = I a) ∧ ((o = .inl q' ∧ v = some (.int (nI 0))) ∨ (o = .inr q' ∧ v = some (.int (nI 1)) ∧ K 23 0 = nI (n + 1)))
def CT5 (I : Hi) (c : Nat → Nat) (e : Nat) (o : Go) (v : Option Value) (J : Hi) : Prop := ∃ K q', J = TQ5 K c e q' ∧ q' ≤ e ∧ (∀ a, ¬ (23 ≤ a ∧ a ≤ 29) → K a = I a) ∧ ((o = .inl q' ∧ v = some (.int (nI 0))) ∨ (∃ n, n ≤ 12 ∧ o = .inr n ∧ v = some (.int (nI 1)) ∧ K 23 0 = nI n))
section Cl8
variable (G : Gx) (d : Nat) {c : Nat → Nat} {e : Nat}
theorem ct_addL0 (I : Hi) (n : Nat) (hn : n < 12) (h0 : I 23 0 = nI n) (x y : Int32) : Ct G GAM mX2_addLine d 0 [.ref 23, .int x, .int y] I (Rv (fun v J => v = none ∧ KN I (n + 1) J)) := by
  refine Ct.mk [some (.ref 23), some (.int x), some (.int y)] ?_
  refine Rn.aload_n dX2_addLine_0 rfl rfl ?_
  refine Rn.getI dX2_addLine_1 fd_X2_9_2 (by first | rfl | exact gC0 (by assumption) | exact gL0 (by assumption)) rfl ?_
  refine Rn.topI (nI n) (by exact h0) ?_
  refine Rn.if_ltN dX2_addLine_4 ?_ 59
  refine Rn.aload_n dX2_addLine_7 rfl rfl ?_
  refine Rn.getI dX2_addLine_8 fd_X2_9_2 (by first | rfl | exact gC0 (by assumption) | exact gL0 (by assumption)) rfl ?_
  refine Rn.topI (nI n) (by exact h0) ?_
  refine Rn.bipush (v := (nI 12)) dX2_addLine_11 rfl ?_
  refine Rn.icmp_geN dX2_addLine_13 59 (fun h9 => by exfalso; omega) (fun _ => ?_)
  refine Rn.aload_n dX2_addLine_16 rfl rfl ?_
  refine Rn.getR dX2_addLine_17 fd_X2_15_2 (by first | rfl | exact gC0 (by assumption) | exact gL0 (by assumption)) rfl ?_
  refine Rn.aload_n dX2_addLine_20 rfl rfl ?_
  refine Rn.getI dX2_addLine_21 fd_X2_9_2 (by first | rfl | exact gC0 (by assumption) | exact gL0 (by assumption)) rfl ?_
  refine Rn.topI (nI n) (by exact h0) ?_
  refine Rn.iload_n dX2_addLine_24 rfl rfl ?_
  refine Rn.iastN dX2_addLine_25 (by first | rfl | exact gC1 (by assumption) | exact gC2 (by assumption) | exact gC3 (by assumption) | exact gL1 (by assumption) | exact gL2 (by assumption) | exact gL3 (by assumption) | exact gL4 (by assumption) | exact gL5 (by assumption) | exact gL6 (by assumption)) ?_
  refine Rn.aload_n dX2_addLine_26 rfl rfl ?_
  refine Rn.getR dX2_addLine_27 fd_X2_19_2 (by first | rfl | exact gC0 (by assumption) | exact gL0 (by assumption)) rfl ?_
  refine Rn.aload_n dX2_addLine_30 rfl rfl ?_
  refine Rn.getI dX2_addLine_31 fd_X2_9_2 (by first | rfl | exact gC0 (by assumption) | exact gL0 (by assumption)) rfl ?_
  refine Rn.topI (nI n) (by rw [zup_ne _ _ (by decide)]; exact h0) ?_
  refine Rn.iload_n dX2_addLine_34 rfl rfl ?_
  refine Rn.iastN dX2_addLine_35 (by first | rfl | exact gC1 (by assumption) | exact gC2 (by assumption) | exact gC3 (by assumption) | exact gL1 (by assumption) | exact gL2 (by assumption) | exact gL3 (by assumption) | exact gL4 (by assumption) | exact gL5 (by assumption) | exact gL6 (by assumption)) ?_
  refine Rn.aload_n dX2_addLine_36 rfl rfl ?_
  refine Rn.getR dX2_addLine_37 fd_X2_22_2 (by first | rfl | exact gC0 (by assumption) | exact gL0 (by assumption)) rfl ?_
  refine Rn.aload_n dX2_addLine_40 rfl rfl ?_
  refine Rn.getI dX2_addLine_41 fd_X2_9_2 (by first | rfl | exact gC0 (by assumption) | exact gL0 (by assumption)) rfl ?_
  refine Rn.topI (nI n) (by rw [zup_ne _ _ (by decide), zup_ne _ _ (by decide)]; exact h0) ?_
  refine Rn.aload_n dX2_addLine_44 rfl rfl ?_
  refine Rn.getI dX2_addLine_45 fd_X2_34_2 (by first | rfl | exact gC0 (by assumption) | exact gL0 (by assumption)) rfl ?_
  refine Rn.iastN dX2_addLine_48 (by first | rfl | exact gC1 (by assumption) | exact gC2 (by assumption) | exact gC3 (by assumption) | exact gL1 (by assumption) | exact gL2 (by assumption) | exact gL3 (by assumption) | exact gL4 (by assumption) | exact gL5 (by assumption) | exact gL6 (by assumption)) ?_
  refine Rn.aload_n dX2_addLine_49 rfl rfl ?_
  refine Rn.dup dX2_addLine_50 rfl ?_
  refine Rn.getI dX2_addLine_51 fd_X2_9_2 (by first | rfl | exact gC0 (by assumption) | exact gL0 (by assumption)) rfl ?_
  refine Rn.topI (nI n) (by rw [zup_ne _ _ (by decide), zup_ne _ _ (by decide), zup_ne _ _ (by decide)]; exact h0) ?_
  refine Rn.iconst (v := (nI 1)) dX2_addLine_54 rfl ?_
  refine Rn.iadd dX2_addLine_55 ?_
  refine Rn.topI (nI (n + 1)) (by exact nI_1 n) ?_
  refine Rn.putI dX2_addLine_56 fp_X2_9_2 (by first | rfl | exact gC0 (by assumption) | exact gL0 (by assumption)) rfl ?_
  exact Rn.vret dX2_addLine_59 rfl (⟨rfl, by rw [zup_at, upd_at], fun a ha => by rw [zup_ne _ _ (by omega), zup_ne _ _ (by omega), zup_ne _ _ (by omega), zup_ne _ _ (by omega)]⟩)
theorem ct_addL (I K : Hi) (n q : Nat) (hn : n < 12) (hK : KN I n K) (x y : Int32) : Ct G GAM mX2_addLine d 0 [.ref 23, .int x, .int y] (TQ5 K c e q) (Rv (fun v J => v = none ∧ ∃ K', KN I (n + 1) K' ∧ J = TQ5 K' c e q)) :=
  (ct_addL0 G d (TQ5 K c e q) n hn (by rw [TQ5_ne (by decide)]; exact hK.1) x y).weak (fun o J h => by
    cases o with
    | inr E => exact h.elim
    | inl v =>
      obtain ⟨L, h1, h2, h3⟩ := KF.ts h.2.2
      exact ⟨h.1, L, ⟨by rw [h2]; exact h.2.1, fun a ha => (h1 a ha).trans (hK.2 a ha)⟩, h3⟩)
theorem cl_lt (I : Hi) (n : Nat) (hT : TX I c e) (o : Go) (x1 x2 : Option Value) (K : Hi) (q : Nat) (hK : KN I (n + 1) K) (hq : q ≤ e) (ho : (if wv c e q = 294 then gAny c e (gAtom c e 6) (nx c e q) else .inr q) = o) : Rn G GAM mX3_readsLine (kM G GAM (Rv (CL5 I c e n o))) (d + 23) 0 93 [some (.ref 38), x1, x2] [] (TQ5 K c e q) := by
  refine Rn.aload_n dX3_readsLine_93 rfl rfl ?_
  refine Rn.getR dX3_readsLine_94 fd_X3_15_3 (by first | rfl | exact gC0 (by assumption) | exact gL0 (by assumption)) rfl ?_
  refine Rn.sipush (v := (nI 294)) dX3_readsLine_97 rfl ?_
  refine Rn.callV (As := [_]) dX3_readsLine_100 mv_X3_20 (by first | rfl | exact gC0 (by assumption) | exact gL0 (by assumption)) rfl rfl rfl (Nat.le_of_ble_eq_true rfl) (ct_tkW G (d + 21) K (hK.tx hT) _ q (by decide)) (fun _ _ h => h) (fun v J h => ?_)
  rcases h with ⟨h1, rfl, rfl⟩ | ⟨h1, h2, rfl, rfl⟩
  · have h1 : wv c e q ≠ 294 := h1
    rw [if_neg h1] at ho
    refine Rn.if_eq (tgt := 114) dX3_readsLine_103 (by decide) (fun _ => ?_) (fun h9 => absurd h9 (by decide))
    refine Rn.iconst (v := (nI 1)) dX3_readsLine_114 rfl ?_
    refine Rn.goto 119 dX3_readsLine_115 (by decide) ?_
    exact Rn.zret dX3_readsLine_119 rfl rfl (⟨K, q, rfl, hq, hK.2, Or.inr ⟨ho.symm, rfl, hK.1⟩⟩)
  · have h1 : wv c e q = 294 := h1
    rw [if_pos h1] at ho
    refine Rn.if_eq (tgt := 114) dX3_readsLine_103 (by decide) (fun h9 => absurd h9 (by decide)) (fun _ => ?_)
    refine Rn.aload_n dX3_readsLine_106 rfl rfl ?_
    refine Rn.iconst (v := (nI 0)) dX3_readsLine_107 rfl ?_
    refine Rn.callV (As := [_]) dX3_readsLine_108 mv_X3_38 (by first | rfl | exact gC0 (by assumption) | exact gL0 (by assumption)) rfl rfl rfl (Nat.le_of_ble_eq_true rfl) (cl_any0 G d c e K (nx c e q) (hK.tx hT) (nx_le h2)) (fun _ _ h => h) (fun v J h => ?_)
    obtain ⟨K2, q2, hK2, rfl, hq2, ⟨hn, rfl⟩ | ⟨hn, rfl⟩⟩ := h
    · refine Rn.if_eq (tgt := 118) dX3_readsLine_111 (by decide) (fun _ => ?_) (fun h9 => absurd h9 (by decide))
      refine Rn.iconst (v := (nI 0)) dX3_readsLine_118 rfl ?_
      exact Rn.zret dX3_readsLine_119 rfl rfl (⟨K2, q2, rfl, hq2, (hK.kp hK2).2, Or.inl ⟨ho.symm.trans hn, rfl⟩⟩)
    · refine Rn.if_eq (tgt := 118) dX3_readsLine_111 (by decide) (fun h9 => absurd h9 (by decide)) (fun _ => ?_)
      refine Rn.iconst (v := (nI 1)) dX3_readsLine_114 rfl ?_
      refine Rn.goto 119 dX3_readsLine_115 (by decide) ?_
      exact Rn.zret dX3_readsLine_119 rfl rfl (⟨K2, q2, rfl, hq2, (hK.kp hK2).2, Or.inr ⟨ho.symm.trans hn, rfl, (hK.kp hK2).1⟩⟩)
theorem cl_num (I : Hi) (n : Nat) (hn : n < 12) (hT : TX I c e) (h0 : I 23 0 = nI n) (o : Go) (x1 x2 : Option Value) (k q : Nat) (hk : k < 2) (hq : q ≤ e) (ho : gB (gNum c e (nI 60) q) (fun q1 => if wv c e q1 = 294 then gAny c e (gAtom c e 6) (nx c e q1) else .inr q1) = o) : Rn G GAM mX3_readsLine (kM G GAM (Rv (CL5 I c e n o))) (d + 23) 0 57 [some (.ref 38), x1, x2] [.int (nI k)] (TQ5 I c e q) := by
  refine Rn.istore_n dX3_readsLine_57 rfl (by decide) ?_
  refine Rn.iload_n dX3_readsLine_58 rfl rfl ?_
  refine Rn.iconst (v := (-1)) dX3_readsLine_59 rfl ?_
  refine Rn.icmp_ne (tgt := 67) dX3_readsLine_60 (by decide) (fun _ => ?_) (fun h9 => by exfalso; exact nk_ne (k := k) (by omega) h9)
  refine Rn.aload_n dX3_readsLine_67 rfl rfl ?_
  refine Rn.getR dX3_readsLine_68 fd_X3_15_3 (by first | rfl | exact gC0 (by assumption) | exact gL0 (by assumption)) rfl ?_
  refine Rn.bipush (v := (nI 60)) dX3_readsLine_71 rfl ?_
  refine Rn.callV (As := [_]) dX3_readsLine_73 mv_X3_34 (by first | rfl | exact gC0 (by assumption) | exact gL0 (by assumption)) rfl rfl rfl (Nat.le_of_ble_eq_true rfl) (ct_tkN G (d + 21) I hT (nI 60) q) (fun _ _ h => h) (fun v J h => ?_)
  rcases h with ⟨h1, rfl, rfl⟩ | ⟨x, h1, h2, h3, rfl, rfl⟩
  · rw [gB_l h1] at ho
    refine Rn.istore_n dX3_readsLine_76 rfl (by decide) ?_
    refine Rn.iload_n dX3_readsLine_77 rfl rfl ?_
    refine Rn.iconst (v := (-1)) dX3_readsLine_78 rfl ?_
    refine Rn.icmp_ne (tgt := 84) dX3_readsLine_79 (by decide) (fun h9 => absurd h9 (by decide)) (fun _ => ?_)
    refine Rn.iconst (v := (nI 0)) dX3_readsLine_82 rfl ?_
    exact Rn.zret dX3_readsLine_83 rfl rfl (⟨I, q, rfl, hq, fun _ _ => rfl, Or.inl ⟨ho.symm, rfl⟩⟩)
  · rw [gB_r h1] at ho
    refine Rn.istore_n dX3_readsLine_76 rfl (by decide) ?_
    refine Rn.iload_n dX3_readsLine_77 rfl rfl ?_
    refine Rn.iconst (v := (-1)) dX3_readsLine_78 rfl ?_
    refine Rn.icmp_ne (tgt := 84) dX3_readsLine_79 (by decide) (fun _ => ?_) (fun h9 => by exfalso; exact h3 h9)
    refine Rn.aload_n dX3_readsLine_84 rfl rfl ?_
    refine Rn.getR dX3_readsLine_85 fd_X3_9_3 (by first | rfl | exact gC0 (by assumption) | exact gL0 (by assumption)) rfl ?_
    refine Rn.iload_n dX3_readsLine_88 rfl rfl ?_
    refine Rn.iload_n dX3_readsLine_89 rfl rfl ?_
    refine Rn.callV (As := [_, _]) dX3_readsLine_90 mv_X3_26 (by first | rfl | exact gC0 (by assumption) | exact gL0 (by assumption)) rfl rfl rfl (Nat.le_of_ble_eq_true rfl) (ct_addL G (d + 22) I I n _ hn ⟨h0, fun _ _ => rfl⟩ _ _) (fun _ _ h => h) (fun v J h => ?_)
    obtain ⟨rfl, K2, hK2, rfl⟩ := h
    exact cl_lt G d I n hT o _ _ K2 _ hK2 (nx_le h2) ho
theorem cl_line (I : Hi) (n : Nat) (hn : n < 12) (hT : TX I c e) (h0 : I 23 0 = nI n) (q : Nat) (hq : q ≤ e) : Ct G GAM mX3_readsLine (d + 23) 0 [.ref 38] (TQ5 I c e q) (Rv (CL5 I c e n (gLine c e q))) := by
  refine Ct.mk [some (.ref 38), none, none] ?_
  refine Rn.aload_n dX3_readsLine_0 rfl rfl ?_
  refine Rn.getR dX3_readsLine_1 fd_X3_15_3 (by first | rfl | exact gC0 (by assumption) | exact gL0 (by assumption)) rfl ?_
  refine Rn.ldc dX3_readsLine_4 kc_X3_19 ?_
  refine Rn.callV (As := [_]) dX3_readsLine_6 mv_X3_20 (by first | rfl | exact gC0 (by assumption) | exact gL0 (by assumption)) rfl rfl rfl (Nat.le_of_ble_eq_true rfl) (ct_tkW G (d + 21) I hT _ q (by decide)) (fun _ _ h => h) (fun v J h => ?_)
  rcases h with ⟨h1, rfl, rfl⟩ | ⟨h1, h2, rfl, rfl⟩
  rotate_left
  · refine Rn.if_eq (tgt := 24) dX3_readsLine_9 (by decide) (fun h9 => absurd h9 (by decide)) (fun _ => ?_)
    refine Rn.aload_n dX3_readsLine_12 rfl rfl ?_
    refine Rn.getR dX3_readsLine_13 fd_X3_9_3 (by first | rfl | exact gC0 (by assumption) | exact gL0 (by assumption)) rfl ?_
    refine Rn.iconst (v := (nI 2)) dX3_readsLine_16 rfl ?_
    refine Rn.iconst (v := (nI 1)) dX3_readsLine_17 rfl ?_
    refine Rn.callV (As := [_, _]) dX3_readsLine_18 mv_X3_26 (by first | rfl | exact gC0 (by assumption) | exact gL0 (by assumption)) rfl rfl rfl (Nat.le_of_ble_eq_true rfl) (ct_addL G (d + 22) I I n _ hn ⟨h0, fun _ _ => rfl⟩ _ _) (fun _ _ h => h) (fun v J h => ?_)
    obtain ⟨rfl, K2, hK2, rfl⟩ := h
    refine Rn.goto 93 dX3_readsLine_21 (by decide) ?_
    exact cl_lt G d I n hT _ _ _ K2 _ hK2 (nx_le h2) (by unfold gLine; rw [gB_r (show gHead c e q = .inr (nx c e q) from if_pos h1)])
  refine Rn.if_eq (tgt := 24) dX3_readsLine_9 (by decide) (fun _ => ?_) (fun h9 => absurd h9 (by decide))
  refine Rn.aload_n dX3_readsLine_24 rfl rfl ?_
  refine Rn.getR dX3_readsLine_25 fd_X3_15_3 (by first | rfl | exact gC0 (by assumption) | exact gL0 (by assumption)) rfl ?_
  refine Rn.ldc dX3_readsLine_28 kc_X3_32 ?_
  refine Rn.callV (As := [_]) dX3_readsLine_30 mv_X3_20 (by first | rfl | exact gC0 (by assumption) | exact gL0 (by assumption)) rfl rfl rfl (Nat.le_of_ble_eq_true rfl) (ct_tkW G (d + 21) I hT _ q (by decide)) (fun _ _ h => h) (fun v J h => ?_)
  rcases h with ⟨h3, rfl, rfl⟩ | ⟨h3, h2, rfl, rfl⟩
  rotate_left
  · refine Rn.if_eq (tgt := 40) dX3_readsLine_33 (by decide) (fun h9 => absurd h9 (by decide)) (fun _ => ?_)
    refine Rn.iconst (v := (nI 0)) dX3_readsLine_36 rfl ?_
    refine Rn.goto 57 dX3_readsLine_37 (by decide) ?_
    exact cl_num G d I n hn hT h0 _ _ _ 0 _ (by decide) (nx_le h2) (by unfold gLine; rw [show gHead c e q = gNum c e (nI 60) (nx c e q) from (if_neg h1).trans (if_pos (Or.inl h3))])
  refine Rn.if_eq (tgt := 40) dX3_readsLine_33 (by decide) (fun _ => ?_) (fun h9 => absurd h9 (by decide))
  refine Rn.aload_n dX3_readsLine_40 rfl rfl ?_
  refine Rn.getR dX3_readsLine_41 fd_X3_15_3 (by first | rfl | exact gC0 (by assumption) | exact gL0 (by assumption)) rfl ?_
  refine Rn.ldc dX3_readsLine_44 kc_X3_33 ?_
  refine Rn.callV (As := [_]) dX3_readsLine_46 mv_X3_20 (by first | rfl | exact gC0 (by assumption) | exact gL0 (by assumption)) rfl rfl rfl (Nat.le_of_ble_eq_true rfl) (ct_tkW G (d + 21) I hT _ q (by decide)) (fun _ _ h => h) (fun v J h => ?_)
  rcases h with ⟨h4, rfl, rfl⟩ | ⟨h4, h2, rfl, rfl⟩
  rotate_left
  · refine Rn.if_eq (tgt := 56) dX3_readsLine_49 (by decide) (fun h9 => absurd h9 (by decide)) (fun _ => ?_)
    refine Rn.iconst (v := (nI 1)) dX3_readsLine_52 rfl ?_
    refine Rn.goto 57 dX3_readsLine_53 (by decide) ?_
    exact cl_num G d I n hn hT h0 _ _ _ 1 _ (by decide) (nx_le h2) (by unfold gLine; rw [show gHead c e q = gNum c e (nI 60) (nx c e q) from (if_neg h1).trans (if_pos (Or.inr h4))])
  refine Rn.if_eq (tgt := 56) dX3_readsLine_49 (by decide) (fun _ => ?_) (fun h9 => absurd h9 (by decide))
  refine Rn.iconst (v := (-1)) dX3_readsLine_56 rfl ?_
  refine Rn.istore_n dX3_readsLine_57 rfl (by decide) ?_
  refine Rn.iload_n dX3_readsLine_58 rfl rfl ?_
  refine Rn.iconst (v := (-1)) dX3_readsLine_59 rfl ?_
  refine Rn.icmp_ne (tgt := 67) dX3_readsLine_60 (by decide) (fun h9 => absurd h9 (by decide)) (fun _ => ?_)
  refine Rn.iconst (v := (-1)) dX3_readsLine_63 rfl ?_
  refine Rn.goto 76 dX3_readsLine_64 (by decide) ?_
  refine Rn.istore_n dX3_readsLine_76 rfl (by decide) ?_
  refine Rn.iload_n dX3_readsLine_77 rfl rfl ?_
  refine Rn.iconst (v := (-1)) dX3_readsLine_78 rfl ?_
  refine Rn.icmp_ne (tgt := 84) dX3_readsLine_79 (by decide) (fun h9 => absurd h9 (by decide)) (fun _ => ?_)
  refine Rn.iconst (v := (nI 0)) dX3_readsLine_82 rfl ?_
  exact Rn.zret dX3_readsLine_83 rfl rfl (⟨I, q, rfl, hq, fun _ _ => rfl, Or.inl ⟨by unfold gLine; exact gB_l ((if_neg h1).trans (if_neg (fun z => z.elim h3 h4))), rfl⟩⟩)
end Cl8
theorem TQ5_up (I : Hi) (c : Nat → Nat) (e q : Nat) (x : Int32) : TQ5 (zup I 1 3 x) c e q = TQ5 I c e q := by
  unfold TQ5 TS
  rw [show zup I 1 3 x = zset I 1 (upd (I 1) 3 x) from rfl, zset_zset]
  congr 1
  funext j
  rw [zset_at]
  simp only [TA, upd]
  by_cases e3 : j = 3
  · subst e3; rfl
  · simp only [if_neg e3]
section Cl9
variable (G : Gx) (d : Nat) {c : Nat → Nat} {e : Nat}
theorem ct_begin (I : Hi) (hT : TX I c e) : Ct G GAM mX8_begin (d + 1) 0 [.ref 1] I (Rp none (TQ5 I c e (bl c e 0))) := by
  refine Ct.mk [some (.ref 1)] ?_
  refine Rn.aload_n dX8_begin_0 rfl rfl ?_
  refine Rn.iconst (v := (nI 0)) dX8_begin_1 rfl ?_
  refine Rn.putI dX8_begin_2 fp_X8_19_7 (by first | rfl | exact gC0 (by assumption) | exact gL0 (by assumption)) rfl ?_
  refine Rn.aload_n dX8_begin_5 rfl rfl ?_
  refine Rn.callVp (As := []) dX8_begin_6 mv_X8_22 (by first | rfl | exact gC0 (by assumption) | exact gL0 (by assumption)) rfl rfl rfl (Nat.le_of_ble_eq_true rfl) (ct_step5 G d (zup I 1 3 (nI 0)) (⟨hT.1, hT.2.1, hT.2.2⟩ : TX (zup I 1 3 (nI 0)) c e) 0 (Nat.zero_le _) (by rfl)) ?_
  exact Rn.vret dX8_begin_9 rfl (⟨rfl, TQ5_up I c e _ _⟩)
theorem ct_atEnd (I : Hi) (hT : TX I c e) (q : Nat) (hq : q ≤ e) : Ct G GAM mX8_isAtEnd d 0 [.ref 1] (TQ5 I c e q) (Rv (fun v J => J = TQ5 I c e q ∧ ((e ≤ q ∧ v = some (.int (nI 1))) ∨ (q < e ∧ v = some (.int (nI 0)))))) := by
  have he := hT.1
  refine Ct.mk [some (.ref 1)] ?_
  refine Rn.aload_n dX8_isAtEnd_0 rfl rfl ?_
  refine Rn.getI dX8_isAtEnd_1 fd_X8_25_7 (by first | rfl | exact gC0 (by assumption) | exact gL0 (by assumption)) rfl ?_
  refine Rn.topI (nI q) (by rfl) ?_
  refine Rn.aload_n dX8_isAtEnd_4 rfl rfl ?_
  refine Rn.getI dX8_isAtEnd_5 fd_X8_15_7 (by first | rfl | exact gC0 (by assumption) | exact gL0 (by assumption)) rfl ?_
  refine Rn.topI (nI e) (by exact hT.2.1) ?_
  refine Rn.icmp_ltN dX8_isAtEnd_8 15 (fun h1 => ?_) (fun h1 => ?_)
  · refine Rn.iconst (v := (nI 0)) dX8_isAtEnd_15 rfl ?_
    exact Rn.zret dX8_isAtEnd_16 rfl rfl (⟨rfl, Or.inr ⟨h1, rfl⟩⟩)
  · refine Rn.iconst (v := (nI 1)) dX8_isAtEnd_11 rfl ?_
    refine Rn.goto 16 dX8_isAtEnd_12 (by decide) ?_
    exact Rn.zret dX8_isAtEnd_16 rfl rfl (⟨rfl, Or.inl ⟨h1, rfl⟩⟩)
theorem lp_text (I : Hi) (hT : TX I c e) (h38 : I 38 0 = nI 12) (o : Go) : ∀ (m n q : Nat) (K : Hi), n + m = 12 → q ≤ e → KN I n K → gText c e (gLine c e) m n q = o → Rn G GAM mX4_readsText (kM G GAM (Rv (CT5 I c e o))) (d + 24) 0 21 [some (.ref 38), some (.int (nI n))] [] (TQ5 K c e q) := by
  intro m
  induction m with
  | zero =>
    intro n q K hn hq hK ho
    refine Rn.iload_n dX4_readsText_21 rfl rfl ?_
    refine Rn.aload_n dX4_readsText_22 rfl rfl ?_
    refine Rn.getI dX4_readsText_23 fd_X4_13_3 (by first | rfl | exact gC0 (by assumption) | exact gL0 (by assumption)) rfl ?_
    refine Rn.topI (nI 12) (by rw [TQ5_ne (by decide), hK.2 38 (by decide)]; exact h38) ?_
    refine Rn.icmp_geN dX4_readsText_26 70 (fun _ => ?_) (fun h9 => by exfalso; omega)
    refine Rn.iconst (v := (nI 0)) dX4_readsText_70 rfl ?_
    exact Rn.zret dX4_readsText_71 rfl rfl (⟨K, q, rfl, hq, hK.2, Or.inl ⟨ho.symm, rfl⟩⟩)
  | succ m ih =>
    intro n q K hn hq hK ho
    have ho : gB (gLine c e q) (fun q1 => if e ≤ q1 then .inr (n + 1) else if fs c e q1 = nI 59 then gText c e (gLine c e) m (n + 1) (nx c e q1) else .inl q1) = o := ho
    refine Rn.iload_n dX4_readsText_21 rfl rfl ?_
    refine Rn.aload_n dX4_readsText_22 rfl rfl ?_
    refine Rn.getI dX4_readsText_23 fd_X4_13_3 (by first | rfl | exact gC0 (by assumption) | exact gL0 (by assumption)) rfl ?_
    refine Rn.topI (nI 12) (by rw [TQ5_ne (by decide), hK.2 38 (by decide)]; exact h38) ?_
    refine Rn.icmp_geN dX4_readsText_26 70 (fun h9 => by exfalso; omega) (fun _ => ?_)
    refine Rn.aload_n dX4_readsText_29 rfl rfl ?_
    refine Rn.callAx (As := []) dX4_readsText_30 ma_X4_26_3 rfl rfl rfl rfl (Nat.le_of_ble_eq_true rfl) (cl_line G d K n (by omega) (hK.tx hT) hK.1 q hq) (fun _ _ h => h) (fun v J h => ?_)
    obtain ⟨K2, q2, rfl, hq2, hf, ⟨hg, rfl⟩ | ⟨hg, rfl, hl⟩⟩ := h
    · rw [gB_l hg] at ho
      refine Rn.if_ne (tgt := 38) dX4_readsText_33 (by decide) (fun h9 => absurd h9 (by decide)) (fun _ => ?_)
      refine Rn.iconst (v := (nI 0)) dX4_readsText_36 rfl ?_
      exact Rn.zret dX4_readsText_37 rfl rfl (⟨K2, q2, rfl, hq2, fun a ha => (hf a ha).trans (hK.2 a ha), Or.inl ⟨ho.symm, rfl⟩⟩)
    · have hK2 : KN I (n + 1) K2 := ⟨hl, fun a ha => (hf a ha).trans (hK.2 a ha)⟩
      rw [gB_r hg] at ho
      refine Rn.if_ne (tgt := 38) dX4_readsText_33 (by decide) (fun _ => ?_) (fun h9 => absurd h9 (by decide))
      refine Rn.aload_n dX4_readsText_38 rfl rfl ?_
      refine Rn.getR dX4_readsText_39 fd_X4_7_3 (by first | rfl | exact gC0 (by assumption) | exact gL0 (by assumption)) rfl ?_
      refine Rn.callV (As := []) dX4_readsText_42 mv_X4_22 (by first | rfl | exact gC0 (by assumption) | exact gL0 (by assumption)) rfl rfl rfl (Nat.le_of_ble_eq_true rfl) (ct_atEnd G (d + 23) K2 (hK2.tx hT) q2 hq2) (fun _ _ h => h) (fun v J h => ?_)
      obtain ⟨rfl, ⟨h1, rfl⟩ | ⟨h1, rfl⟩⟩ := h
      · have ho : Sum.inr (n + 1) = o := (if_pos h1).symm.trans ho
        refine Rn.if_eq (tgt := 50) dX4_readsText_45 (by decide) (fun h9 => absurd h9 (by decide)) (fun _ => ?_)
        refine Rn.iconst (v := (nI 1)) dX4_readsText_48 rfl ?_
        exact Rn.zret dX4_readsText_49 rfl rfl (⟨K2, q2, rfl, hq2, hK2.2, Or.inr ⟨n + 1, by omega, ho.symm, rfl, hl⟩⟩)
      · have ho : (if fs c e q2 = nI 59 then gText c e (gLine c e) m (n + 1) (nx c e q2) else .inl q2) = o := (if_neg (by omega)).symm.trans ho
        refine Rn.if_eq (tgt := 50) dX4_readsText_45 (by decide) (fun _ => ?_) (fun h9 => absurd h9 (by decide))
        refine Rn.aload_n dX4_readsText_50 rfl rfl ?_
        refine Rn.getR dX4_readsText_51 fd_X4_7_3 (by first | rfl | exact gC0 (by assumption) | exact gL0 (by assumption)) rfl ?_
        refine Rn.bipush (v := (nI 59)) dX4_readsText_54 rfl ?_
        refine Rn.callV (As := [_]) dX4_readsText_56 mv_X4_29 (by first | rfl | exact gC0 (by assumption) | exact gL0 (by assumption)) rfl rfl rfl (Nat.le_of_ble_eq_true rfl) (ct_tkS G (d + 22) K2 (hK2.tx hT) 59 q2 (by decide)) (fun _ _ h => h) (fun v J h => ?_)
        rcases h with ⟨h2, rfl, rfl⟩ | ⟨h2, h3, rfl, rfl⟩
        · rw [if_neg h2] at ho
          refine Rn.if_ne (tgt := 64) dX4_readsText_59 (by decide) (fun h9 => absurd h9 (by decide)) (fun _ => ?_)
          refine Rn.iconst (v := (nI 0)) dX4_readsText_62 rfl ?_
          exact Rn.zret dX4_readsText_63 rfl rfl (⟨K2, q2, rfl, hq2, hK2.2, Or.inl ⟨ho.symm, rfl⟩⟩)
        · rw [if_pos h2] at ho
          refine Rn.if_ne (tgt := 64) dX4_readsText_59 (by decide) (fun _ => ?_) (fun h9 => absurd h9 (by decide))
          refine Rn.iincN dX4_readsText_64 rfl (by decide) ?_
          refine Rn.goto 21 dX4_readsText_67 (by decide) ?_
          exact ih (n + 1) _ K2 (by omega) (nx_le h3) hK2 ho
theorem cl_text (I : Hi) (hT : TX I c e) (h38 : I 38 0 = nI 12) (h0 : I 23 0 = nI 0) : Ct G GAM mX4_readsText (d + 24) 0 [.ref 38] I (Rv (CT5 I c e (gLaw c e))) := by
  have hq : bl c e 0 ≤ e := bl_le (Nat.zero_le _)
  refine Ct.mk [some (.ref 38), none] ?_
  refine Rn.aload_n dX4_readsText_0 rfl rfl ?_
  refine Rn.getR dX4_readsText_1 fd_X4_7_3 (by first | rfl | exact gC0 (by assumption) | exact gL0 (by assumption)) rfl ?_
  refine Rn.callVp (As := []) dX4_readsText_4 mv_X4_17 (by first | rfl | exact gC0 (by assumption) | exact gL0 (by assumption)) rfl rfl rfl (Nat.le_of_ble_eq_true rfl) (ct_begin G (d + 22) I hT) ?_
  refine Rn.aload_n dX4_readsText_7 rfl rfl ?_
  refine Rn.getR dX4_readsText_8 fd_X4_7_3 (by first | rfl | exact gC0 (by assumption) | exact gL0 (by assumption)) rfl ?_
  refine Rn.callV (As := []) dX4_readsText_11 mv_X4_22 (by first | rfl | exact gC0 (by assumption) | exact gL0 (by assumption)) rfl rfl rfl (Nat.le_of_ble_eq_true rfl) (ct_atEnd G (d + 23) I hT (bl c e 0) hq) (fun _ _ h => h) (fun v J h => ?_)
  obtain ⟨rfl, ⟨h1, rfl⟩ | ⟨h1, rfl⟩⟩ := h
  · refine Rn.if_eq (tgt := 19) dX4_readsText_14 (by decide) (fun h9 => absurd h9 (by decide)) (fun _ => ?_)
    refine Rn.iconst (v := (nI 1)) dX4_readsText_17 rfl ?_
    exact Rn.zret dX4_readsText_18 rfl rfl (⟨I, bl c e 0, rfl, hq, fun _ _ => rfl, Or.inr ⟨0, by decide, if_pos h1, rfl, h0⟩⟩)
  · refine Rn.if_eq (tgt := 19) dX4_readsText_14 (by decide) (fun _ => ?_) (fun h9 => absurd h9 (by decide))
    refine Rn.iconst (v := (nI 0)) dX4_readsText_19 rfl ?_
    refine Rn.istore_n dX4_readsText_20 rfl (by decide) ?_
    exact lp_text G d I hT h38 _ 12 0 _ I rfl hq ⟨h0, fun _ _ => rfl⟩ (if_neg (by omega)).symm
theorem ct_clear5 (I : Hi) : Ct G GAM mX2_clear d 0 [.ref 23] I (Rp none (zup (zup I 23 0 (nI 0)) 23 1 (nI 0))) := by
  refine Ct.mk [some (.ref 23)] ?_
  refine Rn.aload_n dX2_clear_0 rfl rfl ?_
  refine Rn.iconst (v := (nI 0)) dX2_clear_1 rfl ?_
  refine Rn.putI dX2_clear_2 fp_X2_9_2 (by first | rfl | exact gC0 (by assumption) | exact gL0 (by assumption)) rfl ?_
  refine Rn.aload_n dX2_clear_5 rfl rfl ?_
  refine Rn.iconst (v := (nI 0)) dX2_clear_6 rfl ?_
  refine Rn.putI dX2_clear_7 fp_X2_34_2 (by first | rfl | exact gC0 (by assumption) | exact gL0 (by assumption)) rfl ?_
  exact Rn.vret dX2_clear_10 rfl (⟨rfl, rfl⟩)
theorem ct_cpL5 (I : Hi) : Ct G GAM mX2_copyFrom d 0 [.ref 16, .ref 23] I (Rv (fun v J => v = none ∧ J 16 0 = I 23 0 ∧ ∀ a, ¬ (16 ≤ a ∧ a ≤ 22) → J a = I a)) := by
  refine Ct.mk [some (.ref 16), some (.ref 23)] ?_
  refine Rn.aload_n dX2_copyFrom_0 rfl rfl ?_
  refine Rn.aload_n dX2_copyFrom_1 rfl rfl ?_
  refine Rn.getI dX2_copyFrom_2 fd_X2_9_2 (by first | rfl | exact gC0 (by assumption) | exact gL0 (by assumption)) rfl ?_
  refine Rn.putI dX2_copyFrom_5 fp_X2_9_2 (by first | rfl | exact gC0 (by assumption) | exact gL0 (by assumption)) rfl ?_
  refine Rn.aload_n dX2_copyFrom_8 rfl rfl ?_
  refine Rn.aload_n dX2_copyFrom_9 rfl rfl ?_
  refine Rn.getI dX2_copyFrom_10 fd_X2_34_2 (by first | rfl | exact gC0 (by assumption) | exact gL0 (by assumption)) rfl ?_
  refine Rn.putI dX2_copyFrom_13 fp_X2_34_2 (by first | rfl | exact gC0 (by assumption) | exact gL0 (by assumption)) rfl ?_
  refine Rn.aload_n dX2_copyFrom_16 rfl rfl ?_
  refine Rn.getR dX2_copyFrom_17 fd_X2_15_2 (by first | rfl | exact gC0 (by assumption) | exact gL0 (by assumption)) rfl ?_
  refine Rn.iconst (v := (nI 0)) dX2_copyFrom_20 rfl ?_
  refine Rn.aload_n dX2_copyFrom_21 rfl rfl ?_
  refine Rn.getR dX2_copyFrom_22 fd_X2_15_2 (by first | rfl | exact gC0 (by assumption) | exact gL0 (by assumption)) rfl ?_
  refine Rn.iconst (v := (nI 0)) dX2_copyFrom_25 rfl ?_
  refine Rn.bipush (v := (nI 12)) dX2_copyFrom_26 rfl ?_
  refine Rn.acopy dX2_copyFrom_28 ac_X2_37 (by first | rfl | exact gC1 (by assumption) | exact gC2 (by assumption) | exact gC3 (by assumption) | exact gL1 (by assumption) | exact gL2 (by assumption) | exact gL3 (by assumption) | exact gL4 (by assumption) | exact gL5 (by assumption) | exact gL6 (by assumption)) (by first | rfl | exact gC1 (by assumption) | exact gC2 (by assumption) | exact gC3 (by assumption) | exact gL1 (by assumption) | exact gL2 (by assumption) | exact gL3 (by assumption) | exact gL4 (by assumption) | exact gL5 (by assumption) | exact gL6 (by assumption)) (by decide) (by decide) (by decide) (Nat.le_of_ble_eq_true rfl) ?_
  refine Rn.aload_n dX2_copyFrom_31 rfl rfl ?_
  refine Rn.getR dX2_copyFrom_32 fd_X2_19_2 (by first | rfl | exact gC0 (by assumption) | exact gL0 (by assumption)) rfl ?_
  refine Rn.iconst (v := (nI 0)) dX2_copyFrom_35 rfl ?_
  refine Rn.aload_n dX2_copyFrom_36 rfl rfl ?_
  refine Rn.getR dX2_copyFrom_37 fd_X2_19_2 (by first | rfl | exact gC0 (by assumption) | exact gL0 (by assumption)) rfl ?_
  refine Rn.iconst (v := (nI 0)) dX2_copyFrom_40 rfl ?_
  refine Rn.bipush (v := (nI 12)) dX2_copyFrom_41 rfl ?_
  refine Rn.acopy dX2_copyFrom_43 ac_X2_37 (by first | rfl | exact gC1 (by assumption) | exact gC2 (by assumption) | exact gC3 (by assumption) | exact gL1 (by assumption) | exact gL2 (by assumption) | exact gL3 (by assumption) | exact gL4 (by assumption) | exact gL5 (by assumption) | exact gL6 (by assumption)) (by first | rfl | exact gC1 (by assumption) | exact gC2 (by assumption) | exact gC3 (by assumption) | exact gL1 (by assumption) | exact gL2 (by assumption) | exact gL3 (by assumption) | exact gL4 (by assumption) | exact gL5 (by assumption) | exact gL6 (by assumption)) (by decide) (by decide) (by decide) (Nat.le_of_ble_eq_true rfl) ?_
  refine Rn.aload_n dX2_copyFrom_46 rfl rfl ?_
  refine Rn.getR dX2_copyFrom_47 fd_X2_22_2 (by first | rfl | exact gC0 (by assumption) | exact gL0 (by assumption)) rfl ?_
  refine Rn.iconst (v := (nI 0)) dX2_copyFrom_50 rfl ?_
  refine Rn.aload_n dX2_copyFrom_51 rfl rfl ?_
  refine Rn.getR dX2_copyFrom_52 fd_X2_22_2 (by first | rfl | exact gC0 (by assumption) | exact gL0 (by assumption)) rfl ?_
  refine Rn.iconst (v := (nI 0)) dX2_copyFrom_55 rfl ?_
  refine Rn.bipush (v := (nI 12)) dX2_copyFrom_56 rfl ?_
  refine Rn.acopy dX2_copyFrom_58 ac_X2_37 (by first | rfl | exact gC1 (by assumption) | exact gC2 (by assumption) | exact gC3 (by assumption) | exact gL1 (by assumption) | exact gL2 (by assumption) | exact gL3 (by assumption) | exact gL4 (by assumption) | exact gL5 (by assumption) | exact gL6 (by assumption)) (by first | rfl | exact gC1 (by assumption) | exact gC2 (by assumption) | exact gC3 (by assumption) | exact gL1 (by assumption) | exact gL2 (by assumption) | exact gL3 (by assumption) | exact gL4 (by assumption) | exact gL5 (by assumption) | exact gL6 (by assumption)) (by decide) (by decide) (by decide) (Nat.le_of_ble_eq_true rfl) ?_
  refine Rn.aload_n dX2_copyFrom_61 rfl rfl ?_
  refine Rn.getR dX2_copyFrom_62 fd_X2_25_2 (by first | rfl | exact gC0 (by assumption) | exact gL0 (by assumption)) rfl ?_
  refine Rn.iconst (v := (nI 0)) dX2_copyFrom_65 rfl ?_
  refine Rn.aload_n dX2_copyFrom_66 rfl rfl ?_
  refine Rn.getR dX2_copyFrom_67 fd_X2_25_2 (by first | rfl | exact gC0 (by assumption) | exact gL0 (by assumption)) rfl ?_
  refine Rn.iconst (v := (nI 0)) dX2_copyFrom_70 rfl ?_
  refine Rn.sipush (v := (nI 400)) dX2_copyFrom_71 rfl ?_
  refine Rn.acopy dX2_copyFrom_74 ac_X2_37 (by first | rfl | exact gC1 (by assumption) | exact gC2 (by assumption) | exact gC3 (by assumption) | exact gL1 (by assumption) | exact gL2 (by assumption) | exact gL3 (by assumption) | exact gL4 (by assumption) | exact gL5 (by assumption) | exact gL6 (by assumption)) (by first | rfl | exact gC1 (by assumption) | exact gC2 (by assumption) | exact gC3 (by assumption) | exact gL1 (by assumption) | exact gL2 (by assumption) | exact gL3 (by assumption) | exact gL4 (by assumption) | exact gL5 (by assumption) | exact gL6 (by assumption)) (by decide) (by decide) (by decide) (Nat.le_of_ble_eq_true rfl) ?_
  exact Rn.vret dX2_copyFrom_77 rfl (⟨rfl, by rw [zset_ne _ _ (by decide), zset_ne _ _ (by decide), zset_ne _ _ (by decide), zset_ne _ _ (by decide), zup_at, upd_ne _ _ (by decide), zup_at, upd_at], fun a ha => by rw [zset_ne _ _ (by omega), zset_ne _ _ (by omega), zset_ne _ _ (by omega), zset_ne _ _ (by omega), zup_ne _ _ (by omega), zup_ne _ _ (by omega)]⟩)
theorem ct_forget5 (I : Hi) : Ct G GAM mX5_forget d 0 [.ref 44] I (Rp none (zup I 44 1 (nI 0))) := by
  refine Ct.mk [some (.ref 44)] ?_
  refine Rn.aload_n dX5_forget_0 rfl rfl ?_
  refine Rn.iconst (v := (nI 0)) dX5_forget_1 rfl ?_
  refine Rn.putI dX5_forget_2 fp_X5_26_4 (by first | rfl | exact gC0 (by assumption) | exact gL0 (by assumption)) rfl ?_
  exact Rn.vret dX5_forget_5 rfl (⟨rfl, rfl⟩)
theorem ct_note0 (I : Hi) : Ct G GAM mX9_noteReading d 0 [.ref 0, .int (nI 0)] I (Rp none (zup (zup I 0 12 (I 1 2)) 1 1 (nI 0))) := by
  refine Ct.mk [some (.ref 0), some (.int (nI 0))] ?_
  refine Rn.aload_n dX9_noteReading_0 rfl rfl ?_
  refine Rn.iload_n dX9_noteReading_1 rfl rfl ?_
  refine Rn.if_eq (tgt := 9) dX9_noteReading_2 (by decide) (fun _ => ?_) (fun h9 => absurd h9 (by decide))
  refine Rn.aload_n dX9_noteReading_9 rfl rfl ?_
  refine Rn.getR dX9_noteReading_10 fd_X9_10_8 (by first | rfl | exact gC0 (by assumption) | exact gL0 (by assumption)) rfl ?_
  refine Rn.getI dX9_noteReading_13 fd_X9_134_7 (by first | rfl | exact gC0 (by assumption) | exact gL0 (by assumption)) rfl ?_
  refine Rn.putI dX9_noteReading_16 fp_X9_80_8 (by first | rfl | exact gC0 (by assumption) | exact gL0 (by assumption)) rfl ?_
  refine Rn.aload_n dX9_noteReading_19 rfl rfl ?_
  refine Rn.getR dX9_noteReading_20 fd_X9_10_8 (by first | rfl | exact gC0 (by assumption) | exact gL0 (by assumption)) rfl ?_
  refine Rn.iconst (v := (nI 0)) dX9_noteReading_23 rfl ?_
  refine Rn.putI dX9_noteReading_24 fp_X9_84_7 (by first | rfl | exact gC0 (by assumption) | exact gL0 (by assumption)) rfl ?_
  exact Rn.vret dX9_noteReading_27 rfl (⟨rfl, rfl⟩)
theorem ct_note1 (I : Hi) : Ct G GAM mX9_noteReading d 0 [.ref 0, .int (nI 1)] I (Rp none (zup (zup I 0 12 (-1)) 1 1 (nI 0))) := by
  refine Ct.mk [some (.ref 0), some (.int (nI 1))] ?_
  refine Rn.aload_n dX9_noteReading_0 rfl rfl ?_
  refine Rn.iload_n dX9_noteReading_1 rfl rfl ?_
  refine Rn.if_eq (tgt := 9) dX9_noteReading_2 (by decide) (fun h9 => absurd h9 (by decide)) (fun _ => ?_)
  refine Rn.iconst (v := (-1)) dX9_noteReading_5 rfl ?_
  refine Rn.goto 16 dX9_noteReading_6 (by decide) ?_
  refine Rn.putI dX9_noteReading_16 fp_X9_80_8 (by first | rfl | exact gC0 (by assumption) | exact gL0 (by assumption)) rfl ?_
  refine Rn.aload_n dX9_noteReading_19 rfl rfl ?_
  refine Rn.getR dX9_noteReading_20 fd_X9_10_8 (by first | rfl | exact gC0 (by assumption) | exact gL0 (by assumption)) rfl ?_
  refine Rn.iconst (v := (nI 0)) dX9_noteReading_23 rfl ?_
  refine Rn.putI dX9_noteReading_24 fp_X9_84_7 (by first | rfl | exact gC0 (by assumption) | exact gL0 (by assumption)) rfl ?_
  exact Rn.vret dX9_noteReading_27 rfl (⟨rfl, rfl⟩)
/-- what law of the class leaves, and what it answers or throws, by the text -/
def XL5 (I : Hi) (g : Go) (o : Rs) (J : Hi) : Prop := J 1 1 = nI 0 ∧ (∀ a, a ≠ 0 → a ≠ 1 → ¬ (16 ≤ a ∧ a ≤ 36) → a ≠ 44 → J a = I a) ∧ J 0 11 = I 0 11 ∧ ((∃ n, n ≤ 12 ∧ g = .inr n ∧ o = .inl (some (.int (nI n))) ∧ J 0 12 = -1 ∧ J 44 1 = nI 0 ∧ J 44 2 = I 44 2) ∨ (∃ x, x ≤ 400 ∧ g = .inl x ∧ o = .inr "java/lang/IllegalArgumentException" ∧ J 0 12 = nI x ∧ J 44 = I 44))
theorem cl_law (I : Hi) (hT : TX I c e) (h38 : I 38 0 = nI 12) : Ct G GAM mX9_law (d + 25) 1 [.ref 0] I (XL5 I (gLaw c e)) := by
  have he := hT.1
  refine Ct.mk [some (.ref 0), none] ?_
  refine Rn.aload_n dX9_law_0 rfl rfl ?_
  refine Rn.getR dX9_law_1 fd_X9_39_8 (by first | rfl | exact gC0 (by assumption) | exact gL0 (by assumption)) rfl ?_
  refine Rn.callVp (As := []) dX9_law_4 mv_X9_121 (by first | rfl | exact gC0 (by assumption) | exact gL0 (by assumption)) rfl rfl rfl (Nat.le_of_ble_eq_true rfl) (ct_clear5 G (d + 24) I) ?_
  refine Rn.aload_n dX9_law_7 rfl rfl ?_
  refine Rn.getR dX9_law_8 fd_X9_60_8 (by first | rfl | exact gC0 (by assumption) | exact gL0 (by assumption)) rfl ?_
  refine Rn.callUx (As := []) dX9_law_11 mu_X9_124_3 rfl rfl rfl rfl (Nat.le_of_ble_eq_true rfl) (cl_text G d (zup (zup I 23 0 (nI 0)) 23 1 (nI 0)) (⟨hT.1, hT.2.1, hT.2.2⟩ : TX (zup (zup I 23 0 (nI 0)) 23 1 (nI 0)) c e) (by exact h38) (by rfl)) (fun _ _ h => h) (fun v J h => ?_)
  obtain ⟨K, q, rfl, hq, hf, ⟨hg, rfl⟩ | ⟨n, hn, hg, rfl, hl⟩⟩ := h
  · refine Rn.istore_n dX9_law_14 rfl (by decide) ?_
    refine Rn.aload_n dX9_law_15 rfl rfl ?_
    refine Rn.iload_n dX9_law_16 rfl rfl ?_
    refine Rn.callVp (As := [_]) dX9_law_17 mv_X9_99 (by first | rfl | exact gC0 (by assumption) | exact gL0 (by assumption)) rfl rfl rfl (Nat.le_of_ble_eq_true rfl) (ct_note0 G (d + 24) _) ?_
    refine Rn.iload_n dX9_law_20 rfl rfl ?_
    refine Rn.if_ne (tgt := 34) dX9_law_21 (by decide) (fun h9 => absurd h9 (by decide)) (fun _ => ?_)
    exact Rn.throwT th_X9_103_105_107 dX9_law_24 dX9_law_27 dX9_law_28 dX9_law_30 dX9_law_33 (⟨by rw [zup_at, upd_at], fun a h0 h1 h2 h3 => by rw [zup_ne _ _ h1, zup_ne _ _ h0, TQ5_ne h1, hf a (by omega), zup_ne _ _ (by omega), zup_ne _ _ (by omega)], by rw [zup_ne _ _ (by decide), zup_at, upd_ne _ _ (by decide), TQ5_ne (by decide), hf 0 (by decide), zup_ne _ _ (by decide), zup_ne _ _ (by decide)], Or.inr ⟨q, by omega, hg, rfl, by rw [zup_ne _ _ (by decide), zup_at, upd_at]; rfl, by rw [zup_ne _ _ (by decide), zup_ne _ _ (by decide), TQ5_ne (by decide), hf 44 (by decide), zup_ne _ _ (by decide), zup_ne _ _ (by decide)]⟩⟩)
  · refine Rn.istore_n dX9_law_14 rfl (by decide) ?_
    refine Rn.aload_n dX9_law_15 rfl rfl ?_
    refine Rn.iload_n dX9_law_16 rfl rfl ?_
    refine Rn.callVp (As := [_]) dX9_law_17 mv_X9_99 (by first | rfl | exact gC0 (by assumption) | exact gL0 (by assumption)) rfl rfl rfl (Nat.le_of_ble_eq_true rfl) (ct_note1 G (d + 24) _) ?_
    refine Rn.iload_n dX9_law_20 rfl rfl ?_
    refine Rn.if_ne (tgt := 34) dX9_law_21 (by decide) (fun _ => ?_) (fun h9 => absurd h9 (by decide))
    refine Rn.aload_n dX9_law_34 rfl rfl ?_
    refine Rn.getR dX9_law_35 fd_X9_32_8 (by first | rfl | exact gC0 (by assumption) | exact gL0 (by assumption)) rfl ?_
    refine Rn.getR dX9_law_38 fd_X9_125_5 (by first | rfl | exact gC0 (by assumption) | exact gL0 (by assumption)) rfl ?_
    refine Rn.aload_n dX9_law_41 rfl rfl ?_
    refine Rn.getR dX9_law_42 fd_X9_39_8 (by first | rfl | exact gC0 (by assumption) | exact gL0 (by assumption)) rfl ?_
    refine Rn.callV (As := [_]) dX9_law_45 mv_X9_128 (by first | rfl | exact gC0 (by assumption) | exact gL0 (by assumption)) rfl rfl rfl (Nat.le_of_ble_eq_true rfl) (ct_cpL5 G (d + 24) _) (fun _ _ h => h) (fun v J h => ?_)
    obtain ⟨rfl, h16, hf2⟩ := h
    have h160 : J 16 0 = nI n := by rw [h16, zup_ne _ _ (by decide), zup_ne _ _ (by decide), TQ5_ne (by decide)]; exact hl
    refine Rn.aload_n dX9_law_48 rfl rfl ?_
    refine Rn.getR dX9_law_49 fd_X9_76_8 (by first | rfl | exact gC0 (by assumption) | exact gL0 (by assumption)) rfl ?_
    refine Rn.callVp (As := []) dX9_law_52 mv_X9_118 (by first | rfl | exact gC0 (by assumption) | exact gL0 (by assumption)) rfl rfl rfl (Nat.le_of_ble_eq_true rfl) (ct_forget5 G (d + 24) _) ?_
    refine Rn.aload_n dX9_law_55 rfl rfl ?_
    refine Rn.getR dX9_law_56 fd_X9_32_8 (by first | rfl | exact gC0 (by assumption) | exact gL0 (by assumption)) rfl ?_
    refine Rn.getR dX9_law_59 fd_X9_125_5 (by first | rfl | exact gC0 (by assumption) | exact gL0 (by assumption)) rfl ?_
    refine Rn.getI dX9_law_62 fd_X9_131_2 (by first | rfl | exact gC0 (by assumption) | exact gL0 (by assumption)) rfl ?_
    refine Rn.topI (nI n) (by rw [zup_ne _ _ (by decide)]; exact h160) ?_
    exact Rn.iret dX9_law_65 rfl (⟨by rw [zup_ne _ _ (by decide), hf2 1 (by decide), zup_at, upd_at], fun a h0 h1 h2 h3 => by rw [zup_ne _ _ h3, hf2 a (by omega), zup_ne _ _ h1, zup_ne _ _ h0, TQ5_ne h1, hf a (by omega), zup_ne _ _ (by omega), zup_ne _ _ (by omega)], by rw [zup_ne _ _ (by decide), hf2 0 (by decide), zup_ne _ _ (by decide), zup_at, upd_ne _ _ (by decide), TQ5_ne (by decide), hf 0 (by decide), zup_ne _ _ (by decide), zup_ne _ _ (by decide)], Or.inl ⟨n, hn, hg, rfl, by rw [zup_ne _ _ (by decide), hf2 0 (by decide), zup_ne _ _ (by decide), zup_at, upd_at], by rw [zup_at, upd_at], by rw [zup_at, upd_ne _ _ (by decide), hf2 44 (by decide), zup_ne _ _ (by decide), zup_ne _ _ (by decide), TQ5_ne (by decide), hf 44 (by decide), zup_ne _ _ (by decide), zup_ne _ _ (by decide)]⟩⟩)
end Cl9
