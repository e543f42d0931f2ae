theorem dX7_mark_59 : decode cX7_mark 59 = .ok (.aload 4, 2) := by decide +kernel
theorem dX7_mark_61 : decode cX7_mark 61 = .ok (.getfield 247, 3) := by decide +kernel
theorem dX7_mark_64 : decode cX7_mark 64 = .ok (.iload_n 2, 1) := by decide +kernel
theorem dX7_mark_65 : decode cX7_mark 65 = .ok (.iload_n 3, 1) := by decide +kernel
theorem dX7_mark_66 : decode cX7_mark 66 = .ok (.i2s, 1) := by decide +kernel
theorem dX7_mark_67 : decode cX7_mark 67 = .ok (.iastore, 1) := by decide +kernel
theorem dX7_mark_68 : decode cX7_mark 68 = .ok (.iconst 1, 1) := by decide +kernel
theorem dX7_mark_69 : decode cX7_mark 69 = .ok (.ireturn, 1) := by decide +kernel
theorem dX7_mark_70 : decode cX7_mark 70 = .ok (.iload_n 3, 1) := by decide +kernel
theorem dX7_mark_71 : decode cX7_mark 71 = .ok (.ldc 109, 2) := by decide +kernel
theorem dX7_mark_73 : decode cX7_mark 73 = .ok (.if_icmp .eq 17, 3) := by decide +kernel
theorem dX7_mark_76 : decode cX7_mark 76 = .ok (.iload_n 3, 1) := by decide +kernel
theorem dX7_mark_77 : decode cX7_mark 77 = .ok (.ldc 250, 2) := by decide +kernel
theorem dX7_mark_79 : decode cX7_mark 79 = .ok (.ldc 251, 2) := by decide +kernel
theorem dX7_mark_81 : decode cX7_mark 81 = .ok (.invokestatic 56, 3) := by decide +kernel
theorem dX7_mark_84 : decode cX7_mark 84 = .ok (.ifCond .ne 6, 3) := by decide +kernel
theorem dX7_mark_87 : decode cX7_mark 87 = .ok (.ldc 60, 2) := by decide +kernel
theorem dX7_mark_89 : decode cX7_mark 89 = .ok (.ireturn, 1) := by decide +kernel
theorem dX7_mark_90 : decode cX7_mark 90 = .ok (.aload 4, 2) := by decide +kernel
theorem dX7_mark_92 : decode cX7_mark 92 = .ok (.getfield 247, 3) := by decide +kernel
theorem dX7_mark_95 : decode cX7_mark 95 = .ok (.iload_n 2, 1) := by decide +kernel
theorem dX7_mark_96 : decode cX7_mark 96 = .ok (.iload_n 3, 1) := by decide +kernel
theorem dX7_mark_97 : decode cX7_mark 97 = .ok (.iastore, 1) := by decide +kernel
theorem dX7_mark_98 : decode cX7_mark 98 = .ok (.iconst 1, 1) := by decide +kernel
theorem dX7_mark_99 : decode cX7_mark 99 = .ok (.ireturn, 1) := by decide +kernel
theorem dX7_pour_0 : decode cX7_pour 0 = .ok (.iload_n 1, 1) := by decide +kernel
theorem dX7_pour_1 : decode cX7_pour 1 = .ok (.invokestatic 186, 3) := by decide +kernel
theorem dX7_pour_4 : decode cX7_pour 4 = .ok (.ifCond .ne 6, 3) := by decide +kernel
theorem dX7_pour_7 : decode cX7_pour 7 = .ok (.ldc 60, 2) := by decide +kernel
theorem dX7_pour_9 : decode cX7_pour 9 = .ok (.ireturn, 1) := by decide +kernel
theorem dX7_pour_10 : decode cX7_pour 10 = .ok (.aload_n 0, 1) := by decide +kernel
theorem dX7_pour_11 : decode cX7_pour 11 = .ok (.getfield 40, 3) := by decide +kernel
theorem dX7_pour_14 : decode cX7_pour 14 = .ok (.iload_n 1, 1) := by decide +kernel
theorem dX7_pour_15 : decode cX7_pour 15 = .ok (.aaload, 1) := by decide +kernel
theorem dX7_pour_16 : decode cX7_pour 16 = .ok (.astore_n 2, 1) := by decide +kernel
theorem dX7_pour_17 : decode cX7_pour 17 = .ok (.aload_n 2, 1) := by decide +kernel
theorem dX7_pour_18 : decode cX7_pour 18 = .ok (.getfield 189, 3) := by decide +kernel
theorem dX7_pour_21 : decode cX7_pour 21 = .ok (.iconst (-1), 1) := by decide +kernel
theorem dX7_pour_22 : decode cX7_pour 22 = .ok (.if_icmp .ne 6, 3) := by decide +kernel
theorem dX7_pour_25 : decode cX7_pour 25 = .ok (.ldc 192, 2) := by decide +kernel
theorem dX7_pour_27 : decode cX7_pour 27 = .ok (.ireturn, 1) := by decide +kernel
theorem dX7_pour_28 : decode cX7_pour 28 = .ok (.iconst 0, 1) := by decide +kernel
theorem dX7_pour_29 : decode cX7_pour 29 = .ok (.istore_n 3, 1) := by decide +kernel
theorem dX7_pour_30 : decode cX7_pour 30 = .ok (.iconst 0, 1) := by decide +kernel
theorem dX7_pour_31 : decode cX7_pour 31 = .ok (.istore 4, 2) := by decide +kernel
theorem dX7_pour_33 : decode cX7_pour 33 = .ok (.iload 4, 2) := by decide +kernel
theorem dX7_pour_35 : decode cX7_pour 35 = .ok (.bipush 8, 2) := by decide +kernel
theorem dX7_pour_37 : decode cX7_pour 37 = .ok (.if_icmp .ge 56, 3) := by decide +kernel
theorem dX7_pour_40 : decode cX7_pour 40 = .ok (.aload_n 2, 1) := by decide +kernel
theorem dX7_pour_41 : decode cX7_pour 41 = .ok (.iload 4, 2) := by decide +kernel
theorem dX7_pour_43 : decode cX7_pour 43 = .ok (.invokevirtual 252, 3) := by decide +kernel
theorem dX7_pour_46 : decode cX7_pour 46 = .ok (.ifCond .eq 41, 3) := by decide +kernel
theorem dX7_pour_49 : decode cX7_pour 49 = .ok (.aload_n 2, 1) := by decide +kernel
theorem dX7_pour_50 : decode cX7_pour 50 = .ok (.getfield 247, 3) := by decide +kernel
theorem dX7_pour_53 : decode cX7_pour 53 = .ok (.iload 4, 2) := by decide +kernel
theorem dX7_pour_55 : decode cX7_pour 55 = .ok (.iaload, 1) := by decide +kernel
theorem dX7_pour_56 : decode cX7_pour 56 = .ok (.bipush (-50), 2) := by decide +kernel
theorem dX7_pour_58 : decode cX7_pour 58 = .ok (.bipush 50, 2) := by decide +kernel
theorem dX7_pour_60 : decode cX7_pour 60 = .ok (.invokestatic 233, 3) := by decide +kernel
theorem dX7_pour_63 : decode cX7_pour 63 = .ok (.istore 5, 2) := by decide +kernel
theorem dX7_pour_65 : decode cX7_pour 65 = .ok (.aload_n 0, 1) := by decide +kernel
theorem dX7_pour_66 : decode cX7_pour 66 = .ok (.getfield 28, 3) := by decide +kernel
theorem dX7_pour_69 : decode cX7_pour 69 = .ok (.getfield 127, 3) := by decide +kernel
theorem dX7_pour_72 : decode cX7_pour 72 = .ok (.iload 4, 2) := by decide +kernel
theorem dX7_pour_74 : decode cX7_pour 74 = .ok (.iload 5, 2) := by decide +kernel
theorem dX7_pour_76 : decode cX7_pour 76 = .ok (.invokestatic 120, 3) := by decide +kernel
theorem dX7_pour_79 : decode cX7_pour 79 = .ok (.iload 5, 2) := by decide +kernel
theorem dX7_pour_81 : decode cX7_pour 81 = .ok (.if_icmp .eq 6, 3) := by decide +kernel
theorem dX7_pour_84 : decode cX7_pour 84 = .ok (.iinc 3 1, 3) := by decide +kernel
theorem dX7_pour_87 : decode cX7_pour 87 = .ok (.iinc 4 1, 3) := by decide +kernel
theorem dX7_pour_90 : decode cX7_pour 90 = .ok (.goto (-57), 3) := by decide +kernel
theorem dX7_pour_93 : decode cX7_pour 93 = .ok (.iload_n 3, 1) := by decide +kernel
theorem dX7_pour_94 : decode cX7_pour 94 = .ok (.ireturn, 1) := by decide +kernel
theorem dX7_reads_0 : decode cX7_reads 0 = .ok (.iload_n 1, 1) := by decide +kernel
theorem dX7_reads_1 : decode cX7_reads 1 = .ok (.invokestatic 186, 3) := by decide +kernel
theorem dX7_reads_4 : decode cX7_reads 4 = .ok (.ifCond .ne 6, 3) := by decide +kernel
theorem dX7_reads_7 : decode cX7_reads 7 = .ok (.ldc 60, 2) := by decide +kernel
theorem dX7_reads_9 : decode cX7_reads 9 = .ok (.ireturn, 1) := by decide +kernel
theorem dX7_reads_10 : decode cX7_reads 10 = .ok (.aload_n 0, 1) := by decide +kernel
theorem dX7_reads_11 : decode cX7_reads 11 = .ok (.getfield 40, 3) := by decide +kernel
theorem dX7_reads_14 : decode cX7_reads 14 = .ok (.iload_n 1, 1) := by decide +kernel
theorem dX7_reads_15 : decode cX7_reads 15 = .ok (.aaload, 1) := by decide +kernel
theorem dX7_reads_16 : decode cX7_reads 16 = .ok (.astore_n 2, 1) := by decide +kernel
theorem dX7_reads_17 : decode cX7_reads 17 = .ok (.aload_n 2, 1) := by decide +kernel
theorem dX7_reads_18 : decode cX7_reads 18 = .ok (.getfield 189, 3) := by decide +kernel
theorem dX7_reads_21 : decode cX7_reads 21 = .ok (.iconst (-1), 1) := by decide +kernel
theorem dX7_reads_22 : decode cX7_reads 22 = .ok (.if_icmp .ne 6, 3) := by decide +kernel
theorem dX7_reads_25 : decode cX7_reads 25 = .ok (.ldc 192, 2) := by decide +kernel
theorem dX7_reads_27 : decode cX7_reads 27 = .ok (.ireturn, 1) := by decide +kernel
theorem dX7_reads_28 : decode cX7_reads 28 = .ok (.iconst 0, 1) := by decide +kernel
theorem dX7_reads_29 : decode cX7_reads 29 = .ok (.istore_n 3, 1) := by decide +kernel
theorem dX7_reads_30 : decode cX7_reads 30 = .ok (.iload_n 3, 1) := by decide +kernel
theorem dX7_reads_31 : decode cX7_reads 31 = .ok (.aload_n 2, 1) := by decide +kernel
theorem dX7_reads_32 : decode cX7_reads 32 = .ok (.getfield 244, 3) := by decide +kernel
theorem dX7_reads_35 : decode cX7_reads 35 = .ok (.if_icmp .ge 47, 3) := by decide +kernel
theorem dX7_reads_38 : decode cX7_reads 38 = .ok (.aload_n 2, 1) := by decide +kernel
theorem dX7_reads_39 : decode cX7_reads 39 = .ok (.iload_n 3, 1) := by decide +kernel
theorem dX7_reads_40 : decode cX7_reads 40 = .ok (.invokevirtual 252, 3) := by decide +kernel
theorem dX7_reads_43 : decode cX7_reads 43 = .ok (.ifCond .eq 33, 3) := by decide +kernel
theorem dX7_reads_46 : decode cX7_reads 46 = .ok (.aload_n 0, 1) := by decide +kernel
theorem dX7_reads_47 : decode cX7_reads 47 = .ok (.getfield 28, 3) := by decide +kernel
theorem dX7_reads_50 : decode cX7_reads 50 = .ok (.iload_n 3, 1) := by decide +kernel
theorem dX7_reads_51 : decode cX7_reads 51 = .ok (.invokevirtual 70, 3) := by decide +kernel
theorem dX7_reads_54 : decode cX7_reads 54 = .ok (.ifCond .eq 20, 3) := by decide +kernel
theorem dX7_reads_57 : decode cX7_reads 57 = .ok (.aload_n 2, 1) := by decide +kernel
theorem dX7_reads_58 : decode cX7_reads 58 = .ok (.getfield 247, 3) := by decide +kernel
theorem dX7_reads_61 : decode cX7_reads 61 = .ok (.iload_n 3, 1) := by decide +kernel
theorem dX7_reads_62 : decode cX7_reads 62 = .ok (.iaload, 1) := by decide +kernel
theorem dX7_reads_63 : decode cX7_reads 63 = .ok (.aload_n 0, 1) := by decide +kernel
theorem dX7_reads_64 : decode cX7_reads 64 = .ok (.getfield 28, 3) := by decide +kernel
theorem dX7_reads_67 : decode cX7_reads 67 = .ok (.iload_n 3, 1) := by decide +kernel
theorem dX7_reads_68 : decode cX7_reads 68 = .ok (.invokevirtual 93, 3) := by decide +kernel
theorem dX7_reads_71 : decode cX7_reads 71 = .ok (.if_icmp .eq 5, 3) := by decide +kernel
theorem dX7_reads_74 : decode cX7_reads 74 = .ok (.iload_n 3, 1) := by decide +kernel
theorem dX7_reads_75 : decode cX7_reads 75 = .ok (.ireturn, 1) := by decide +kernel
theorem dX7_reads_76 : decode cX7_reads 76 = .ok (.iinc 3 1, 3) := by decide +kernel
theorem dX7_reads_79 : decode cX7_reads 79 = .ok (.goto (-49), 3) := by decide +kernel
theorem dX7_reads_82 : decode cX7_reads 82 = .ok (.ldc 109, 2) := by decide +kernel
theorem dX7_reads_84 : decode cX7_reads 84 = .ok (.ireturn, 1) := by decide +kernel
theorem dX7_copy_0 : decode cX7_copy 0 = .ok (.iload_n 1, 1) := by decide +kernel
theorem dX7_copy_1 : decode cX7_copy 1 = .ok (.invokestatic 186, 3) := by decide +kernel
theorem dX7_copy_4 : decode cX7_copy 4 = .ok (.ifCond .eq 10, 3) := by decide +kernel
theorem dX7_copy_7 : decode cX7_copy 7 = .ok (.iload_n 3, 1) := by decide +kernel
theorem dX7_copy_8 : decode cX7_copy 8 = .ok (.invokestatic 186, 3) := by decide +kernel
theorem dX7_copy_11 : decode cX7_copy 11 = .ok (.ifCond .ne 6, 3) := by decide +kernel
theorem dX7_copy_14 : decode cX7_copy 14 = .ok (.ldc 60, 2) := by decide +kernel
theorem dX7_copy_16 : decode cX7_copy 16 = .ok (.ireturn, 1) := by decide +kernel
theorem dX7_copy_17 : decode cX7_copy 17 = .ok (.aload_n 0, 1) := by decide +kernel
theorem dX7_copy_18 : decode cX7_copy 18 = .ok (.getfield 40, 3) := by decide +kernel
theorem dX7_copy_21 : decode cX7_copy 21 = .ok (.iload_n 1, 1) := by decide +kernel
theorem dX7_copy_22 : decode cX7_copy 22 = .ok (.aaload, 1) := by decide +kernel
theorem dX7_copy_23 : decode cX7_copy 23 = .ok (.astore 6, 2) := by decide +kernel
theorem dX7_copy_25 : decode cX7_copy 25 = .ok (.aload_n 0, 1) := by decide +kernel
theorem dX7_copy_26 : decode cX7_copy 26 = .ok (.getfield 40, 3) := by decide +kernel
theorem dX7_copy_29 : decode cX7_copy 29 = .ok (.iload_n 3, 1) := by decide +kernel
theorem dX7_copy_30 : decode cX7_copy 30 = .ok (.aaload, 1) := by decide +kernel
theorem dX7_copy_31 : decode cX7_copy 31 = .ok (.astore 7, 2) := by decide +kernel
theorem dX7_copy_33 : decode cX7_copy 33 = .ok (.aload 6, 2) := by decide +kernel
theorem dX7_copy_35 : decode cX7_copy 35 = .ok (.getfield 189, 3) := by decide +kernel
theorem dX7_copy_38 : decode cX7_copy 38 = .ok (.iconst (-1), 1) := by decide +kernel
theorem dX7_copy_39 : decode cX7_copy 39 = .ok (.if_icmp .eq 12, 3) := by decide +kernel
theorem dX7_copy_42 : decode cX7_copy 42 = .ok (.aload 7, 2) := by decide +kernel
theorem dX7_copy_44 : decode cX7_copy 44 = .ok (.getfield 189, 3) := by decide +kernel
theorem dX7_copy_47 : decode cX7_copy 47 = .ok (.iconst (-1), 1) := by decide +kernel
theorem dX7_copy_48 : decode cX7_copy 48 = .ok (.if_icmp .ne 6, 3) := by decide +kernel
theorem dX7_copy_51 : decode cX7_copy 51 = .ok (.ldc 192, 2) := by decide +kernel
theorem dX7_copy_53 : decode cX7_copy 53 = .ok (.ireturn, 1) := by decide +kernel
theorem dX7_copy_54 : decode cX7_copy 54 = .ok (.aload 6, 2) := by decide +kernel
theorem dX7_copy_56 : decode cX7_copy 56 = .ok (.getfield 189, 3) := by decide +kernel
theorem dX7_copy_59 : decode cX7_copy 59 = .ok (.aload 7, 2) := by decide +kernel
theorem dX7_copy_61 : decode cX7_copy 61 = .ok (.getfield 189, 3) := by decide +kernel
theorem dX7_copy_64 : decode cX7_copy 64 = .ok (.if_icmp .eq 6, 3) := by decide +kernel
theorem dX7_copy_67 : decode cX7_copy 67 = .ok (.ldc 119, 2) := by decide +kernel
theorem dX7_copy_69 : decode cX7_copy 69 = .ok (.ireturn, 1) := by decide +kernel
theorem dX7_copy_70 : decode cX7_copy 70 = .ok (.aload 6, 2) := by decide +kernel
theorem dX7_copy_72 : decode cX7_copy 72 = .ok (.iload_n 2, 1) := by decide +kernel
theorem dX7_copy_73 : decode cX7_copy 73 = .ok (.iload 5, 2) := by decide +kernel
theorem dX7_copy_75 : decode cX7_copy 75 = .ok (.invokevirtual 255, 3) := by decide +kernel
theorem dX7_copy_78 : decode cX7_copy 78 = .ok (.ifCond .eq 15, 3) := by decide +kernel
theorem dX7_copy_81 : decode cX7_copy 81 = .ok (.aload 7, 2) := by decide +kernel
theorem dX7_copy_83 : decode cX7_copy 83 = .ok (.iload 4, 2) := by decide +kernel
theorem dX7_copy_85 : decode cX7_copy 85 = .ok (.iload 5, 2) := by decide +kernel
theorem dX7_copy_87 : decode cX7_copy 87 = .ok (.invokevirtual 255, 3) := by decide +kernel
theorem dX7_copy_90 : decode cX7_copy 90 = .ok (.ifCond .ne 6, 3) := by decide +kernel
theorem dX7_copy_93 : decode cX7_copy 93 = .ok (.ldc 246, 2) := by decide +kernel
theorem dX7_copy_95 : decode cX7_copy 95 = .ok (.ireturn, 1) := by decide +kernel
theorem dX7_copy_96 : decode cX7_copy 96 = .ok (.aload 6, 2) := by decide +kernel
theorem dX7_copy_98 : decode cX7_copy 98 = .ok (.getfield 247, 3) := by decide +kernel
theorem dX7_copy_101 : decode cX7_copy 101 = .ok (.iload_n 2, 1) := by decide +kernel
theorem dX7_copy_102 : decode cX7_copy 102 = .ok (.aload 7, 2) := by decide +kernel
theorem dX7_copy_104 : decode cX7_copy 104 = .ok (.getfield 247, 3) := by decide +kernel
theorem dX7_copy_107 : decode cX7_copy 107 = .ok (.iload 4, 2) := by decide +kernel
theorem dX7_copy_109 : decode cX7_copy 109 = .ok (.iload 5, 2) := by decide +kernel
theorem dX7_copy_111 : decode cX7_copy 111 = .ok (.invokestatic 258, 3) := by decide +kernel
theorem dX7_copy_114 : decode cX7_copy 114 = .ok (.iload 5, 2) := by decide +kernel
theorem dX7_copy_116 : decode cX7_copy 116 = .ok (.ireturn, 1) := by decide +kernel
theorem dX7_lay_0 : decode cX7_lay 0 = .ok (.iload_n 1, 1) := by decide +kernel
theorem dX7_lay_1 : decode cX7_lay 1 = .ok (.invokestatic 264, 3) := by decide +kernel
theorem dX7_lay_4 : decode cX7_lay 4 = .ok (.ifCond .eq 12, 3) := by decide +kernel
theorem dX7_lay_7 : decode cX7_lay 7 = .ok (.iload_n 2, 1) := by decide +kernel
theorem dX7_lay_8 : decode cX7_lay 8 = .ok (.iconst 0, 1) := by decide +kernel
theorem dX7_lay_9 : decode cX7_lay 9 = .ok (.iconst 3, 1) := by decide +kernel
theorem dX7_lay_10 : decode cX7_lay 10 = .ok (.invokestatic 56, 3) := by decide +kernel
theorem dX7_lay_13 : decode cX7_lay 13 = .ok (.ifCond .ne 6, 3) := by decide +kernel
theorem dX7_lay_16 : decode cX7_lay 16 = .ok (.ldc 60, 2) := by decide +kernel
theorem dX7_lay_18 : decode cX7_lay 18 = .ok (.ireturn, 1) := by decide +kernel
theorem dX7_lay_19 : decode cX7_lay 19 = .ok (.iload_n 2, 1) := by decide +kernel
theorem dX7_lay_20 : decode cX7_lay 20 = .ok (.iconst 1, 1) := by decide +kernel
theorem dX7_lay_21 : decode cX7_lay 21 = .ok (.if_icmp .ne 14, 3) := by decide +kernel
theorem dX7_lay_24 : decode cX7_lay 24 = .ok (.aload_n 0, 1) := by decide +kernel
theorem dX7_lay_25 : decode cX7_lay 25 = .ok (.getfield 28, 3) := by decide +kernel
theorem dX7_lay_28 : decode cX7_lay 28 = .ok (.iload_n 3, 1) := by decide +kernel
theorem dX7_lay_29 : decode cX7_lay 29 = .ok (.invokevirtual 70, 3) := by decide +kernel
theorem dX7_lay_32 : decode cX7_lay 32 = .ok (.ifCond .eq 15, 3) := by decide +kernel
theorem dX7_lay_35 : decode cX7_lay 35 = .ok (.iload_n 2, 1) := by decide +kernel
theorem dX7_lay_36 : decode cX7_lay 36 = .ok (.iconst 2, 1) := by decide +kernel
theorem dX7_lay_37 : decode cX7_lay 37 = .ok (.if_icmp .ne 13, 3) := by decide +kernel
theorem dX7_lay_40 : decode cX7_lay 40 = .ok (.iload_n 3, 1) := by decide +kernel
theorem dX7_lay_41 : decode cX7_lay 41 = .ok (.invokestatic 186, 3) := by decide +kernel
theorem dX7_lay_44 : decode cX7_lay 44 = .ok (.ifCond .ne 6, 3) := by decide +kernel
theorem dX7_lay_47 : decode cX7_lay 47 = .ok (.ldc 60, 2) := by decide +kernel
theorem dX7_lay_49 : decode cX7_lay 49 = .ok (.ireturn, 1) := by decide +kernel
theorem dX7_lay_50 : decode cX7_lay 50 = .ok (.iload_n 2, 1) := by decide +kernel
theorem dX7_lay_51 : decode cX7_lay 51 = .ok (.iconst 2, 1) := by decide +kernel
theorem dX7_lay_52 : decode cX7_lay 52 = .ok (.if_icmp .ne 19, 3) := by decide +kernel
theorem dX7_lay_55 : decode cX7_lay 55 = .ok (.aload_n 0, 1) := by decide +kernel
theorem dX7_lay_56 : decode cX7_lay 56 = .ok (.getfield 40, 3) := by decide +kernel
theorem dX7_lay_59 : decode cX7_lay 59 = .ok (.iload_n 3, 1) := by decide +kernel
theorem dX7_lay_60 : decode cX7_lay 60 = .ok (.aaload, 1) := by decide +kernel
theorem dX7_lay_61 : decode cX7_lay 61 = .ok (.getfield 189, 3) := by decide +kernel
theorem dX7_lay_64 : decode cX7_lay 64 = .ok (.iconst (-1), 1) := by decide +kernel
theorem dX7_lay_65 : decode cX7_lay 65 = .ok (.if_icmp .ne 6, 3) := by decide +kernel
theorem dX7_lay_68 : decode cX7_lay 68 = .ok (.ldc 192, 2) := by decide +kernel
theorem dX7_lay_70 : decode cX7_lay 70 = .ok (.ireturn, 1) := by decide +kernel
theorem dX7_lay_71 : decode cX7_lay 71 = .ok (.aload_n 0, 1) := by decide +kernel
theorem dX7_lay_72 : decode cX7_lay 72 = .ok (.getfield 47, 3) := by decide +kernel
theorem dX7_lay_75 : decode cX7_lay 75 = .ok (.iload_n 1, 1) := by decide +kernel
theorem dX7_lay_76 : decode cX7_lay 76 = .ok (.aaload, 1) := by decide +kernel
theorem dX7_lay_77 : decode cX7_lay 77 = .ok (.astore 4, 2) := by decide +kernel
theorem dX7_lay_79 : decode cX7_lay 79 = .ok (.aload 4, 2) := by decide +kernel
theorem dX7_lay_81 : decode cX7_lay 81 = .ok (.getfield 267, 3) := by decide +kernel
theorem dX7_lay_84 : decode cX7_lay 84 = .ok (.istore 5, 2) := by decide +kernel
theorem dX7_lay_86 : decode cX7_lay 86 = .ok (.aload 4, 2) := by decide +kernel
theorem dX7_lay_88 : decode cX7_lay 88 = .ok (.iload_n 2, 1) := by decide +kernel
theorem dX7_lay_89 : decode cX7_lay 89 = .ok (.putfield 267, 3) := by decide +kernel
theorem dX7_lay_92 : decode cX7_lay 92 = .ok (.iload_n 2, 1) := by decide +kernel
theorem dX7_lay_93 : decode cX7_lay 93 = .ok (.iconst 1, 1) := by decide +kernel
theorem dX7_lay_94 : decode cX7_lay 94 = .ok (.if_icmp .ne 34, 3) := by decide +kernel
theorem dX7_lay_97 : decode cX7_lay 97 = .ok (.aload 4, 2) := by decide +kernel
theorem dX7_lay_99 : decode cX7_lay 99 = .ok (.aload_n 0, 1) := by decide +kernel
theorem dX7_lay_100 : decode cX7_lay 100 = .ok (.getfield 28, 3) := by decide +kernel
theorem dX7_lay_103 : decode cX7_lay 103 = .ok (.getfield 74, 3) := by decide +kernel
theorem dX7_lay_106 : decode cX7_lay 106 = .ok (.iload_n 3, 1) := by decide +kernel
theorem dX7_lay_107 : decode cX7_lay 107 = .ok (.iaload, 1) := by decide +kernel
theorem dX7_lay_108 : decode cX7_lay 108 = .ok (.putfield 270, 3) := by decide +kernel
theorem dX7_lay_111 : decode cX7_lay 111 = .ok (.aload 4, 2) := by decide +kernel
theorem dX7_lay_113 : decode cX7_lay 113 = .ok (.aload_n 0, 1) := by decide +kernel
theorem dX7_lay_114 : decode cX7_lay 114 = .ok (.getfield 28, 3) := by decide +kernel
theorem dX7_lay_117 : decode cX7_lay 117 = .ok (.getfield 83, 3) := by decide +kernel
theorem dX7_lay_120 : decode cX7_lay 120 = .ok (.iload_n 3, 1) := by decide +kernel
theorem dX7_lay_121 : decode cX7_lay 121 = .ok (.iaload, 1) := by decide +kernel
theorem dX7_lay_122 : decode cX7_lay 122 = .ok (.putfield 272, 3) := by decide +kernel
theorem dX7_lay_125 : decode cX7_lay 125 = .ok (.goto 31, 3) := by decide +kernel
theorem dX7_lay_128 : decode cX7_lay 128 = .ok (.iload_n 2, 1) := by decide +kernel
theorem dX7_lay_129 : decode cX7_lay 129 = .ok (.iconst 2, 1) := by decide +kernel
theorem dX7_lay_130 : decode cX7_lay 130 = .ok (.if_icmp .ne 20, 3) := by decide +kernel
theorem dX7_lay_133 : decode cX7_lay 133 = .ok (.aload 4, 2) := by decide +kernel
theorem dX7_lay_135 : decode cX7_lay 135 = .ok (.getfield 274, 3) := by decide +kernel
theorem dX7_lay_138 : decode cX7_lay 138 = .ok (.aload_n 0, 1) := by decide +kernel
theorem dX7_lay_139 : decode cX7_lay 139 = .ok (.getfield 40, 3) := by decide +kernel
theorem dX7_lay_142 : decode cX7_lay 142 = .ok (.iload_n 3, 1) := by decide +kernel
theorem dX7_lay_143 : decode cX7_lay 143 = .ok (.aaload, 1) := by decide +kernel
theorem dX7_lay_144 : decode cX7_lay 144 = .ok (.invokevirtual 278, 3) := by decide +kernel
theorem dX7_lay_147 : decode cX7_lay 147 = .ok (.goto 9, 3) := by decide +kernel
theorem dX7_lay_150 : decode cX7_lay 150 = .ok (.aload 4, 2) := by decide +kernel
theorem dX7_lay_152 : decode cX7_lay 152 = .ok (.iload_n 3, 1) := by decide +kernel
theorem dX7_lay_153 : decode cX7_lay 153 = .ok (.putfield 281, 3) := by decide +kernel
theorem dX7_lay_156 : decode cX7_lay 156 = .ok (.iload 5, 2) := by decide +kernel
theorem dX7_lay_158 : decode cX7_lay 158 = .ok (.ireturn, 1) := by decide +kernel
theorem dX7_ask_0 : decode cX7_ask 0 = .ok (.iload_n 1, 1) := by decide +kernel
theorem dX7_ask_1 : decode cX7_ask 1 = .ok (.invokestatic 264, 3) := by decide +kernel
theorem dX7_ask_4 : decode cX7_ask 4 = .ok (.ifCond .eq 12, 3) := by decide +kernel
theorem dX7_ask_7 : decode cX7_ask 7 = .ok (.iload_n 2, 1) := by decide +kernel
theorem dX7_ask_8 : decode cX7_ask 8 = .ok (.iconst 0, 1) := by decide +kernel
theorem dX7_ask_9 : decode cX7_ask 9 = .ok (.iconst 5, 1) := by decide +kernel
theorem dX7_ask_10 : decode cX7_ask 10 = .ok (.invokestatic 56, 3) := by decide +kernel
theorem dX7_ask_13 : decode cX7_ask 13 = .ok (.ifCond .ne 6, 3) := by decide +kernel
theorem dX7_ask_16 : decode cX7_ask 16 = .ok (.ldc 60, 2) := by decide +kernel
theorem dX7_ask_18 : decode cX7_ask 18 = .ok (.ireturn, 1) := by decide +kernel
theorem dX7_ask_19 : decode cX7_ask 19 = .ok (.aload_n 0, 1) := by decide +kernel
theorem dX7_ask_20 : decode cX7_ask 20 = .ok (.getfield 47, 3) := by decide +kernel
theorem dX7_ask_23 : decode cX7_ask 23 = .ok (.iload_n 1, 1) := by decide +kernel
theorem dX7_ask_24 : decode cX7_ask 24 = .ok (.aaload, 1) := by decide +kernel
theorem dX7_ask_25 : decode cX7_ask 25 = .ok (.astore_n 3, 1) := by decide +kernel
theorem dX7_ask_26 : decode cX7_ask 26 = .ok (.aload_n 3, 1) := by decide +kernel
theorem dX7_ask_27 : decode cX7_ask 27 = .ok (.getfield 267, 3) := by decide +kernel
theorem dX7_ask_30 : decode cX7_ask 30 = .ok (.ifCond .ne 6, 3) := by decide +kernel
theorem dX7_ask_33 : decode cX7_ask 33 = .ok (.ldc 192, 2) := by decide +kernel
theorem dX7_ask_35 : decode cX7_ask 35 = .ok (.ireturn, 1) := by decide +kernel
theorem dX7_ask_36 : decode cX7_ask 36 = .ok (.aload_n 3, 1) := by decide +kernel
theorem dX7_ask_37 : decode cX7_ask 37 = .ok (.getfield 267, 3) := by decide +kernel
theorem dX7_ask_40 : decode cX7_ask 40 = .ok (.iconst 1, 1) := by decide +kernel
theorem dX7_ask_41 : decode cX7_ask 41 = .ok (.if_icmp .ne 14, 3) := by decide +kernel
theorem dX7_ask_44 : decode cX7_ask 44 = .ok (.aload_n 3, 1) := by decide +kernel
theorem dX7_ask_45 : decode cX7_ask 45 = .ok (.getfield 270, 3) := by decide +kernel
theorem dX7_ask_48 : decode cX7_ask 48 = .ok (.iload_n 2, 1) := by decide +kernel
theorem dX7_ask_49 : decode cX7_ask 49 = .ok (.invokestatic 115, 3) := by decide +kernel
theorem dX7_ask_52 : decode cX7_ask 52 = .ok (.ifCond .ne 6, 3) := by decide +kernel
theorem dX7_ask_55 : decode cX7_ask 55 = .ok (.ldc 119, 2) := by decide +kernel
theorem dX7_ask_57 : decode cX7_ask 57 = .ok (.ireturn, 1) := by decide +kernel
theorem dX7_ask_58 : decode cX7_ask 58 = .ok (.aload_n 3, 1) := by decide +kernel
theorem dX7_ask_59 : decode cX7_ask 59 = .ok (.getfield 270, 3) := by decide +kernel
theorem dX7_ask_62 : decode cX7_ask 62 = .ok (.aload_n 3, 1) := by decide +kernel
theorem dX7_ask_63 : decode cX7_ask 63 = .ok (.getfield 272, 3) := by decide +kernel
theorem dX7_ask_66 : decode cX7_ask 66 = .ok (.invokestatic 99, 3) := by decide +kernel
theorem dX7_ask_69 : decode cX7_ask 69 = .ok (.ireturn, 1) := by decide +kernel
theorem dX7_item_0 : decode cX7_item 0 = .ok (.iload_n 1, 1) := by decide +kernel
theorem dX7_item_1 : decode cX7_item 1 = .ok (.invokestatic 264, 3) := by decide +kernel
theorem dX7_item_4 : decode cX7_item 4 = .ok (.ifCond .ne 6, 3) := by decide +kernel
theorem dX7_item_7 : decode cX7_item 7 = .ok (.ldc 60, 2) := by decide +kernel
theorem dX7_item_9 : decode cX7_item 9 = .ok (.ireturn, 1) := by decide +kernel
theorem dX7_item_10 : decode cX7_item 10 = .ok (.aload_n 0, 1) := by decide +kernel
theorem dX7_item_11 : decode cX7_item 11 = .ok (.getfield 47, 3) := by decide +kernel
theorem dX7_item_14 : decode cX7_item 14 = .ok (.iload_n 1, 1) := by decide +kernel
theorem dX7_item_15 : decode cX7_item 15 = .ok (.aaload, 1) := by decide +kernel
theorem dX7_item_16 : decode cX7_item 16 = .ok (.astore_n 3, 1) := by decide +kernel
theorem dX7_item_17 : decode cX7_item 17 = .ok (.aload_n 3, 1) := by decide +kernel
theorem dX7_item_18 : decode cX7_item 18 = .ok (.getfield 267, 3) := by decide +kernel
theorem dX7_item_21 : decode cX7_item 21 = .ok (.ifCond .ne 6, 3) := by decide +kernel
theorem dX7_item_24 : decode cX7_item 24 = .ok (.ldc 192, 2) := by decide +kernel
theorem dX7_item_26 : decode cX7_item 26 = .ok (.ireturn, 1) := by decide +kernel
theorem dX7_item_27 : decode cX7_item 27 = .ok (.aload_n 3, 1) := by decide +kernel
theorem dX7_item_28 : decode cX7_item 28 = .ok (.getfield 267, 3) := by decide +kernel
theorem dX7_item_31 : decode cX7_item 31 = .ok (.iconst 2, 1) := by decide +kernel
theorem dX7_item_32 : decode cX7_item 32 = .ok (.if_icmp .eq 6, 3) := by decide +kernel
theorem dX7_item_35 : decode cX7_item 35 = .ok (.ldc 119, 2) := by decide +kernel
theorem dX7_item_37 : decode cX7_item 37 = .ok (.ireturn, 1) := by decide +kernel
theorem dX7_item_38 : decode cX7_item 38 = .ok (.aload_n 3, 1) := by decide +kernel
theorem dX7_item_39 : decode cX7_item 39 = .ok (.getfield 274, 3) := by decide +kernel
theorem dX7_item_42 : decode cX7_item 42 = .ok (.iload_n 2, 1) := by decide +kernel
theorem dX7_item_43 : decode cX7_item 43 = .ok (.invokevirtual 245, 3) := by decide +kernel
theorem dX7_item_46 : decode cX7_item 46 = .ok (.ifCond .ne 6, 3) := by decide +kernel
theorem dX7_item_49 : decode cX7_item 49 = .ok (.ldc 246, 2) := by decide +kernel
theorem dX7_item_51 : decode cX7_item 51 = .ok (.ireturn, 1) := by decide +kernel
theorem dX7_item_52 : decode cX7_item 52 = .ok (.aload_n 3, 1) := by decide +kernel
theorem dX7_item_53 : decode cX7_item 53 = .ok (.getfield 274, 3) := by decide +kernel
theorem dX7_item_56 : decode cX7_item 56 = .ok (.iload_n 2, 1) := by decide +kernel
theorem dX7_item_57 : decode cX7_item 57 = .ok (.invokevirtual 252, 3) := by decide +kernel
theorem dX7_item_60 : decode cX7_item 60 = .ok (.ifCond .eq 15, 3) := by decide +kernel
theorem dX7_item_63 : decode cX7_item 63 = .ok (.aload_n 3, 1) := by decide +kernel
theorem dX7_item_64 : decode cX7_item 64 = .ok (.getfield 274, 3) := by decide +kernel
theorem dX7_item_67 : decode cX7_item 67 = .ok (.getfield 247, 3) := by decide +kernel
theorem dX7_item_70 : decode cX7_item 70 = .ok (.iload_n 2, 1) := by decide +kernel
theorem dX7_item_71 : decode cX7_item 71 = .ok (.iaload, 1) := by decide +kernel
theorem dX7_item_72 : decode cX7_item 72 = .ok (.goto 5, 3) := by decide +kernel
theorem dX7_item_75 : decode cX7_item 75 = .ok (.ldc 119, 2) := by decide +kernel
theorem dX7_item_77 : decode cX7_item 77 = .ok (.ireturn, 1) := by decide +kernel
theorem dX7_rest_0 : decode cX7_rest 0 = .ok (.iload_n 1, 1) := by decide +kernel
theorem dX7_rest_1 : decode cX7_rest 1 = .ok (.invokestatic 264, 3) := by decide +kernel
theorem dX7_rest_4 : decode cX7_rest 4 = .ok (.ifCond .ne 6, 3) := by decide +kernel
theorem dX7_rest_7 : decode cX7_rest 7 = .ok (.ldc 60, 2) := by decide +kernel
theorem dX7_rest_9 : decode cX7_rest 9 = .ok (.ireturn, 1) := by decide +kernel
theorem dX7_rest_10 : decode cX7_rest 10 = .ok (.aload_n 0, 1) := by decide +kernel
theorem dX7_rest_11 : decode cX7_rest 11 = .ok (.getfield 47, 3) := by decide +kernel
theorem dX7_rest_14 : decode cX7_rest 14 = .ok (.iload_n 1, 1) := by decide +kernel
theorem dX7_rest_15 : decode cX7_rest 15 = .ok (.aaload, 1) := by decide +kernel
theorem dX7_rest_16 : decode cX7_rest 16 = .ok (.astore_n 3, 1) := by decide +kernel
theorem dX7_rest_17 : decode cX7_rest 17 = .ok (.aload_n 3, 1) := by decide +kernel
theorem dX7_rest_18 : decode cX7_rest 18 = .ok (.getfield 267, 3) := by decide +kernel
theorem dX7_rest_21 : decode cX7_rest 21 = .ok (.ifCond .ne 6, 3) := by decide +kernel
theorem dX7_rest_24 : decode cX7_rest 24 = .ok (.ldc 192, 2) := by decide +kernel
theorem dX7_rest_26 : decode cX7_rest 26 = .ok (.ireturn, 1) := by decide +kernel
theorem dX7_rest_27 : decode cX7_rest 27 = .ok (.aload_n 3, 1) := by decide +kernel
theorem dX7_rest_28 : decode cX7_rest 28 = .ok (.getfield 267, 3) := by decide +kernel
theorem dX7_rest_31 : decode cX7_rest 31 = .ok (.iconst 3, 1) := by decide +kernel
theorem dX7_rest_32 : decode cX7_rest 32 = .ok (.if_icmp .eq 6, 3) := by decide +kernel
theorem dX7_rest_35 : decode cX7_rest 35 = .ok (.ldc 119, 2) := by decide +kernel
theorem dX7_rest_37 : decode cX7_rest 37 = .ok (.ireturn, 1) := by decide +kernel
theorem dX7_rest_38 : decode cX7_rest 38 = .ok (.iload_n 2, 1) := by decide +kernel
theorem dX7_rest_39 : decode cX7_rest 39 = .ok (.ifCond .ne 9, 3) := by decide +kernel
theorem dX7_rest_42 : decode cX7_rest 42 = .ok (.ldc_w 284, 3) := by decide +kernel
theorem dX7_rest_45 : decode cX7_rest 45 = .ok (.goto 9, 3) := by decide +kernel
theorem dX7_rest_48 : decode cX7_rest 48 = .ok (.aload_n 3, 1) := by decide +kernel
theorem dX7_rest_49 : decode cX7_rest 49 = .ok (.getfield 281, 3) := by decide +kernel
theorem dX7_rest_52 : decode cX7_rest 52 = .ok (.iload_n 2, 1) := by decide +kernel
theorem dX7_rest_53 : decode cX7_rest 53 = .ok (.irem, 1) := by decide +kernel
theorem dX7_rest_54 : decode cX7_rest 54 = .ok (.ireturn, 1) := by decide +kernel
theorem dX7_tell_0 : decode cX7_tell 0 = .ok (.aload_n 0, 1) := by decide +kernel
theorem dX7_tell_1 : decode cX7_tell 1 = .ok (.getfield 285, 3) := by decide +kernel
theorem dX7_tell_4 : decode cX7_tell 4 = .ok (.bipush 60, 2) := by decide +kernel
theorem dX7_tell_6 : decode cX7_tell 6 = .ok (.if_icmp .lt 6, 3) := by decide +kernel
theorem dX7_tell_9 : decode cX7_tell 9 = .ok (.ldc 65, 2) := by decide +kernel
theorem dX7_tell_11 : decode cX7_tell 11 = .ok (.ireturn, 1) := by decide +kernel
theorem dX7_tell_12 : decode cX7_tell 12 = .ok (.aload_n 0, 1) := by decide +kernel
theorem dX7_tell_13 : decode cX7_tell 13 = .ok (.getfield 52, 3) := by decide +kernel
theorem dX7_tell_16 : decode cX7_tell 16 = .ok (.aload_n 0, 1) := by decide +kernel
theorem dX7_tell_17 : decode cX7_tell 17 = .ok (.getfield 285, 3) := by decide +kernel
theorem dX7_tell_20 : decode cX7_tell 20 = .ok (.iload_n 1, 1) := by decide +kernel
theorem dX7_tell_21 : decode cX7_tell 21 = .ok (.iastore, 1) := by decide +kernel
theorem dX7_tell_22 : decode cX7_tell 22 = .ok (.aload_n 0, 1) := by decide +kernel
theorem dX7_tell_23 : decode cX7_tell 23 = .ok (.dup, 1) := by decide +kernel
theorem dX7_tell_24 : decode cX7_tell 24 = .ok (.getfield 285, 3) := by decide +kernel
theorem dX7_tell_27 : decode cX7_tell 27 = .ok (.iconst 1, 1) := by decide +kernel
theorem dX7_tell_28 : decode cX7_tell 28 = .ok (.iadd, 1) := by decide +kernel
theorem dX7_tell_29 : decode cX7_tell 29 = .ok (.putfield 285, 3) := by decide +kernel
theorem dX7_tell_32 : decode cX7_tell 32 = .ok (.aload_n 0, 1) := by decide +kernel
theorem dX7_tell_33 : decode cX7_tell 33 = .ok (.getfield 285, 3) := by decide +kernel
theorem dX7_tell_36 : decode cX7_tell 36 = .ok (.ireturn, 1) := by decide +kernel
theorem dX7_check_0 : decode cX7_check 0 = .ok (.aload_n 0, 1) := by decide +kernel
theorem dX7_check_1 : decode cX7_check 1 = .ok (.getfield 285, 3) := by decide +kernel
theorem dX7_check_4 : decode cX7_check 4 = .ok (.istore_n 2, 1) := by decide +kernel
theorem dX7_check_5 : decode cX7_check 5 = .ok (.aload_n 0, 1) := by decide +kernel
theorem dX7_check_6 : decode cX7_check 6 = .ok (.iconst 0, 1) := by decide +kernel
theorem dX7_check_7 : decode cX7_check 7 = .ok (.putfield 285, 3) := by decide +kernel
theorem dX7_check_10 : decode cX7_check 10 = .ok (.iload_n 1, 1) := by decide +kernel
theorem dX7_check_11 : decode cX7_check 11 = .ok (.iconst 1, 1) := by decide +kernel
theorem dX7_check_12 : decode cX7_check 12 = .ok (.bipush 30, 2) := by decide +kernel
theorem dX7_check_14 : decode cX7_check 14 = .ok (.invokestatic 56, 3) := by decide +kernel
theorem dX7_check_17 : decode cX7_check 17 = .ok (.ifCond .ne 6, 3) := by decide +kernel
theorem dX7_check_20 : decode cX7_check 20 = .ok (.ldc 60, 2) := by decide +kernel
theorem dX7_check_22 : decode cX7_check 22 = .ok (.ireturn, 1) := by decide +kernel
theorem dX7_check_23 : decode cX7_check 23 = .ok (.aload_n 0, 1) := by decide +kernel
theorem dX7_check_24 : decode cX7_check 24 = .ok (.getfield 288, 3) := by decide +kernel
theorem dX7_check_27 : decode cX7_check 27 = .ok (.ifCond .ne 7, 3) := by decide +kernel
theorem dX7_check_30 : decode cX7_check 30 = .ok (.ldc_w 284, 3) := by decide +kernel
theorem dX7_check_33 : decode cX7_check 33 = .ok (.ireturn, 1) := by decide +kernel
theorem dX7_check_34 : decode cX7_check 34 = .ok (.aload_n 0, 1) := by decide +kernel
theorem dX7_check_35 : decode cX7_check 35 = .ok (.getfield 35, 3) := by decide +kernel
theorem dX7_check_38 : decode cX7_check 38 = .ok (.aload_n 0, 1) := by decide +kernel
theorem dX7_check_39 : decode cX7_check 39 = .ok (.getfield 32, 3) := by decide +kernel
theorem dX7_check_42 : decode cX7_check 42 = .ok (.invokevirtual 179, 3) := by decide +kernel
theorem dX7_check_45 : decode cX7_check 45 = .ok (.iconst 2, 1) := by decide +kernel
theorem dX7_check_46 : decode cX7_check 46 = .ok (.iload_n 1, 1) := by decide +kernel
theorem dX7_check_47 : decode cX7_check 47 = .ok (.sipush 9999, 3) := by decide +kernel
theorem dX7_check_50 : decode cX7_check 50 = .ok (.aload_n 0, 1) := by decide +kernel
theorem dX7_check_51 : decode cX7_check 51 = .ok (.getfield 32, 3) := by decide +kernel
theorem dX7_check_54 : decode cX7_check 54 = .ok (.getfield 153, 3) := by decide +kernel
theorem dX7_check_57 : decode cX7_check 57 = .ok (.isub, 1) := by decide +kernel
theorem dX7_check_58 : decode cX7_check 58 = .ok (.invokestatic 139, 3) := by decide +kernel
theorem dX7_check_61 : decode cX7_check 61 = .ok (.imul, 1) := by decide +kernel
theorem dX7_check_62 : decode cX7_check 62 = .ok (.istore_n 3, 1) := by decide +kernel
theorem dX7_check_63 : decode cX7_check 63 = .ok (.iconst 0, 1) := by decide +kernel
theorem dX7_check_64 : decode cX7_check 64 = .ok (.istore 4, 2) := by decide +kernel
theorem dX7_check_66 : decode cX7_check 66 = .ok (.iload 4, 2) := by decide +kernel
theorem dX7_check_68 : decode cX7_check 68 = .ok (.iload_n 3, 1) := by decide +kernel
theorem dX7_check_69 : decode cX7_check 69 = .ok (.if_icmp .ge 64, 3) := by decide +kernel
theorem dX7_check_72 : decode cX7_check 72 = .ok (.aload_n 0, 1) := by decide +kernel
theorem dX7_check_73 : decode cX7_check 73 = .ok (.getfield 35, 3) := by decide +kernel
theorem dX7_check_76 : decode cX7_check 76 = .ok (.iconst (-1), 1) := by decide +kernel
theorem dX7_check_77 : decode cX7_check 77 = .ok (.invokevirtual 183, 3) := by decide +kernel
theorem dX7_check_80 : decode cX7_check 80 = .ok (.pop, 1) := by decide +kernel
theorem dX7_check_81 : decode cX7_check 81 = .ok (.aload_n 0, 1) := by decide +kernel
theorem dX7_check_82 : decode cX7_check 82 = .ok (.iload_n 2, 1) := by decide +kernel
theorem dX7_check_83 : decode cX7_check 83 = .ok (.iload 4, 2) := by decide +kernel
theorem dX7_check_85 : decode cX7_check 85 = .ok (.aload_n 0, 1) := by decide +kernel
theorem dX7_check_86 : decode cX7_check 86 = .ok (.getfield 35, 3) := by decide +kernel
theorem dX7_check_89 : decode cX7_check 89 = .ok (.invokevirtual 169, 3) := by decide +kernel
theorem dX7_check_92 : decode cX7_check 92 = .ok (.invokevirtual 292, 3) := by decide +kernel
theorem dX7_check_95 : decode cX7_check 95 = .ok (.ifCond .ne 8, 3) := by decide +kernel
theorem dX7_check_98 : decode cX7_check 98 = .ok (.iconst 1, 1) := by decide +kernel
theorem dX7_check_99 : decode cX7_check 99 = .ok (.iload 4, 2) := by decide +kernel
theorem dX7_check_101 : decode cX7_check 101 = .ok (.iadd, 1) := by decide +kernel
theorem dX7_check_102 : decode cX7_check 102 = .ok (.ireturn, 1) := by decide +kernel
theorem dX7_check_103 : decode cX7_check 103 = .ok (.aload_n 0, 1) := by decide +kernel
theorem dX7_check_104 : decode cX7_check 104 = .ok (.iload_n 2, 1) := by decide +kernel
theorem dX7_check_105 : decode cX7_check 105 = .ok (.iload 4, 2) := by decide +kernel
theorem dX7_check_107 : decode cX7_check 107 = .ok (.iconst 1, 1) := by decide +kernel
theorem dX7_check_108 : decode cX7_check 108 = .ok (.iadd, 1) := by decide +kernel
theorem dX7_check_109 : decode cX7_check 109 = .ok (.aload_n 0, 1) := by decide +kernel
theorem dX7_check_110 : decode cX7_check 110 = .ok (.getfield 35, 3) := by decide +kernel
theorem dX7_check_113 : decode cX7_check 113 = .ok (.invokevirtual 163, 3) := by decide +kernel
theorem dX7_check_116 : decode cX7_check 116 = .ok (.invokevirtual 292, 3) := by decide +kernel
theorem dX7_check_119 : decode cX7_check 119 = .ok (.ifCond .ne 8, 3) := by decide +kernel
theorem dX7_check_122 : decode cX7_check 122 = .ok (.iconst 2, 1) := by decide +kernel
theorem dX7_check_123 : decode cX7_check 123 = .ok (.iload 4, 2) := by decide +kernel
theorem dX7_check_125 : decode cX7_check 125 = .ok (.iadd, 1) := by decide +kernel
theorem dX7_check_126 : decode cX7_check 126 = .ok (.ireturn, 1) := by decide +kernel
theorem dX7_check_127 : decode cX7_check 127 = .ok (.iinc 4 2, 3) := by decide +kernel
theorem dX7_check_130 : decode cX7_check 130 = .ok (.goto (-64), 3) := by decide +kernel
theorem dX7_check_133 : decode cX7_check 133 = .ok (.iload_n 2, 1) := by decide +kernel
theorem dX7_check_134 : decode cX7_check 134 = .ok (.iload_n 3, 1) := by decide +kernel
theorem dX7_check_135 : decode cX7_check 135 = .ok (.if_icmp .le 9, 3) := by decide +kernel
theorem dX7_check_138 : decode cX7_check 138 = .ok (.iconst 1, 1) := by decide +kernel
theorem dX7_check_139 : decode cX7_check 139 = .ok (.iload_n 3, 1) := by decide +kernel
theorem dX7_check_140 : decode cX7_check 140 = .ok (.iadd, 1) := by decide +kernel
theorem dX7_check_141 : decode cX7_check 141 = .ok (.goto 4, 3) := by decide +kernel
theorem dX7_check_144 : decode cX7_check 144 = .ok (.iconst 0, 1) := by decide +kernel
theorem dX7_check_145 : decode cX7_check 145 = .ok (.ireturn, 1) := by decide +kernel
theorem dX7_keep_0 : decode cX7_keep 0 = .ok (.aload_n 0, 1) := by decide +kernel
theorem dX7_keep_1 : decode cX7_keep 1 = .ok (.getfield 32, 3) := by decide +kernel
theorem dX7_keep_4 : decode cX7_keep 4 = .ok (.aload_n 0, 1) := by decide +kernel
theorem dX7_keep_5 : decode cX7_keep 5 = .ok (.getfield 28, 3) := by decide +kernel
theorem dX7_keep_8 : decode cX7_keep 8 = .ok (.invokevirtual 179, 3) := by decide +kernel
theorem dX7_keep_11 : decode cX7_keep 11 = .ok (.aload_n 0, 1) := by decide +kernel
theorem dX7_keep_12 : decode cX7_keep 12 = .ok (.iconst 1, 1) := by decide +kernel
theorem dX7_keep_13 : decode cX7_keep 13 = .ok (.putfield 288, 3) := by decide +kernel
theorem dX7_keep_16 : decode cX7_keep 16 = .ok (.aload_n 0, 1) := by decide +kernel
theorem dX7_keep_17 : decode cX7_keep 17 = .ok (.getfield 28, 3) := by decide +kernel
theorem dX7_keep_20 : decode cX7_keep 20 = .ok (.getfield 61, 3) := by decide +kernel
theorem dX7_keep_23 : decode cX7_keep 23 = .ok (.ireturn, 1) := by decide +kernel
theorem dX7_back_0 : decode cX7_back 0 = .ok (.aload_n 0, 1) := by decide +kernel
theorem dX7_back_1 : decode cX7_back 1 = .ok (.getfield 288, 3) := by decide +kernel
theorem dX7_back_4 : decode cX7_back 4 = .ok (.ifCond .ne 7, 3) := by decide +kernel
theorem dX7_back_7 : decode cX7_back 7 = .ok (.ldc_w 284, 3) := by decide +kernel
theorem dX7_back_10 : decode cX7_back 10 = .ok (.ireturn, 1) := by decide +kernel
theorem dX7_back_11 : decode cX7_back 11 = .ok (.aload_n 0, 1) := by decide +kernel
theorem dX7_back_12 : decode cX7_back 12 = .ok (.getfield 28, 3) := by decide +kernel
theorem dX7_back_15 : decode cX7_back 15 = .ok (.aload_n 0, 1) := by decide +kernel
theorem dX7_back_16 : decode cX7_back 16 = .ok (.getfield 32, 3) := by decide +kernel
theorem dX7_back_19 : decode cX7_back 19 = .ok (.invokevirtual 179, 3) := by decide +kernel
theorem dX7_back_22 : decode cX7_back 22 = .ok (.aload_n 0, 1) := by decide +kernel
theorem dX7_back_23 : decode cX7_back 23 = .ok (.getfield 28, 3) := by decide +kernel
theorem dX7_back_26 : decode cX7_back 26 = .ok (.getfield 61, 3) := by decide +kernel
theorem dX7_back_29 : decode cX7_back 29 = .ok (.ireturn, 1) := by decide +kernel
theorem dX7_count_0 : decode cX7_count 0 = .ok (.iload_n 1, 1) := by decide +kernel
theorem dX7_count_1 : decode cX7_count 1 = .ok (.tableswitch 132 0 9 #[55, 63, 71, 79, 87, 95, 103, 111, 116, 124], 55) := by decide +kernel
theorem dX7_count_56 : decode cX7_count 56 = .ok (.aload_n 0, 1) := by decide +kernel
theorem dX7_count_57 : decode cX7_count 57 = .ok (.getfield 28, 3) := by decide +kernel
theorem dX7_count_60 : decode cX7_count 60 = .ok (.getfield 61, 3) := by decide +kernel
theorem dX7_count_63 : decode cX7_count 63 = .ok (.ireturn, 1) := by decide +kernel
theorem dX7_count_64 : decode cX7_count 64 = .ok (.aload_n 0, 1) := by decide +kernel
theorem dX7_count_65 : decode cX7_count 65 = .ok (.getfield 28, 3) := by decide +kernel
theorem dX7_count_68 : decode cX7_count 68 = .ok (.getfield 153, 3) := by decide +kernel
theorem dX7_count_71 : decode cX7_count 71 = .ok (.ireturn, 1) := by decide +kernel
theorem dX7_count_72 : decode cX7_count 72 = .ok (.aload_n 0, 1) := by decide +kernel
theorem dX7_count_73 : decode cX7_count 73 = .ok (.getfield 28, 3) := by decide +kernel
theorem dX7_count_76 : decode cX7_count 76 = .ok (.getfield 130, 3) := by decide +kernel
theorem dX7_count_79 : decode cX7_count 79 = .ok (.ireturn, 1) := by decide +kernel
theorem dX7_count_80 : decode cX7_count 80 = .ok (.aload_n 0, 1) := by decide +kernel
theorem dX7_count_81 : decode cX7_count 81 = .ok (.getfield 28, 3) := by decide +kernel
theorem dX7_count_84 : decode cX7_count 84 = .ok (.getfield 133, 3) := by decide +kernel
theorem dX7_count_87 : decode cX7_count 87 = .ok (.ireturn, 1) := by decide +kernel
theorem dX7_count_88 : decode cX7_count 88 = .ok (.aload_n 0, 1) := by decide +kernel
theorem dX7_count_89 : decode cX7_count 89 = .ok (.getfield 28, 3) := by decide +kernel
theorem dX7_count_92 : decode cX7_count 92 = .ok (.getfield 136, 3) := by decide +kernel
theorem dX7_count_95 : decode cX7_count 95 = .ok (.ireturn, 1) := by decide +kernel
theorem dX7_count_96 : decode cX7_count 96 = .ok (.aload_n 0, 1) := by decide +kernel
theorem dX7_count_97 : decode cX7_count 97 = .ok (.getfield 28, 3) := by decide +kernel
theorem dX7_count_100 : decode cX7_count 100 = .ok (.invokevirtual 163, 3) := by decide +kernel
theorem dX7_count_103 : decode cX7_count 103 = .ok (.ireturn, 1) := by decide +kernel
theorem dX7_count_104 : decode cX7_count 104 = .ok (.aload_n 0, 1) := by decide +kernel
theorem dX7_count_105 : decode cX7_count 105 = .ok (.getfield 28, 3) := by decide +kernel
theorem dX7_count_108 : decode cX7_count 108 = .ok (.getfield 214, 3) := by decide +kernel
theorem dX7_count_111 : decode cX7_count 111 = .ok (.ireturn, 1) := by decide +kernel
theorem dX7_count_112 : decode cX7_count 112 = .ok (.aload_n 0, 1) := by decide +kernel
theorem dX7_count_113 : decode cX7_count 113 = .ok (.getfield 285, 3) := by decide +kernel
theorem dX7_count_116 : decode cX7_count 116 = .ok (.ireturn, 1) := by decide +kernel
theorem dX7_count_117 : decode cX7_count 117 = .ok (.aload_n 0, 1) := by decide +kernel
theorem dX7_count_118 : decode cX7_count 118 = .ok (.getfield 19, 3) := by decide +kernel
theorem dX7_count_121 : decode cX7_count 121 = .ok (.getfield 204, 3) := by decide +kernel
theorem dX7_count_124 : decode cX7_count 124 = .ok (.ireturn, 1) := by decide +kernel
theorem dX7_count_125 : decode cX7_count 125 = .ok (.aload_n 0, 1) := by decide +kernel
theorem dX7_count_126 : decode cX7_count 126 = .ok (.getfield 28, 3) := by decide +kernel
theorem dX7_count_129 : decode cX7_count 129 = .ok (.getfield 147, 3) := by decide +kernel
theorem dX7_count_132 : decode cX7_count 132 = .ok (.ireturn, 1) := by decide +kernel
theorem dX7_count_133 : decode cX7_count 133 = .ok (.ldc 60, 2) := by decide +kernel
theorem dX7_count_135 : decode cX7_count 135 = .ok (.ireturn, 1) := by decide +kernel
theorem dX7_think_0 : decode cX7_think 0 = .ok (.aload_n 0, 1) := by decide +kernel
theorem dX7_think_1 : decode cX7_think 1 = .ok (.getfield 35, 3) := by decide +kernel
theorem dX7_think_4 : decode cX7_think 4 = .ok (.aload_n 0, 1) := by decide +kernel
theorem dX7_think_5 : decode cX7_think 5 = .ok (.getfield 28, 3) := by decide +kernel
theorem dX7_think_8 : decode cX7_think 8 = .ok (.invokevirtual 179, 3) := by decide +kernel
theorem dX7_think_11 : decode cX7_think 11 = .ok (.aload_n 0, 1) := by decide +kernel
theorem dX7_think_12 : decode cX7_think 12 = .ok (.getfield 35, 3) := by decide +kernel
theorem dX7_think_15 : decode cX7_think 15 = .ok (.iload_n 1, 1) := by decide +kernel
theorem dX7_think_16 : decode cX7_think 16 = .ok (.iload_n 2, 1) := by decide +kernel
theorem dX7_think_17 : decode cX7_think 17 = .ok (.invokevirtual 156, 3) := by decide +kernel
theorem dX7_think_20 : decode cX7_think 20 = .ok (.pop, 1) := by decide +kernel
theorem dX7_think_21 : decode cX7_think 21 = .ok (.return_, 1) := by decide +kernel
theorem dX7_isSaid_0 : decode cX7_isSaid 0 = .ok (.iload_n 2, 1) := by decide +kernel
theorem dX7_isSaid_1 : decode cX7_isSaid 1 = .ok (.iload_n 1, 1) := by decide +kernel
theorem dX7_isSaid_2 : decode cX7_isSaid 2 = .ok (.if_icmp .ge 23, 3) := by decide +kernel
theorem dX7_isSaid_5 : decode cX7_isSaid 5 = .ok (.iload_n 2, 1) := by decide +kernel
theorem dX7_isSaid_6 : decode cX7_isSaid 6 = .ok (.bipush 60, 2) := by decide +kernel
theorem dX7_isSaid_8 : decode cX7_isSaid 8 = .ok (.if_icmp .ge 17, 3) := by decide +kernel
theorem dX7_isSaid_11 : decode cX7_isSaid 11 = .ok (.aload_n 0, 1) := by decide +kernel
theorem dX7_isSaid_12 : decode cX7_isSaid 12 = .ok (.getfield 52, 3) := by decide +kernel
theorem dX7_isSaid_15 : decode cX7_isSaid 15 = .ok (.iload_n 2, 1) := by decide +kernel
theorem dX7_isSaid_16 : decode cX7_isSaid 16 = .ok (.iaload, 1) := by decide +kernel
theorem dX7_isSaid_17 : decode cX7_isSaid 17 = .ok (.iload_n 3, 1) := by decide +kernel
theorem dX7_isSaid_18 : decode cX7_isSaid 18 = .ok (.if_icmp .ne 7, 3) := by decide +kernel
theorem dX7_isSaid_21 : decode cX7_isSaid 21 = .ok (.iconst 1, 1) := by decide +kernel
theorem dX7_isSaid_22 : decode cX7_isSaid 22 = .ok (.goto 4, 3) := by decide +kernel
theorem dX7_isSaid_25 : decode cX7_isSaid 25 = .ok (.iconst 0, 1) := by decide +kernel
theorem dX7_isSaid_26 : decode cX7_isSaid 26 = .ok (.ireturn, 1) := by decide +kernel
theorem dX7_apart_0 : decode cX7_apart 0 = .ok (.iconst 0, 1) := by decide +kernel
theorem dX7_apart_1 : decode cX7_apart 1 = .ok (.istore_n 2, 1) := by decide +kernel
theorem dX7_apart_2 : decode cX7_apart 2 = .ok (.iconst 0, 1) := by decide +kernel
theorem dX7_apart_3 : decode cX7_apart 3 = .ok (.istore_n 3, 1) := by decide +kernel
theorem dX7_apart_4 : decode cX7_apart 4 = .ok (.iload_n 3, 1) := by decide +kernel
theorem dX7_apart_5 : decode cX7_apart 5 = .ok (.aload_n 1, 1) := by decide +kernel
theorem dX7_apart_6 : decode cX7_apart 6 = .ok (.getfield 244, 3) := by decide +kernel
theorem dX7_apart_9 : decode cX7_apart 9 = .ok (.if_icmp .ge 51, 3) := by decide +kernel
theorem dX7_apart_12 : decode cX7_apart 12 = .ok (.aload_n 1, 1) := by decide +kernel
theorem dX7_apart_13 : decode cX7_apart 13 = .ok (.iload_n 3, 1) := by decide +kernel
theorem dX7_apart_14 : decode cX7_apart 14 = .ok (.invokevirtual 252, 3) := by decide +kernel
theorem dX7_apart_17 : decode cX7_apart 17 = .ok (.ifCond .eq 37, 3) := by decide +kernel
theorem dX7_apart_20 : decode cX7_apart 20 = .ok (.aload_n 0, 1) := by decide +kernel
theorem dX7_apart_21 : decode cX7_apart 21 = .ok (.iload_n 3, 1) := by decide +kernel
theorem dX7_apart_22 : decode cX7_apart 22 = .ok (.invokevirtual 70, 3) := by decide +kernel
theorem dX7_apart_25 : decode cX7_apart 25 = .ok (.ifCond .eq 11, 3) := by decide +kernel
theorem dX7_apart_28 : decode cX7_apart 28 = .ok (.aload_n 0, 1) := by decide +kernel
theorem dX7_apart_29 : decode cX7_apart 29 = .ok (.iload_n 3, 1) := by decide +kernel
theorem dX7_apart_30 : decode cX7_apart 30 = .ok (.invokevirtual 89, 3) := by decide +kernel
theorem dX7_apart_33 : decode cX7_apart 33 = .ok (.goto 4, 3) := by decide +kernel
theorem dX7_apart_36 : decode cX7_apart 36 = .ok (.iconst 0, 1) := by decide +kernel
theorem dX7_apart_37 : decode cX7_apart 37 = .ok (.istore 4, 2) := by decide +kernel
theorem dX7_apart_39 : decode cX7_apart 39 = .ok (.iload_n 2, 1) := by decide +kernel
theorem dX7_apart_40 : decode cX7_apart 40 = .ok (.iload 4, 2) := by decide +kernel
theorem dX7_apart_42 : decode cX7_apart 42 = .ok (.aload_n 1, 1) := by decide +kernel
theorem dX7_apart_43 : decode cX7_apart 43 = .ok (.getfield 247, 3) := by decide +kernel
theorem dX7_apart_46 : decode cX7_apart 46 = .ok (.iload_n 3, 1) := by decide +kernel
theorem dX7_apart_47 : decode cX7_apart 47 = .ok (.iaload, 1) := by decide +kernel
theorem dX7_apart_48 : decode cX7_apart 48 = .ok (.isub, 1) := by decide +kernel
theorem dX7_apart_49 : decode cX7_apart 49 = .ok (.invokestatic 295, 3) := by decide +kernel
theorem dX7_apart_52 : decode cX7_apart 52 = .ok (.iadd, 1) := by decide +kernel
theorem dX7_apart_53 : decode cX7_apart 53 = .ok (.istore_n 2, 1) := by decide +kernel
theorem dX7_apart_54 : decode cX7_apart 54 = .ok (.iinc 3 1, 3) := by decide +kernel
theorem dX7_apart_57 : decode cX7_apart 57 = .ok (.goto (-53), 3) := by decide +kernel
theorem dX7_apart_60 : decode cX7_apart 60 = .ok (.iload_n 2, 1) := by decide +kernel
theorem dX7_apart_61 : decode cX7_apart 61 = .ok (.ireturn, 1) := by decide +kernel
theorem dX7_isFact_0 : decode cX7_isFact 0 = .ok (.iload_n 0, 1) := by decide +kernel
theorem dX7_isFact_1 : decode cX7_isFact 1 = .ok (.iconst 0, 1) := by decide +kernel
theorem dX7_isFact_2 : decode cX7_isFact 2 = .ok (.bipush 7, 2) := by decide +kernel
theorem dX7_isFact_4 : decode cX7_isFact 4 = .ok (.invokestatic 56, 3) := by decide +kernel
theorem dX7_isFact_7 : decode cX7_isFact 7 = .ok (.ireturn, 1) := by decide +kernel
theorem dX7_isSheet_0 : decode cX7_isSheet 0 = .ok (.iload_n 0, 1) := by decide +kernel
theorem dX7_isSheet_1 : decode cX7_isSheet 1 = .ok (.iconst 0, 1) := by decide +kernel
theorem dX7_isSheet_2 : decode cX7_isSheet 2 = .ok (.iconst 3, 1) := by decide +kernel
theorem dX7_isSheet_3 : decode cX7_isSheet 3 = .ok (.invokestatic 56, 3) := by decide +kernel
theorem dX7_isSheet_6 : decode cX7_isSheet 6 = .ok (.ireturn, 1) := by decide +kernel
theorem dX7_isSlot_0 : decode cX7_isSlot 0 = .ok (.iload_n 0, 1) := by decide +kernel
theorem dX7_isSlot_1 : decode cX7_isSlot 1 = .ok (.iconst 0, 1) := by decide +kernel
theorem dX7_isSlot_2 : decode cX7_isSlot 2 = .ok (.iconst 4, 1) := by decide +kernel
theorem dX7_isSlot_3 : decode cX7_isSlot 3 = .ok (.invokestatic 56, 3) := by decide +kernel
theorem dX7_isSlot_6 : decode cX7_isSlot 6 = .ok (.ireturn, 1) := by decide +kernel
theorem dX7_within_0 : decode cX7_within 0 = .ok (.iload_n 0, 1) := by decide +kernel
theorem dX7_within_1 : decode cX7_within 1 = .ok (.iload_n 1, 1) := by decide +kernel
theorem dX7_within_2 : decode cX7_within 2 = .ok (.if_icmp .lt 12, 3) := by decide +kernel
theorem dX7_within_5 : decode cX7_within 5 = .ok (.iload_n 0, 1) := by decide +kernel
theorem dX7_within_6 : decode cX7_within 6 = .ok (.iload_n 2, 1) := by decide +kernel
theorem dX7_within_7 : decode cX7_within 7 = .ok (.if_icmp .gt 7, 3) := by decide +kernel
theorem dX7_within_10 : decode cX7_within 10 = .ok (.iconst 1, 1) := by decide +kernel
theorem dX7_within_11 : decode cX7_within 11 = .ok (.goto 4, 3) := by decide +kernel
theorem dX7_within_14 : decode cX7_within 14 = .ok (.iconst 0, 1) := by decide +kernel
theorem dX7_within_15 : decode cX7_within 15 = .ok (.ireturn, 1) := by decide +kernel
theorem dX7_held_0 : decode cX7_held 0 = .ok (.iload_n 1, 1) := by decide +kernel
theorem dX7_held_1 : decode cX7_held 1 = .ok (.iload_n 2, 1) := by decide +kernel
theorem dX7_held_2 : decode cX7_held 2 = .ok (.iload_n 0, 1) := by decide +kernel
theorem dX7_held_3 : decode cX7_held 3 = .ok (.invokestatic 139, 3) := by decide +kernel
theorem dX7_held_6 : decode cX7_held 6 = .ok (.invokestatic 298, 3) := by decide +kernel
theorem dX7_held_9 : decode cX7_held 9 = .ok (.ireturn, 1) := by decide +kernel
theorem dX7_exchange_0 : decode cX7_exchange 0 = .ok (.aload_n 0, 1) := by decide +kernel
theorem dX7_exchange_1 : decode cX7_exchange 1 = .ok (.iload_n 1, 1) := by decide +kernel
theorem dX7_exchange_2 : decode cX7_exchange 2 = .ok (.iaload, 1) := by decide +kernel
theorem dX7_exchange_3 : decode cX7_exchange 3 = .ok (.istore_n 3, 1) := by decide +kernel
theorem dX7_exchange_4 : decode cX7_exchange 4 = .ok (.aload_n 0, 1) := by decide +kernel
theorem dX7_exchange_5 : decode cX7_exchange 5 = .ok (.iload_n 1, 1) := by decide +kernel
theorem dX7_exchange_6 : decode cX7_exchange 6 = .ok (.iload_n 2, 1) := by decide +kernel
theorem dX7_exchange_7 : decode cX7_exchange 7 = .ok (.iastore, 1) := by decide +kernel
theorem dX7_exchange_8 : decode cX7_exchange 8 = .ok (.iload_n 3, 1) := by decide +kernel
theorem dX7_exchange_9 : decode cX7_exchange 9 = .ok (.ireturn, 1) := by decide +kernel
theorem dX8_init_0 : decode cX8_init 0 = .ok (.aload_n 0, 1) := by decide +kernel
theorem dX8_init_1 : decode cX8_init 1 = .ok (.invokespecial 1, 3) := by decide +kernel
theorem dX8_init_4 : decode cX8_init 4 = .ok (.aload_n 0, 1) := by decide +kernel
theorem dX8_init_5 : decode cX8_init 5 = .ok (.sipush 1438, 3) := by decide +kernel
theorem dX8_init_8 : decode cX8_init 8 = .ok (.newarray .int, 2) := by decide +kernel
theorem dX8_init_10 : decode cX8_init 10 = .ok (.putfield 9, 3) := by decide +kernel
theorem dX8_init_13 : decode cX8_init 13 = .ok (.aload_n 0, 1) := by decide +kernel
theorem dX8_init_14 : decode cX8_init 14 = .ok (.sipush 1438, 3) := by decide +kernel
theorem dX8_init_17 : decode cX8_init 17 = .ok (.newarray .int, 2) := by decide +kernel
theorem dX8_init_19 : decode cX8_init 19 = .ok (.putfield 13, 3) := by decide +kernel
theorem dX8_init_22 : decode cX8_init 22 = .ok (.aload_n 0, 1) := by decide +kernel
theorem dX8_init_23 : decode cX8_init 23 = .ok (.sipush 1438, 3) := by decide +kernel
theorem dX8_init_26 : decode cX8_init 26 = .ok (.newarray .int, 2) := by decide +kernel
theorem dX8_init_28 : decode cX8_init 28 = .ok (.putfield 16, 3) := by decide +kernel
theorem dX8_init_31 : decode cX8_init 31 = .ok (.aload_n 0, 1) := by decide +kernel
theorem dX8_init_32 : decode cX8_init 32 = .ok (.iconst (-1), 1) := by decide +kernel
theorem dX8_init_33 : decode cX8_init 33 = .ok (.putfield 19, 3) := by decide +kernel
theorem dX8_init_36 : decode cX8_init 36 = .ok (.aload_n 0, 1) := by decide +kernel
theorem dX8_init_37 : decode cX8_init 37 = .ok (.bipush 66, 2) := by decide +kernel
theorem dX8_init_39 : decode cX8_init 39 = .ok (.newarray .int, 2) := by decide +kernel
theorem dX8_init_41 : decode cX8_init 41 = .ok (.putfield 23, 3) := by decide +kernel
theorem dX8_init_44 : decode cX8_init 44 = .ok (.aload_n 0, 1) := by decide +kernel
theorem dX8_init_45 : decode cX8_init 45 = .ok (.bipush 96, 2) := by decide +kernel
theorem dX8_init_47 : decode cX8_init 47 = .ok (.newarray .int, 2) := by decide +kernel
theorem dX8_init_49 : decode cX8_init 49 = .ok (.putfield 26, 3) := by decide +kernel
theorem dX8_init_52 : decode cX8_init 52 = .ok (.aload_n 0, 1) := by decide +kernel
theorem dX8_init_53 : decode cX8_init 53 = .ok (.bipush 12, 2) := by decide +kernel
theorem dX8_init_55 : decode cX8_init 55 = .ok (.newarray .char, 2) := by decide +kernel
theorem dX8_init_57 : decode cX8_init 57 = .ok (.dup, 1) := by decide +kernel
theorem dX8_init_58 : decode cX8_init 58 = .ok (.iconst 0, 1) := by decide +kernel
theorem dX8_init_59 : decode cX8_init 59 = .ok (.bipush 116, 2) := by decide +kernel
theorem dX8_init_61 : decode cX8_init 61 = .ok (.castore, 1) := by decide +kernel
theorem dX8_init_62 : decode cX8_init 62 = .ok (.dup, 1) := by decide +kernel
theorem dX8_init_63 : decode cX8_init 63 = .ok (.iconst 1, 1) := by decide +kernel
theorem dX8_init_64 : decode cX8_init 64 = .ok (.bipush 114, 2) := by decide +kernel
theorem dX8_init_66 : decode cX8_init 66 = .ok (.castore, 1) := by decide +kernel
theorem dX8_init_67 : decode cX8_init 67 = .ok (.dup, 1) := by decide +kernel
theorem dX8_init_68 : decode cX8_init 68 = .ok (.iconst 2, 1) := by decide +kernel
theorem dX8_init_69 : decode cX8_init 69 = .ok (.bipush 117, 2) := by decide +kernel
theorem dX8_init_71 : decode cX8_init 71 = .ok (.castore, 1) := by decide +kernel
theorem dX8_init_72 : decode cX8_init 72 = .ok (.dup, 1) := by decide +kernel
theorem dX8_init_73 : decode cX8_init 73 = .ok (.iconst 3, 1) := by decide +kernel
theorem dX8_init_74 : decode cX8_init 74 = .ok (.bipush 115, 2) := by decide +kernel
theorem dX8_init_76 : decode cX8_init 76 = .ok (.castore, 1) := by decide +kernel
theorem dX8_init_77 : decode cX8_init 77 = .ok (.dup, 1) := by decide +kernel
theorem dX8_init_78 : decode cX8_init 78 = .ok (.iconst 4, 1) := by decide +kernel
theorem dX8_init_79 : decode cX8_init 79 = .ok (.bipush 116, 2) := by decide +kernel
theorem dX8_init_81 : decode cX8_init 81 = .ok (.castore, 1) := by decide +kernel
theorem dX8_init_82 : decode cX8_init 82 = .ok (.dup, 1) := by decide +kernel
theorem dX8_init_83 : decode cX8_init 83 = .ok (.iconst 5, 1) := by decide +kernel
theorem dX8_init_84 : decode cX8_init 84 = .ok (.bipush 102, 2) := by decide +kernel
theorem dX8_init_86 : decode cX8_init 86 = .ok (.castore, 1) := by decide +kernel
theorem dX8_init_87 : decode cX8_init 87 = .ok (.dup, 1) := by decide +kernel
theorem dX8_init_88 : decode cX8_init 88 = .ok (.bipush 6, 2) := by decide +kernel
theorem dX8_init_90 : decode cX8_init 90 = .ok (.bipush 101, 2) := by decide +kernel
theorem dX8_init_92 : decode cX8_init 92 = .ok (.castore, 1) := by decide +kernel
theorem dX8_init_93 : decode cX8_init 93 = .ok (.dup, 1) := by decide +kernel
theorem dX8_init_94 : decode cX8_init 94 = .ok (.bipush 7, 2) := by decide +kernel
theorem dX8_init_96 : decode cX8_init 96 = .ok (.bipush 101, 2) := by decide +kernel
theorem dX8_init_98 : decode cX8_init 98 = .ok (.castore, 1) := by decide +kernel
theorem dX8_init_99 : decode cX8_init 99 = .ok (.dup, 1) := by decide +kernel
theorem dX8_init_100 : decode cX8_init 100 = .ok (.bipush 8, 2) := by decide +kernel
theorem dX8_init_102 : decode cX8_init 102 = .ok (.bipush 102, 2) := by decide +kernel
theorem dX8_init_104 : decode cX8_init 104 = .ok (.castore, 1) := by decide +kernel
theorem dX8_init_105 : decode cX8_init 105 = .ok (.dup, 1) := by decide +kernel
theorem dX8_init_106 : decode cX8_init 106 = .ok (.bipush 9, 2) := by decide +kernel
theorem dX8_init_108 : decode cX8_init 108 = .ok (.bipush 105, 2) := by decide +kernel
theorem dX8_init_110 : decode cX8_init 110 = .ok (.castore, 1) := by decide +kernel
theorem dX8_init_111 : decode cX8_init 111 = .ok (.dup, 1) := by decide +kernel
theorem dX8_init_112 : decode cX8_init 112 = .ok (.bipush 10, 2) := by decide +kernel
theorem dX8_init_114 : decode cX8_init 114 = .ok (.bipush 110, 2) := by decide +kernel
theorem dX8_init_116 : decode cX8_init 116 = .ok (.castore, 1) := by decide +kernel
theorem dX8_init_117 : decode cX8_init 117 = .ok (.dup, 1) := by decide +kernel
theorem dX8_init_118 : decode cX8_init 118 = .ok (.bipush 11, 2) := by decide +kernel
theorem dX8_init_120 : decode cX8_init 120 = .ok (.bipush 101, 2) := by decide +kernel
theorem dX8_init_122 : decode cX8_init 122 = .ok (.castore, 1) := by decide +kernel
theorem dX8_init_123 : decode cX8_init 123 = .ok (.putfield 29, 3) := by decide +kernel
theorem dX8_init_126 : decode cX8_init 126 = .ok (.aload_n 0, 1) := by decide +kernel
theorem dX8_init_127 : decode cX8_init 127 = .ok (.iconst 4, 1) := by decide +kernel
theorem dX8_init_128 : decode cX8_init 128 = .ok (.newarray .int, 2) := by decide +kernel
theorem dX8_init_130 : decode cX8_init 130 = .ok (.dup, 1) := by decide +kernel
theorem dX8_init_131 : decode cX8_init 131 = .ok (.iconst 0, 1) := by decide +kernel
theorem dX8_init_132 : decode cX8_init 132 = .ok (.iconst 0, 1) := by decide +kernel
theorem dX8_init_133 : decode cX8_init 133 = .ok (.iastore, 1) := by decide +kernel
theorem dX8_init_134 : decode cX8_init 134 = .ok (.dup, 1) := by decide +kernel
theorem dX8_init_135 : decode cX8_init 135 = .ok (.iconst 1, 1) := by decide +kernel
theorem dX8_init_136 : decode cX8_init 136 = .ok (.iconst 5, 1) := by decide +kernel
theorem dX8_init_137 : decode cX8_init 137 = .ok (.iastore, 1) := by decide +kernel
theorem dX8_init_138 : decode cX8_init 138 = .ok (.dup, 1) := by decide +kernel
theorem dX8_init_139 : decode cX8_init 139 = .ok (.iconst 2, 1) := by decide +kernel
theorem dX8_init_140 : decode cX8_init 140 = .ok (.bipush 8, 2) := by decide +kernel
theorem dX8_init_142 : decode cX8_init 142 = .ok (.iastore, 1) := by decide +kernel
theorem dX8_init_143 : decode cX8_init 143 = .ok (.dup, 1) := by decide +kernel
theorem dX8_init_144 : decode cX8_init 144 = .ok (.iconst 3, 1) := by decide +kernel
theorem dX8_init_145 : decode cX8_init 145 = .ok (.bipush 12, 2) := by decide +kernel
theorem dX8_init_147 : decode cX8_init 147 = .ok (.iastore, 1) := by decide +kernel
theorem dX8_init_148 : decode cX8_init 148 = .ok (.putfield 33, 3) := by decide +kernel
theorem dX8_init_151 : decode cX8_init 151 = .ok (.aload_n 0, 1) := by decide +kernel
theorem dX8_init_152 : decode cX8_init 152 = .ok (.bipush 96, 2) := by decide +kernel
theorem dX8_init_154 : decode cX8_init 154 = .ok (.newarray .int, 2) := by decide +kernel
theorem dX8_init_156 : decode cX8_init 156 = .ok (.putfield 36, 3) := by decide +kernel
theorem dX8_init_159 : decode cX8_init 159 = .ok (.aload_n 0, 1) := by decide +kernel
theorem dX8_init_160 : decode cX8_init 160 = .ok (.bipush 96, 2) := by decide +kernel
theorem dX8_init_162 : decode cX8_init 162 = .ok (.newarray .int, 2) := by decide +kernel
theorem dX8_init_164 : decode cX8_init 164 = .ok (.putfield 39, 3) := by decide +kernel
theorem dX8_init_167 : decode cX8_init 167 = .ok (.aload_n 0, 1) := by decide +kernel
theorem dX8_init_168 : decode cX8_init 168 = .ok (.bipush 10, 2) := by decide +kernel
theorem dX8_init_170 : decode cX8_init 170 = .ok (.newarray .boolean, 2) := by decide +kernel
theorem dX8_init_172 : decode cX8_init 172 = .ok (.putfield 42, 3) := by decide +kernel
theorem dX8_init_175 : decode cX8_init 175 = .ok (.aload_n 0, 1) := by decide +kernel
theorem dX8_init_176 : decode cX8_init 176 = .ok (.bipush 96, 2) := by decide +kernel
theorem dX8_init_178 : decode cX8_init 178 = .ok (.newarray .int, 2) := by decide +kernel
theorem dX8_init_180 : decode cX8_init 180 = .ok (.putfield 46, 3) := by decide +kernel
theorem dX8_init_183 : decode cX8_init 183 = .ok (.aload_n 0, 1) := by decide +kernel
theorem dX8_init_184 : decode cX8_init 184 = .ok (.iconst 4, 1) := by decide +kernel
theorem dX8_init_185 : decode cX8_init 185 = .ok (.newarray .int, 2) := by decide +kernel
theorem dX8_init_187 : decode cX8_init 187 = .ok (.putfield 49, 3) := by decide +kernel
theorem dX8_init_190 : decode cX8_init 190 = .ok (.aload_n 0, 1) := by decide +kernel
theorem dX8_init_191 : decode cX8_init 191 = .ok (.iconst 4, 1) := by decide +kernel
theorem dX8_init_192 : decode cX8_init 192 = .ok (.newarray .int, 2) := by decide +kernel
theorem dX8_init_194 : decode cX8_init 194 = .ok (.dup, 1) := by decide +kernel
theorem dX8_init_195 : decode cX8_init 195 = .ok (.iconst 0, 1) := by decide +kernel
theorem dX8_init_196 : decode cX8_init 196 = .ok (.iconst (-1), 1) := by decide +kernel
theorem dX8_init_197 : decode cX8_init 197 = .ok (.iastore, 1) := by decide +kernel
theorem dX8_init_198 : decode cX8_init 198 = .ok (.dup, 1) := by decide +kernel
theorem dX8_init_199 : decode cX8_init 199 = .ok (.iconst 1, 1) := by decide +kernel
theorem dX8_init_200 : decode cX8_init 200 = .ok (.iconst (-1), 1) := by decide +kernel
theorem dX8_init_201 : decode cX8_init 201 = .ok (.iastore, 1) := by decide +kernel
theorem dX8_init_202 : decode cX8_init 202 = .ok (.dup, 1) := by decide +kernel
theorem dX8_init_203 : decode cX8_init 203 = .ok (.iconst 2, 1) := by decide +kernel
theorem dX8_init_204 : decode cX8_init 204 = .ok (.iconst (-1), 1) := by decide +kernel
theorem dX8_init_205 : decode cX8_init 205 = .ok (.iastore, 1) := by decide +kernel
theorem dX8_init_206 : decode cX8_init 206 = .ok (.dup, 1) := by decide +kernel
theorem dX8_init_207 : decode cX8_init 207 = .ok (.iconst 3, 1) := by decide +kernel
theorem dX8_init_208 : decode cX8_init 208 = .ok (.iconst (-1), 1) := by decide +kernel
theorem dX8_init_209 : decode cX8_init 209 = .ok (.iastore, 1) := by decide +kernel
theorem dX8_init_210 : decode cX8_init 210 = .ok (.putfield 52, 3) := by decide +kernel
theorem dX8_init_213 : decode cX8_init 213 = .ok (.aload_n 0, 1) := by decide +kernel
theorem dX8_init_214 : decode cX8_init 214 = .ok (.iconst 4, 1) := by decide +kernel
theorem dX8_init_215 : decode cX8_init 215 = .ok (.newarray .int, 2) := by decide +kernel
theorem dX8_init_217 : decode cX8_init 217 = .ok (.putfield 55, 3) := by decide +kernel
theorem dX8_init_220 : decode cX8_init 220 = .ok (.aload_n 0, 1) := by decide +kernel
theorem dX8_init_221 : decode cX8_init 221 = .ok (.bipush 96, 2) := by decide +kernel
theorem dX8_init_223 : decode cX8_init 223 = .ok (.newarray .int, 2) := by decide +kernel
theorem dX8_init_225 : decode cX8_init 225 = .ok (.putfield 58, 3) := by decide +kernel
theorem dX8_init_228 : decode cX8_init 228 = .ok (.aload_n 0, 1) := by decide +kernel
theorem dX8_init_229 : decode cX8_init 229 = .ok (.iconst 5, 1) := by decide +kernel
theorem dX8_init_230 : decode cX8_init 230 = .ok (.newarray .int, 2) := by decide +kernel
theorem dX8_init_232 : decode cX8_init 232 = .ok (.putfield 61, 3) := by decide +kernel
theorem dX8_init_235 : decode cX8_init 235 = .ok (.aload_n 0, 1) := by decide +kernel
theorem dX8_init_236 : decode cX8_init 236 = .ok (.iconst 5, 1) := by decide +kernel
theorem dX8_init_237 : decode cX8_init 237 = .ok (.newarray .int, 2) := by decide +kernel
theorem dX8_init_239 : decode cX8_init 239 = .ok (.putfield 64, 3) := by decide +kernel
theorem dX8_init_242 : decode cX8_init 242 = .ok (.aload_n 0, 1) := by decide +kernel
theorem dX8_init_243 : decode cX8_init 243 = .ok (.iconst 5, 1) := by decide +kernel
theorem dX8_init_244 : decode cX8_init 244 = .ok (.newarray .int, 2) := by decide +kernel
theorem dX8_init_246 : decode cX8_init 246 = .ok (.putfield 67, 3) := by decide +kernel
theorem dX8_init_249 : decode cX8_init 249 = .ok (.aload_n 0, 1) := by decide +kernel
theorem dX8_init_250 : decode cX8_init 250 = .ok (.bipush 120, 2) := by decide +kernel
theorem dX8_init_252 : decode cX8_init 252 = .ok (.newarray .int, 2) := by decide +kernel
theorem dX8_init_254 : decode cX8_init 254 = .ok (.putfield 70, 3) := by decide +kernel
theorem dX8_init_257 : decode cX8_init 257 = .ok (.aload_n 0, 1) := by decide +kernel
theorem dX8_init_258 : decode cX8_init 258 = .ok (.bipush 24, 2) := by decide +kernel
theorem dX8_init_260 : decode cX8_init 260 = .ok (.newarray .int, 2) := by decide +kernel
theorem dX8_init_262 : decode cX8_init 262 = .ok (.putfield 73, 3) := by decide +kernel
theorem dX8_init_265 : decode cX8_init 265 = .ok (.aload_n 0, 1) := by decide +kernel
theorem dX8_init_266 : decode cX8_init 266 = .ok (.bipush 60, 2) := by decide +kernel
theorem dX8_init_268 : decode cX8_init 268 = .ok (.newarray .int, 2) := by decide +kernel
theorem dX8_init_270 : decode cX8_init 270 = .ok (.putfield 76, 3) := by decide +kernel
theorem dX8_init_273 : decode cX8_init 273 = .ok (.aload_n 0, 1) := by decide +kernel
theorem dX8_init_274 : decode cX8_init 274 = .ok (.getfield 9, 3) := by decide +kernel
theorem dX8_init_277 : decode cX8_init 277 = .ok (.iconst 0, 1) := by decide +kernel
theorem dX8_init_278 : decode cX8_init 278 = .ok (.iconst 1, 1) := by decide +kernel
theorem dX8_init_279 : decode cX8_init 279 = .ok (.iastore, 1) := by decide +kernel
theorem dX8_init_280 : decode cX8_init 280 = .ok (.aload_n 0, 1) := by decide +kernel
theorem dX8_init_281 : decode cX8_init 281 = .ok (.getfield 9, 3) := by decide +kernel
theorem dX8_init_284 : decode cX8_init 284 = .ok (.iconst 3, 1) := by decide +kernel
theorem dX8_init_285 : decode cX8_init 285 = .ok (.bipush 50, 2) := by decide +kernel
theorem dX8_init_287 : decode cX8_init 287 = .ok (.iastore, 1) := by decide +kernel
theorem dX8_init_288 : decode cX8_init 288 = .ok (.aload_n 0, 1) := by decide +kernel
theorem dX8_init_289 : decode cX8_init 289 = .ok (.getfield 9, 3) := by decide +kernel
theorem dX8_init_292 : decode cX8_init 292 = .ok (.iconst 4, 1) := by decide +kernel
theorem dX8_init_293 : decode cX8_init 293 = .ok (.bipush 10, 2) := by decide +kernel
theorem dX8_init_295 : decode cX8_init 295 = .ok (.iastore, 1) := by decide +kernel
theorem dX8_init_296 : decode cX8_init 296 = .ok (.return_, 1) := by decide +kernel
theorem dX8_in_0 : decode cX8_in 0 = .ok (.iload_n 0, 1) := by decide +kernel
theorem dX8_in_1 : decode cX8_in 1 = .ok (.iload_n 1, 1) := by decide +kernel
theorem dX8_in_2 : decode cX8_in 2 = .ok (.if_icmp .lt 12, 3) := by decide +kernel
theorem dX8_in_5 : decode cX8_in 5 = .ok (.iload_n 0, 1) := by decide +kernel
theorem dX8_in_6 : decode cX8_in 6 = .ok (.iload_n 2, 1) := by decide +kernel
theorem dX8_in_7 : decode cX8_in 7 = .ok (.if_icmp .gt 7, 3) := by decide +kernel
theorem dX8_in_10 : decode cX8_in 10 = .ok (.iconst 1, 1) := by decide +kernel
theorem dX8_in_11 : decode cX8_in 11 = .ok (.goto 4, 3) := by decide +kernel
theorem dX8_in_14 : decode cX8_in 14 = .ok (.iconst 0, 1) := by decide +kernel
theorem dX8_in_15 : decode cX8_in 15 = .ok (.ireturn, 1) := by decide +kernel
theorem dX8_within_0 : decode cX8_within 0 = .ok (.iload_n 0, 1) := by decide +kernel
theorem dX8_within_1 : decode cX8_within 1 = .ok (.iload_n 1, 1) := by decide +kernel
theorem dX8_within_2 : decode cX8_within 2 = .ok (.if_icmp .ge 7, 3) := by decide +kernel
theorem dX8_within_5 : decode cX8_within 5 = .ok (.iload_n 1, 1) := by decide +kernel
theorem dX8_within_6 : decode cX8_within 6 = .ok (.goto 13, 3) := by decide +kernel
theorem dX8_within_9 : decode cX8_within 9 = .ok (.iload_n 0, 1) := by decide +kernel
theorem dX8_within_10 : decode cX8_within 10 = .ok (.iload_n 2, 1) := by decide +kernel
theorem dX8_within_11 : decode cX8_within 11 = .ok (.if_icmp .le 7, 3) := by decide +kernel
theorem dX8_within_14 : decode cX8_within 14 = .ok (.iload_n 2, 1) := by decide +kernel
theorem dX8_within_15 : decode cX8_within 15 = .ok (.goto 4, 3) := by decide +kernel
theorem dX8_within_18 : decode cX8_within 18 = .ok (.iload_n 0, 1) := by decide +kernel
theorem dX8_within_19 : decode cX8_within 19 = .ok (.ireturn, 1) := by decide +kernel
theorem dX8_copyAll_0 : decode cX8_copyAll 0 = .ok (.iconst 0, 1) := by decide +kernel
theorem dX8_copyAll_1 : decode cX8_copyAll 1 = .ok (.istore_n 2, 1) := by decide +kernel
theorem dX8_copyAll_2 : decode cX8_copyAll 2 = .ok (.iload_n 2, 1) := by decide +kernel
theorem dX8_copyAll_3 : decode cX8_copyAll 3 = .ok (.sipush 1438, 3) := by decide +kernel
theorem dX8_copyAll_6 : decode cX8_copyAll 6 = .ok (.if_icmp .ge 15, 3) := by decide +kernel
theorem dX8_copyAll_9 : decode cX8_copyAll 9 = .ok (.aload_n 1, 1) := by decide +kernel
theorem dX8_copyAll_10 : decode cX8_copyAll 10 = .ok (.iload_n 2, 1) := by decide +kernel
theorem dX8_copyAll_11 : decode cX8_copyAll 11 = .ok (.aload_n 0, 1) := by decide +kernel
theorem dX8_copyAll_12 : decode cX8_copyAll 12 = .ok (.iload_n 2, 1) := by decide +kernel
theorem dX8_copyAll_13 : decode cX8_copyAll 13 = .ok (.iaload, 1) := by decide +kernel
theorem dX8_copyAll_14 : decode cX8_copyAll 14 = .ok (.iastore, 1) := by decide +kernel
theorem dX8_copyAll_15 : decode cX8_copyAll 15 = .ok (.iinc 2 1, 3) := by decide +kernel
theorem dX8_copyAll_18 : decode cX8_copyAll 18 = .ok (.goto (-16), 3) := by decide +kernel
theorem dX8_copyAll_21 : decode cX8_copyAll 21 = .ok (.return_, 1) := by decide +kernel
theorem dX8_told0_0 : decode cX8_told0 0 = .ok (.iload_n 0, 1) := by decide +kernel
theorem dX8_told0_1 : decode cX8_told0 1 = .ok (.ifCond .ge 8, 3) := by decide +kernel
theorem dX8_told0_4 : decode cX8_told0 4 = .ok (.ldc 79, 2) := by decide +kernel
theorem dX8_told0_6 : decode cX8_told0 6 = .ok (.goto 4, 3) := by decide +kernel
theorem dX8_told0_9 : decode cX8_told0 9 = .ok (.iload_n 0, 1) := by decide +kernel
theorem dX8_told0_10 : decode cX8_told0 10 = .ok (.ireturn, 1) := by decide +kernel
theorem dX8_isJuror_0 : decode cX8_isJuror 0 = .ok (.iload_n 1, 1) := by decide +kernel
theorem dX8_isJuror_1 : decode cX8_isJuror 1 = .ok (.iconst 0, 1) := by decide +kernel
theorem dX8_isJuror_2 : decode cX8_isJuror 2 = .ok (.aload_n 0, 1) := by decide +kernel
theorem dX8_isJuror_3 : decode cX8_isJuror 3 = .ok (.getfield 9, 3) := by decide +kernel
theorem dX8_isJuror_6 : decode cX8_isJuror 6 = .ok (.iconst 1, 1) := by decide +kernel
theorem dX8_isJuror_7 : decode cX8_isJuror 7 = .ok (.iaload, 1) := by decide +kernel
theorem dX8_isJuror_8 : decode cX8_isJuror 8 = .ok (.iconst 1, 1) := by decide +kernel
theorem dX8_isJuror_9 : decode cX8_isJuror 9 = .ok (.isub, 1) := by decide +kernel
theorem dX8_isJuror_10 : decode cX8_isJuror 10 = .ok (.invokestatic 80, 3) := by decide +kernel
theorem dX8_isJuror_13 : decode cX8_isJuror 13 = .ok (.ireturn, 1) := by decide +kernel
theorem dX8_isFact_0 : decode cX8_isFact 0 = .ok (.iload_n 0, 1) := by decide +kernel
theorem dX8_isFact_1 : decode cX8_isFact 1 = .ok (.iconst 0, 1) := by decide +kernel
theorem dX8_isFact_2 : decode cX8_isFact 2 = .ok (.bipush 7, 2) := by decide +kernel
theorem dX8_isFact_4 : decode cX8_isFact 4 = .ok (.invokestatic 80, 3) := by decide +kernel
theorem dX8_isFact_7 : decode cX8_isFact 7 = .ok (.ireturn, 1) := by decide +kernel
theorem dX8_of_0 : decode cX8_of 0 = .ok (.aload_n 0, 1) := by decide +kernel
theorem dX8_of_1 : decode cX8_of 1 = .ok (.getfield 9, 3) := by decide +kernel
theorem dX8_of_4 : decode cX8_of 4 = .ok (.bipush 16, 2) := by decide +kernel
theorem dX8_of_6 : decode cX8_of 6 = .ok (.iconst 5, 1) := by decide +kernel
theorem dX8_of_7 : decode cX8_of 7 = .ok (.iload_n 1, 1) := by decide +kernel
theorem dX8_of_8 : decode cX8_of 8 = .ok (.imul, 1) := by decide +kernel
theorem dX8_of_9 : decode cX8_of 9 = .ok (.iadd, 1) := by decide +kernel
theorem dX8_of_10 : decode cX8_of 10 = .ok (.iload_n 2, 1) := by decide +kernel
theorem dX8_of_11 : decode cX8_of 11 = .ok (.iadd, 1) := by decide +kernel
theorem dX8_of_12 : decode cX8_of 12 = .ok (.iaload, 1) := by decide +kernel
theorem dX8_of_13 : decode cX8_of 13 = .ok (.ireturn, 1) := by decide +kernel
theorem dX8_put_0 : decode cX8_put 0 = .ok (.aload_n 0, 1) := by decide +kernel
theorem dX8_put_1 : decode cX8_put 1 = .ok (.getfield 9, 3) := by decide +kernel
theorem dX8_put_4 : decode cX8_put 4 = .ok (.bipush 16, 2) := by decide +kernel
theorem dX8_put_6 : decode cX8_put 6 = .ok (.iconst 5, 1) := by decide +kernel
theorem dX8_put_7 : decode cX8_put 7 = .ok (.iload_n 1, 1) := by decide +kernel
theorem dX8_put_8 : decode cX8_put 8 = .ok (.imul, 1) := by decide +kernel
theorem dX8_put_9 : decode cX8_put 9 = .ok (.iadd, 1) := by decide +kernel
theorem dX8_put_10 : decode cX8_put 10 = .ok (.iload_n 2, 1) := by decide +kernel
theorem dX8_put_11 : decode cX8_put 11 = .ok (.iadd, 1) := by decide +kernel
theorem dX8_put_12 : decode cX8_put 12 = .ok (.iload_n 3, 1) := by decide +kernel
theorem dX8_put_13 : decode cX8_put 13 = .ok (.iastore, 1) := by decide +kernel
theorem dX8_put_14 : decode cX8_put 14 = .ok (.return_, 1) := by decide +kernel
theorem dX8_becomes_0 : decode cX8_becomes 0 = .ok (.aload_n 0, 1) := by decide +kernel
theorem dX8_becomes_1 : decode cX8_becomes 1 = .ok (.getfield 9, 3) := by decide +kernel
theorem dX8_becomes_4 : decode cX8_becomes 4 = .ok (.iload_n 1, 1) := by decide +kernel
theorem dX8_becomes_5 : decode cX8_becomes 5 = .ok (.iaload, 1) := by decide +kernel
theorem dX8_becomes_6 : decode cX8_becomes 6 = .ok (.istore_n 3, 1) := by decide +kernel
theorem dX8_becomes_7 : decode cX8_becomes 7 = .ok (.aload_n 0, 1) := by decide +kernel
theorem dX8_becomes_8 : decode cX8_becomes 8 = .ok (.getfield 9, 3) := by decide +kernel
theorem dX8_becomes_11 : decode cX8_becomes 11 = .ok (.iload_n 1, 1) := by decide +kernel
theorem dX8_becomes_12 : decode cX8_becomes 12 = .ok (.iload_n 2, 1) := by decide +kernel
theorem dX8_becomes_13 : decode cX8_becomes 13 = .ok (.iastore, 1) := by decide +kernel
theorem dX8_becomes_14 : decode cX8_becomes 14 = .ok (.iload_n 3, 1) := by decide +kernel
theorem dX8_becomes_15 : decode cX8_becomes 15 = .ok (.ireturn, 1) := by decide +kernel
theorem dX8_bitsOf_0 : decode cX8_bitsOf 0 = .ok (.iconst 0, 1) := by decide +kernel
theorem dX8_bitsOf_1 : decode cX8_bitsOf 1 = .ok (.istore_n 1, 1) := by decide +kernel
theorem dX8_bitsOf_2 : decode cX8_bitsOf 2 = .ok (.iconst 0, 1) := by decide +kernel
theorem dX8_bitsOf_3 : decode cX8_bitsOf 3 = .ok (.istore_n 2, 1) := by decide +kernel
theorem dX8_bitsOf_4 : decode cX8_bitsOf 4 = .ok (.iload_n 2, 1) := by decide +kernel
theorem dX8_bitsOf_5 : decode cX8_bitsOf 5 = .ok (.bipush 8, 2) := by decide +kernel
theorem dX8_bitsOf_7 : decode cX8_bitsOf 7 = .ok (.if_icmp .ge 17, 3) := by decide +kernel
theorem dX8_bitsOf_10 : decode cX8_bitsOf 10 = .ok (.iload_n 1, 1) := by decide +kernel
theorem dX8_bitsOf_11 : decode cX8_bitsOf 11 = .ok (.iload_n 0, 1) := by decide +kernel
theorem dX8_bitsOf_12 : decode cX8_bitsOf 12 = .ok (.iload_n 2, 1) := by decide +kernel
theorem dX8_bitsOf_13 : decode cX8_bitsOf 13 = .ok (.ishr, 1) := by decide +kernel
theorem dX8_bitsOf_14 : decode cX8_bitsOf 14 = .ok (.iconst 1, 1) := by decide +kernel
theorem dX8_bitsOf_15 : decode cX8_bitsOf 15 = .ok (.iand, 1) := by decide +kernel
theorem dX8_bitsOf_16 : decode cX8_bitsOf 16 = .ok (.iadd, 1) := by decide +kernel
theorem dX8_bitsOf_17 : decode cX8_bitsOf 17 = .ok (.istore_n 1, 1) := by decide +kernel
theorem dX8_bitsOf_18 : decode cX8_bitsOf 18 = .ok (.iinc 2 1, 3) := by decide +kernel
theorem dX8_bitsOf_21 : decode cX8_bitsOf 21 = .ok (.goto (-17), 3) := by decide +kernel
theorem dX8_bitsOf_24 : decode cX8_bitsOf 24 = .ok (.iload_n 1, 1) := by decide +kernel
theorem dX8_bitsOf_25 : decode cX8_bitsOf 25 = .ok (.ireturn, 1) := by decide +kernel
theorem dX8_comes_0 : decode cX8_comes 0 = .ok (.aload_n 0, 1) := by decide +kernel
theorem dX8_comes_1 : decode cX8_comes 1 = .ok (.getfield 9, 3) := by decide +kernel
theorem dX8_comes_4 : decode cX8_comes 4 = .ok (.iconst 1, 1) := by decide +kernel
theorem dX8_comes_5 : decode cX8_comes 5 = .ok (.iaload, 1) := by decide +kernel
theorem dX8_comes_6 : decode cX8_comes 6 = .ok (.istore 5, 2) := by decide +kernel
theorem dX8_comes_8 : decode cX8_comes 8 = .ok (.aload_n 0, 1) := by decide +kernel
theorem dX8_comes_9 : decode cX8_comes 9 = .ok (.iload 5, 2) := by decide +kernel
theorem dX8_comes_11 : decode cX8_comes 11 = .ok (.iconst 0, 1) := by decide +kernel
theorem dX8_comes_12 : decode cX8_comes 12 = .ok (.iload_n 1, 1) := by decide +kernel
theorem dX8_comes_13 : decode cX8_comes 13 = .ok (.invokevirtual 84, 3) := by decide +kernel
theorem dX8_comes_16 : decode cX8_comes 16 = .ok (.aload_n 0, 1) := by decide +kernel
theorem dX8_comes_17 : decode cX8_comes 17 = .ok (.iload 5, 2) := by decide +kernel
theorem dX8_comes_19 : decode cX8_comes 19 = .ok (.iconst 1, 1) := by decide +kernel
theorem dX8_comes_20 : decode cX8_comes 20 = .ok (.iload_n 2, 1) := by decide +kernel
theorem dX8_comes_21 : decode cX8_comes 21 = .ok (.invokevirtual 84, 3) := by decide +kernel
theorem dX8_comes_24 : decode cX8_comes 24 = .ok (.aload_n 0, 1) := by decide +kernel
theorem dX8_comes_25 : decode cX8_comes 25 = .ok (.iload 5, 2) := by decide +kernel
theorem dX8_comes_27 : decode cX8_comes 27 = .ok (.iconst 2, 1) := by decide +kernel
theorem dX8_comes_28 : decode cX8_comes 28 = .ok (.iload_n 3, 1) := by decide +kernel
theorem dX8_comes_29 : decode cX8_comes 29 = .ok (.invokevirtual 84, 3) := by decide +kernel
theorem dX8_comes_32 : decode cX8_comes 32 = .ok (.aload_n 0, 1) := by decide +kernel
theorem dX8_comes_33 : decode cX8_comes 33 = .ok (.iload 5, 2) := by decide +kernel
theorem dX8_comes_35 : decode cX8_comes 35 = .ok (.iconst 3, 1) := by decide +kernel
theorem dX8_comes_36 : decode cX8_comes 36 = .ok (.iload 4, 2) := by decide +kernel
theorem dX8_comes_38 : decode cX8_comes 38 = .ok (.invokevirtual 84, 3) := by decide +kernel
theorem dX8_comes_41 : decode cX8_comes 41 = .ok (.aload_n 0, 1) := by decide +kernel
theorem dX8_comes_42 : decode cX8_comes 42 = .ok (.iload 5, 2) := by decide +kernel
theorem dX8_comes_44 : decode cX8_comes 44 = .ok (.iconst 4, 1) := by decide +kernel
theorem dX8_comes_45 : decode cX8_comes 45 = .ok (.iconst 0, 1) := by decide +kernel
theorem dX8_comes_46 : decode cX8_comes 46 = .ok (.invokevirtual 84, 3) := by decide +kernel
theorem dX8_comes_49 : decode cX8_comes 49 = .ok (.aload_n 0, 1) := by decide +kernel
theorem dX8_comes_50 : decode cX8_comes 50 = .ok (.getfield 9, 3) := by decide +kernel
theorem dX8_comes_53 : decode cX8_comes 53 = .ok (.iconst 1, 1) := by decide +kernel
theorem dX8_comes_54 : decode cX8_comes 54 = .ok (.dup2, 1) := by decide +kernel
theorem dX8_comes_55 : decode cX8_comes 55 = .ok (.iaload, 1) := by decide +kernel
theorem dX8_comes_56 : decode cX8_comes 56 = .ok (.iconst 1, 1) := by decide +kernel
theorem dX8_comes_57 : decode cX8_comes 57 = .ok (.iadd, 1) := by decide +kernel
theorem dX8_comes_58 : decode cX8_comes 58 = .ok (.iastore, 1) := by decide +kernel
theorem dX8_comes_59 : decode cX8_comes 59 = .ok (.iload 5, 2) := by decide +kernel
theorem dX8_comes_61 : decode cX8_comes 61 = .ok (.ireturn, 1) := by decide +kernel
theorem dX8_juror_0 : decode cX8_juror 0 = .ok (.iload_n 1, 1) := by decide +kernel
theorem dX8_juror_1 : decode cX8_juror 1 = .ok (.iconst 0, 1) := by decide +kernel
theorem dX8_juror_2 : decode cX8_juror 2 = .ok (.iconst 5, 1) := by decide +kernel
theorem dX8_juror_3 : decode cX8_juror 3 = .ok (.invokestatic 80, 3) := by decide +kernel
theorem dX8_juror_6 : decode cX8_juror 6 = .ok (.ifCond .eq 22, 3) := by decide +kernel
theorem dX8_juror_9 : decode cX8_juror 9 = .ok (.iload_n 2, 1) := by decide +kernel
theorem dX8_juror_10 : decode cX8_juror 10 = .ok (.iconst 0, 1) := by decide +kernel
theorem dX8_juror_11 : decode cX8_juror 11 = .ok (.iconst 1, 1) := by decide +kernel
theorem dX8_juror_12 : decode cX8_juror 12 = .ok (.invokestatic 80, 3) := by decide +kernel
theorem dX8_juror_15 : decode cX8_juror 15 = .ok (.ifCond .eq 13, 3) := by decide +kernel
theorem dX8_juror_18 : decode cX8_juror 18 = .ok (.iload_n 3, 1) := by decide +kernel
theorem dX8_juror_19 : decode cX8_juror 19 = .ok (.iconst 0, 1) := by decide +kernel
theorem dX8_juror_20 : decode cX8_juror 20 = .ok (.bipush 40, 2) := by decide +kernel
theorem dX8_juror_22 : decode cX8_juror 22 = .ok (.invokestatic 80, 3) := by decide +kernel
theorem dX8_juror_25 : decode cX8_juror 25 = .ok (.ifCond .ne 6, 3) := by decide +kernel
theorem dX8_juror_28 : decode cX8_juror 28 = .ok (.ldc 88, 2) := by decide +kernel
theorem dX8_juror_30 : decode cX8_juror 30 = .ok (.ireturn, 1) := by decide +kernel
theorem dX8_juror_31 : decode cX8_juror 31 = .ok (.aload_n 0, 1) := by decide +kernel
theorem dX8_juror_32 : decode cX8_juror 32 = .ok (.getfield 9, 3) := by decide +kernel
theorem dX8_juror_35 : decode cX8_juror 35 = .ok (.iconst 1, 1) := by decide +kernel
theorem dX8_juror_36 : decode cX8_juror 36 = .ok (.iaload, 1) := by decide +kernel
theorem dX8_juror_37 : decode cX8_juror 37 = .ok (.bipush 10, 2) := by decide +kernel
theorem dX8_juror_39 : decode cX8_juror 39 = .ok (.if_icmp .ne 8, 3) := by decide +kernel
theorem dX8_juror_42 : decode cX8_juror 42 = .ok (.ldc 89, 2) := by decide +kernel
theorem dX8_juror_44 : decode cX8_juror 44 = .ok (.goto 11, 3) := by decide +kernel
theorem dX8_juror_47 : decode cX8_juror 47 = .ok (.aload_n 0, 1) := by decide +kernel
theorem dX8_juror_48 : decode cX8_juror 48 = .ok (.iload_n 1, 1) := by decide +kernel
theorem dX8_juror_49 : decode cX8_juror 49 = .ok (.iload_n 2, 1) := by decide +kernel
theorem dX8_juror_50 : decode cX8_juror 50 = .ok (.iconst 0, 1) := by decide +kernel
theorem dX8_juror_51 : decode cX8_juror 51 = .ok (.iload_n 3, 1) := by decide +kernel
theorem dX8_juror_52 : decode cX8_juror 52 = .ok (.invokevirtual 90, 3) := by decide +kernel
theorem dX8_juror_55 : decode cX8_juror 55 = .ok (.ireturn, 1) := by decide +kernel
theorem dX8_weightOf_0 : decode cX8_weightOf 0 = .ok (.iconst 0, 1) := by decide +kernel
theorem dX8_weightOf_1 : decode cX8_weightOf 1 = .ok (.istore_n 2, 1) := by decide +kernel
theorem dX8_weightOf_2 : decode cX8_weightOf 2 = .ok (.iconst 0, 1) := by decide +kernel
theorem dX8_weightOf_3 : decode cX8_weightOf 3 = .ok (.istore_n 3, 1) := by decide +kernel
theorem dX8_weightOf_4 : decode cX8_weightOf 4 = .ok (.iload_n 3, 1) := by decide +kernel
theorem dX8_weightOf_5 : decode cX8_weightOf 5 = .ok (.bipush 8, 2) := by decide +kernel
theorem dX8_weightOf_7 : decode cX8_weightOf 7 = .ok (.if_icmp .ge 27, 3) := by decide +kernel
theorem dX8_weightOf_10 : decode cX8_weightOf 10 = .ok (.iload_n 2, 1) := by decide +kernel
theorem dX8_weightOf_11 : decode cX8_weightOf 11 = .ok (.iload_n 1, 1) := by decide +kernel
theorem dX8_weightOf_12 : decode cX8_weightOf 12 = .ok (.iload_n 3, 1) := by decide +kernel
theorem dX8_weightOf_13 : decode cX8_weightOf 13 = .ok (.ishr, 1) := by decide +kernel
theorem dX8_weightOf_14 : decode cX8_weightOf 14 = .ok (.iconst 1, 1) := by decide +kernel
theorem dX8_weightOf_15 : decode cX8_weightOf 15 = .ok (.iand, 1) := by decide +kernel
theorem dX8_weightOf_16 : decode cX8_weightOf 16 = .ok (.aload_n 0, 1) := by decide +kernel
theorem dX8_weightOf_17 : decode cX8_weightOf 17 = .ok (.getfield 9, 3) := by decide +kernel
theorem dX8_weightOf_20 : decode cX8_weightOf 20 = .ok (.bipush 8, 2) := by decide +kernel
theorem dX8_weightOf_22 : decode cX8_weightOf 22 = .ok (.iload_n 3, 1) := by decide +kernel
theorem dX8_weightOf_23 : decode cX8_weightOf 23 = .ok (.iadd, 1) := by decide +kernel
theorem dX8_weightOf_24 : decode cX8_weightOf 24 = .ok (.iaload, 1) := by decide +kernel
theorem dX8_weightOf_25 : decode cX8_weightOf 25 = .ok (.imul, 1) := by decide +kernel
theorem dX8_weightOf_26 : decode cX8_weightOf 26 = .ok (.iadd, 1) := by decide +kernel
theorem dX8_weightOf_27 : decode cX8_weightOf 27 = .ok (.istore_n 2, 1) := by decide +kernel
theorem dX8_weightOf_28 : decode cX8_weightOf 28 = .ok (.iinc 3 1, 3) := by decide +kernel
theorem dX8_weightOf_31 : decode cX8_weightOf 31 = .ok (.goto (-27), 3) := by decide +kernel
theorem dX8_weightOf_34 : decode cX8_weightOf 34 = .ok (.iload_n 2, 1) := by decide +kernel
theorem dX8_weightOf_35 : decode cX8_weightOf 35 = .ok (.ireturn, 1) := by decide +kernel
theorem dX8_believesOf_0 : decode cX8_believesOf 0 = .ok (.aload_n 0, 1) := by decide +kernel
theorem dX8_believesOf_1 : decode cX8_believesOf 1 = .ok (.aload_n 0, 1) := by decide +kernel
theorem dX8_believesOf_2 : decode cX8_believesOf 2 = .ok (.iload_n 1, 1) := by decide +kernel
theorem dX8_believesOf_3 : decode cX8_believesOf 3 = .ok (.iconst 2, 1) := by decide +kernel
theorem dX8_believesOf_4 : decode cX8_believesOf 4 = .ok (.invokevirtual 94, 3) := by decide +kernel
theorem dX8_believesOf_7 : decode cX8_believesOf 7 = .ok (.invokevirtual 98, 3) := by decide +kernel
theorem dX8_believesOf_10 : decode cX8_believesOf 10 = .ok (.istore_n 2, 1) := by decide +kernel
theorem dX8_believesOf_11 : decode cX8_believesOf 11 = .ok (.aload_n 0, 1) := by decide +kernel
theorem dX8_believesOf_12 : decode cX8_believesOf 12 = .ok (.iconst 0, 1) := by decide +kernel
theorem dX8_believesOf_13 : decode cX8_believesOf 13 = .ok (.invokevirtual 102, 3) := by decide +kernel
theorem dX8_believesOf_16 : decode cX8_believesOf 16 = .ok (.istore_n 3, 1) := by decide +kernel
theorem dX8_believesOf_17 : decode cX8_believesOf 17 = .ok (.aload_n 0, 1) := by decide +kernel
theorem dX8_believesOf_18 : decode cX8_believesOf 18 = .ok (.getfield 49, 3) := by decide +kernel
theorem dX8_believesOf_21 : decode cX8_believesOf 21 = .ok (.iconst 0, 1) := by decide +kernel
theorem dX8_believesOf_22 : decode cX8_believesOf 22 = .ok (.aload_n 0, 1) := by decide +kernel
theorem dX8_believesOf_23 : decode cX8_believesOf 23 = .ok (.iload_n 1, 1) := by decide +kernel
theorem dX8_believesOf_24 : decode cX8_believesOf 24 = .ok (.iconst 2, 1) := by decide +kernel
theorem dX8_believesOf_25 : decode cX8_believesOf 25 = .ok (.invokevirtual 94, 3) := by decide +kernel
theorem dX8_believesOf_28 : decode cX8_believesOf 28 = .ok (.invokestatic 105, 3) := by decide +kernel
theorem dX8_believesOf_31 : decode cX8_believesOf 31 = .ok (.iastore, 1) := by decide +kernel
theorem dX8_believesOf_32 : decode cX8_believesOf 32 = .ok (.aload_n 0, 1) := by decide +kernel
theorem dX8_believesOf_33 : decode cX8_believesOf 33 = .ok (.getfield 49, 3) := by decide +kernel
theorem dX8_believesOf_36 : decode cX8_believesOf 36 = .ok (.iconst 1, 1) := by decide +kernel
theorem dX8_believesOf_37 : decode cX8_believesOf 37 = .ok (.iload_n 2, 1) := by decide +kernel
theorem dX8_believesOf_38 : decode cX8_believesOf 38 = .ok (.iastore, 1) := by decide +kernel
theorem dX8_believesOf_39 : decode cX8_believesOf 39 = .ok (.aload_n 0, 1) := by decide +kernel
theorem dX8_believesOf_40 : decode cX8_believesOf 40 = .ok (.getfield 49, 3) := by decide +kernel
theorem dX8_believesOf_43 : decode cX8_believesOf 43 = .ok (.iconst 2, 1) := by decide +kernel
theorem dX8_believesOf_44 : decode cX8_believesOf 44 = .ok (.aload_n 0, 1) := by decide +kernel
theorem dX8_believesOf_45 : decode cX8_believesOf 45 = .ok (.iload_n 1, 1) := by decide +kernel
theorem dX8_believesOf_46 : decode cX8_believesOf 46 = .ok (.iconst 3, 1) := by decide +kernel
theorem dX8_believesOf_47 : decode cX8_believesOf 47 = .ok (.invokevirtual 94, 3) := by decide +kernel
theorem dX8_believesOf_50 : decode cX8_believesOf 50 = .ok (.iastore, 1) := by decide +kernel
theorem dX8_believesOf_51 : decode cX8_believesOf 51 = .ok (.iload_n 3, 1) := by decide +kernel
theorem dX8_believesOf_52 : decode cX8_believesOf 52 = .ok (.ifCond .ge 10, 3) := by decide +kernel
theorem dX8_believesOf_55 : decode cX8_believesOf 55 = .ok (.bipush 50, 2) := by decide +kernel
theorem dX8_believesOf_57 : decode cX8_believesOf 57 = .ok (.iload_n 2, 1) := by decide +kernel
theorem dX8_believesOf_58 : decode cX8_believesOf 58 = .ok (.iadd, 1) := by decide +kernel
theorem dX8_believesOf_59 : decode cX8_believesOf 59 = .ok (.goto 8, 3) := by decide +kernel
theorem dX8_believesOf_62 : decode cX8_believesOf 62 = .ok (.aload_n 0, 1) := by decide +kernel
theorem dX8_believesOf_63 : decode cX8_believesOf 63 = .ok (.iload_n 3, 1) := by decide +kernel
theorem dX8_believesOf_64 : decode cX8_believesOf 64 = .ok (.invokevirtual 108, 3) := by decide +kernel
theorem dX8_believesOf_67 : decode cX8_believesOf 67 = .ok (.iconst 0, 1) := by decide +kernel
theorem dX8_believesOf_68 : decode cX8_believesOf 68 = .ok (.bipush 100, 2) := by decide +kernel
theorem dX8_believesOf_70 : decode cX8_believesOf 70 = .ok (.invokestatic 111, 3) := by decide +kernel
theorem dX8_believesOf_73 : decode cX8_believesOf 73 = .ok (.istore 4, 2) := by decide +kernel
theorem dX8_believesOf_75 : decode cX8_believesOf 75 = .ok (.iload 4, 2) := by decide +kernel
theorem dX8_believesOf_77 : decode cX8_believesOf 77 = .ok (.aload_n 0, 1) := by decide +kernel
theorem dX8_believesOf_78 : decode cX8_believesOf 78 = .ok (.iload_n 1, 1) := by decide +kernel
theorem dX8_believesOf_79 : decode cX8_believesOf 79 = .ok (.iconst 3, 1) := by decide +kernel
theorem dX8_believesOf_80 : decode cX8_believesOf 80 = .ok (.invokevirtual 94, 3) := by decide +kernel
theorem dX8_believesOf_83 : decode cX8_believesOf 83 = .ok (.if_icmp .ge 7, 3) := by decide +kernel
theorem dX8_believesOf_86 : decode cX8_believesOf 86 = .ok (.iconst 0, 1) := by decide +kernel
theorem dX8_believesOf_87 : decode cX8_believesOf 87 = .ok (.goto 12, 3) := by decide +kernel
theorem dX8_believesOf_90 : decode cX8_believesOf 90 = .ok (.iload 4, 2) := by decide +kernel
theorem dX8_believesOf_92 : decode cX8_believesOf 92 = .ok (.aload_n 0, 1) := by decide +kernel
theorem dX8_believesOf_93 : decode cX8_believesOf 93 = .ok (.iload_n 1, 1) := by decide +kernel
theorem dX8_believesOf_94 : decode cX8_believesOf 94 = .ok (.iconst 3, 1) := by decide +kernel
theorem dX8_believesOf_95 : decode cX8_believesOf 95 = .ok (.invokevirtual 94, 3) := by decide +kernel
theorem dX8_believesOf_98 : decode cX8_believesOf 98 = .ok (.isub, 1) := by decide +kernel
theorem dX8_believesOf_99 : decode cX8_believesOf 99 = .ok (.istore 5, 2) := by decide +kernel
theorem dX8_believesOf_101 : decode cX8_believesOf 101 = .ok (.iload 4, 2) := by decide +kernel
theorem dX8_believesOf_103 : decode cX8_believesOf 103 = .ok (.bipush 50, 2) := by decide +kernel
theorem dX8_believesOf_105 : decode cX8_believesOf 105 = .ok (.if_icmp .le 11, 3) := by decide +kernel
theorem dX8_believesOf_108 : decode cX8_believesOf 108 = .ok (.iload 4, 2) := by decide +kernel
theorem dX8_believesOf_110 : decode cX8_believesOf 110 = .ok (.bipush 10, 2) := by decide +kernel
theorem dX8_believesOf_112 : decode cX8_believesOf 112 = .ok (.iadd, 1) := by decide +kernel
theorem dX8_believesOf_113 : decode cX8_believesOf 113 = .ok (.goto 20, 3) := by decide +kernel
theorem dX8_believesOf_116 : decode cX8_believesOf 116 = .ok (.iload 4, 2) := by decide +kernel
theorem dX8_believesOf_118 : decode cX8_believesOf 118 = .ok (.bipush 50, 2) := by decide +kernel
theorem dX8_believesOf_120 : decode cX8_believesOf 120 = .ok (.if_icmp .ge 11, 3) := by decide +kernel
theorem dX8_believesOf_123 : decode cX8_believesOf 123 = .ok (.iload 4, 2) := by decide +kernel
theorem dX8_believesOf_125 : decode cX8_believesOf 125 = .ok (.bipush 10, 2) := by decide +kernel
theorem dX8_believesOf_127 : decode cX8_believesOf 127 = .ok (.isub, 1) := by decide +kernel
theorem dX8_believesOf_128 : decode cX8_believesOf 128 = .ok (.goto 5, 3) := by decide +kernel
theorem dX8_believesOf_131 : decode cX8_believesOf 131 = .ok (.iload 4, 2) := by decide +kernel
theorem dX8_believesOf_133 : decode cX8_believesOf 133 = .ok (.iconst 0, 1) := by decide +kernel
theorem dX8_believesOf_134 : decode cX8_believesOf 134 = .ok (.bipush 100, 2) := by decide +kernel
theorem dX8_believesOf_136 : decode cX8_believesOf 136 = .ok (.invokestatic 111, 3) := by decide +kernel
theorem dX8_believesOf_139 : decode cX8_believesOf 139 = .ok (.istore 6, 2) := by decide +kernel
theorem dX8_believesOf_141 : decode cX8_believesOf 141 = .ok (.aload_n 0, 1) := by decide +kernel
theorem dX8_believesOf_142 : decode cX8_believesOf 142 = .ok (.iload_n 1, 1) := by decide +kernel
theorem dX8_believesOf_143 : decode cX8_believesOf 143 = .ok (.iconst 0, 1) := by decide +kernel
theorem dX8_believesOf_144 : decode cX8_believesOf 144 = .ok (.invokevirtual 94, 3) := by decide +kernel
theorem dX8_believesOf_147 : decode cX8_believesOf 147 = .ok (.tableswitch 49 1 4 #[29, 32, 35, 43], 29) := by decide +kernel
theorem dX8_believesOf_176 : decode cX8_believesOf 176 = .ok (.iload 5, 2) := by decide +kernel
theorem dX8_believesOf_178 : decode cX8_believesOf 178 = .ok (.ireturn, 1) := by decide +kernel
theorem dX8_believesOf_179 : decode cX8_believesOf 179 = .ok (.iload 6, 2) := by decide +kernel
theorem dX8_believesOf_181 : decode cX8_believesOf 181 = .ok (.ireturn, 1) := by decide +kernel
theorem dX8_believesOf_182 : decode cX8_believesOf 182 = .ok (.iload 5, 2) := by decide +kernel
theorem dX8_believesOf_184 : decode cX8_believesOf 184 = .ok (.bipush 50, 2) := by decide +kernel
theorem dX8_believesOf_186 : decode cX8_believesOf 186 = .ok (.iadd, 1) := by decide +kernel
theorem dX8_believesOf_187 : decode cX8_believesOf 187 = .ok (.iconst 2, 1) := by decide +kernel
theorem dX8_believesOf_188 : decode cX8_believesOf 188 = .ok (.idiv, 1) := by decide +kernel
theorem dX8_believesOf_189 : decode cX8_believesOf 189 = .ok (.ireturn, 1) := by decide +kernel
theorem dX8_believesOf_190 : decode cX8_believesOf 190 = .ok (.bipush 100, 2) := by decide +kernel
theorem dX8_believesOf_192 : decode cX8_believesOf 192 = .ok (.iload 6, 2) := by decide +kernel
theorem dX8_believesOf_194 : decode cX8_believesOf 194 = .ok (.isub, 1) := by decide +kernel
theorem dX8_believesOf_195 : decode cX8_believesOf 195 = .ok (.ireturn, 1) := by decide +kernel
theorem dX8_believesOf_196 : decode cX8_believesOf 196 = .ok (.iload 4, 2) := by decide +kernel
theorem dX8_believesOf_198 : decode cX8_believesOf 198 = .ok (.ireturn, 1) := by decide +kernel
theorem dX8_isGuilty_0 : decode cX8_isGuilty 0 = .ok (.aload_n 0, 1) := by decide +kernel
theorem dX8_isGuilty_1 : decode cX8_isGuilty 1 = .ok (.iload_n 1, 1) := by decide +kernel
theorem dX8_isGuilty_2 : decode cX8_isGuilty 2 = .ok (.invokevirtual 115, 3) := by decide +kernel
theorem dX8_isGuilty_5 : decode cX8_isGuilty 5 = .ok (.aload_n 0, 1) := by decide +kernel
theorem dX8_isGuilty_6 : decode cX8_isGuilty 6 = .ok (.getfield 9, 3) := by decide +kernel
theorem dX8_isGuilty_9 : decode cX8_isGuilty 9 = .ok (.iconst 3, 1) := by decide +kernel
theorem dX8_isGuilty_10 : decode cX8_isGuilty 10 = .ok (.iaload, 1) := by decide +kernel
theorem dX8_isGuilty_11 : decode cX8_isGuilty 11 = .ok (.if_icmp .lt 7, 3) := by decide +kernel
theorem dX8_isGuilty_14 : decode cX8_isGuilty 14 = .ok (.iconst 1, 1) := by decide +kernel
theorem dX8_isGuilty_15 : decode cX8_isGuilty 15 = .ok (.goto 4, 3) := by decide +kernel
theorem dX8_isGuilty_18 : decode cX8_isGuilty 18 = .ok (.iconst 0, 1) := by decide +kernel
theorem dX8_isGuilty_19 : decode cX8_isGuilty 19 = .ok (.ireturn, 1) := by decide +kernel
theorem dX8_partnerOf_0 : decode cX8_partnerOf 0 = .ok (.aload_n 0, 1) := by decide +kernel
theorem dX8_partnerOf_1 : decode cX8_partnerOf 1 = .ok (.getfield 9, 3) := by decide +kernel
theorem dX8_partnerOf_4 : decode cX8_partnerOf 4 = .ok (.iconst 2, 1) := by decide +kernel
theorem dX8_partnerOf_5 : decode cX8_partnerOf 5 = .ok (.iaload, 1) := by decide +kernel
theorem dX8_partnerOf_6 : decode cX8_partnerOf 6 = .ok (.aload_n 0, 1) := by decide +kernel
theorem dX8_partnerOf_7 : decode cX8_partnerOf 7 = .ok (.getfield 9, 3) := by decide +kernel
theorem dX8_partnerOf_10 : decode cX8_partnerOf 10 = .ok (.iconst 5, 1) := by decide +kernel
theorem dX8_partnerOf_11 : decode cX8_partnerOf 11 = .ok (.iaload, 1) := by decide +kernel
theorem dX8_partnerOf_12 : decode cX8_partnerOf 12 = .ok (.iadd, 1) := by decide +kernel
theorem dX8_partnerOf_13 : decode cX8_partnerOf 13 = .ok (.iload_n 1, 1) := by decide +kernel
theorem dX8_partnerOf_14 : decode cX8_partnerOf 14 = .ok (.isub, 1) := by decide +kernel
theorem dX8_partnerOf_15 : decode cX8_partnerOf 15 = .ok (.aload_n 0, 1) := by decide +kernel
theorem dX8_partnerOf_16 : decode cX8_partnerOf 16 = .ok (.getfield 9, 3) := by decide +kernel
theorem dX8_partnerOf_19 : decode cX8_partnerOf 19 = .ok (.iconst 1, 1) := by decide +kernel
theorem dX8_partnerOf_20 : decode cX8_partnerOf 20 = .ok (.iaload, 1) := by decide +kernel
theorem dX8_partnerOf_21 : decode cX8_partnerOf 21 = .ok (.irem, 1) := by decide +kernel
theorem dX8_partnerOf_22 : decode cX8_partnerOf 22 = .ok (.istore_n 2, 1) := by decide +kernel
theorem dX8_partnerOf_23 : decode cX8_partnerOf 23 = .ok (.iload_n 2, 1) := by decide +kernel
theorem dX8_partnerOf_24 : decode cX8_partnerOf 24 = .ok (.ifCond .ge 14, 3) := by decide +kernel
theorem dX8_partnerOf_27 : decode cX8_partnerOf 27 = .ok (.iload_n 2, 1) := by decide +kernel
theorem dX8_partnerOf_28 : decode cX8_partnerOf 28 = .ok (.aload_n 0, 1) := by decide +kernel
theorem dX8_partnerOf_29 : decode cX8_partnerOf 29 = .ok (.getfield 9, 3) := by decide +kernel
theorem dX8_partnerOf_32 : decode cX8_partnerOf 32 = .ok (.iconst 1, 1) := by decide +kernel
theorem dX8_partnerOf_33 : decode cX8_partnerOf 33 = .ok (.iaload, 1) := by decide +kernel
theorem dX8_partnerOf_34 : decode cX8_partnerOf 34 = .ok (.iadd, 1) := by decide +kernel
theorem dX8_partnerOf_35 : decode cX8_partnerOf 35 = .ok (.goto 4, 3) := by decide +kernel
theorem dX8_partnerOf_38 : decode cX8_partnerOf 38 = .ok (.iload_n 2, 1) := by decide +kernel
theorem dX8_partnerOf_39 : decode cX8_partnerOf 39 = .ok (.ireturn, 1) := by decide +kernel
theorem dX8_tellsOf_0 : decode cX8_tellsOf 0 = .ok (.aload_n 0, 1) := by decide +kernel
theorem dX8_tellsOf_1 : decode cX8_tellsOf 1 = .ok (.iload_n 1, 1) := by decide +kernel
theorem dX8_tellsOf_2 : decode cX8_tellsOf 2 = .ok (.iconst 0, 1) := by decide +kernel
theorem dX8_tellsOf_3 : decode cX8_tellsOf 3 = .ok (.invokevirtual 94, 3) := by decide +kernel
theorem dX8_tellsOf_6 : decode cX8_tellsOf 6 = .ok (.istore_n 3, 1) := by decide +kernel
theorem dX8_tellsOf_7 : decode cX8_tellsOf 7 = .ok (.iload_n 3, 1) := by decide +kernel
theorem dX8_tellsOf_8 : decode cX8_tellsOf 8 = .ok (.iconst 5, 1) := by decide +kernel
theorem dX8_tellsOf_9 : decode cX8_tellsOf 9 = .ok (.if_icmp .eq 11, 3) := by decide +kernel
theorem dX8_tellsOf_12 : decode cX8_tellsOf 12 = .ok (.iload_n 1, 1) := by decide +kernel
theorem dX8_tellsOf_13 : decode cX8_tellsOf 13 = .ok (.aload_n 0, 1) := by decide +kernel
theorem dX8_tellsOf_14 : decode cX8_tellsOf 14 = .ok (.getfield 19, 3) := by decide +kernel
theorem dX8_tellsOf_17 : decode cX8_tellsOf 17 = .ok (.if_icmp .ne 7, 3) := by decide +kernel
theorem dX8_tellsOf_20 : decode cX8_tellsOf 20 = .ok (.iconst 0, 1) := by decide +kernel
theorem dX8_tellsOf_21 : decode cX8_tellsOf 21 = .ok (.goto 18, 3) := by decide +kernel
theorem dX8_tellsOf_24 : decode cX8_tellsOf 24 = .ok (.aload_n 0, 1) := by decide +kernel
theorem dX8_tellsOf_25 : decode cX8_tellsOf 25 = .ok (.iload_n 1, 1) := by decide +kernel
theorem dX8_tellsOf_26 : decode cX8_tellsOf 26 = .ok (.iconst 2, 1) := by decide +kernel
theorem dX8_tellsOf_27 : decode cX8_tellsOf 27 = .ok (.invokevirtual 94, 3) := by decide +kernel
theorem dX8_tellsOf_30 : decode cX8_tellsOf 30 = .ok (.aload_n 0, 1) := by decide +kernel
theorem dX8_tellsOf_31 : decode cX8_tellsOf 31 = .ok (.iload_n 2, 1) := by decide +kernel
theorem dX8_tellsOf_32 : decode cX8_tellsOf 32 = .ok (.iconst 2, 1) := by decide +kernel
theorem dX8_tellsOf_33 : decode cX8_tellsOf 33 = .ok (.invokevirtual 94, 3) := by decide +kernel
theorem dX8_tellsOf_36 : decode cX8_tellsOf 36 = .ok (.iconst (-1), 1) := by decide +kernel
theorem dX8_tellsOf_37 : decode cX8_tellsOf 37 = .ok (.ixor, 1) := by decide +kernel
theorem dX8_tellsOf_38 : decode cX8_tellsOf 38 = .ok (.iand, 1) := by decide +kernel
theorem dX8_tellsOf_39 : decode cX8_tellsOf 39 = .ok (.istore 4, 2) := by decide +kernel
theorem dX8_tellsOf_41 : decode cX8_tellsOf 41 = .ok (.iconst (-1), 1) := by decide +kernel
theorem dX8_tellsOf_42 : decode cX8_tellsOf 42 = .ok (.istore 5, 2) := by decide +kernel
theorem dX8_tellsOf_44 : decode cX8_tellsOf 44 = .ok (.iconst 0, 1) := by decide +kernel
theorem dX8_tellsOf_45 : decode cX8_tellsOf 45 = .ok (.istore 6, 2) := by decide +kernel
theorem dX8_tellsOf_47 : decode cX8_tellsOf 47 = .ok (.iload 6, 2) := by decide +kernel
theorem dX8_tellsOf_49 : decode cX8_tellsOf 49 = .ok (.bipush 8, 2) := by decide +kernel
theorem dX8_tellsOf_51 : decode cX8_tellsOf 51 = .ok (.if_icmp .ge 79, 3) := by decide +kernel
theorem dX8_tellsOf_54 : decode cX8_tellsOf 54 = .ok (.iload 4, 2) := by decide +kernel
theorem dX8_tellsOf_56 : decode cX8_tellsOf 56 = .ok (.iload 6, 2) := by decide +kernel
theorem dX8_tellsOf_58 : decode cX8_tellsOf 58 = .ok (.ishr, 1) := by decide +kernel
theorem dX8_tellsOf_59 : decode cX8_tellsOf 59 = .ok (.iconst 1, 1) := by decide +kernel
theorem dX8_tellsOf_60 : decode cX8_tellsOf 60 = .ok (.iand, 1) := by decide +kernel
theorem dX8_tellsOf_61 : decode cX8_tellsOf 61 = .ok (.iconst 1, 1) := by decide +kernel
theorem dX8_tellsOf_62 : decode cX8_tellsOf 62 = .ok (.if_icmp .ne 30, 3) := by decide +kernel
theorem dX8_tellsOf_65 : decode cX8_tellsOf 65 = .ok (.iload_n 3, 1) := by decide +kernel
theorem dX8_tellsOf_66 : decode cX8_tellsOf 66 = .ok (.iconst 2, 1) := by decide +kernel
theorem dX8_tellsOf_67 : decode cX8_tellsOf 67 = .ok (.if_icmp .eq 8, 3) := by decide +kernel
theorem dX8_tellsOf_70 : decode cX8_tellsOf 70 = .ok (.iload_n 3, 1) := by decide +kernel
theorem dX8_tellsOf_71 : decode cX8_tellsOf 71 = .ok (.iconst 4, 1) := by decide +kernel
theorem dX8_tellsOf_72 : decode cX8_tellsOf 72 = .ok (.if_icmp .ne 16, 3) := by decide +kernel
theorem dX8_tellsOf_75 : decode cX8_tellsOf 75 = .ok (.aload_n 0, 1) := by decide +kernel
theorem dX8_tellsOf_76 : decode cX8_tellsOf 76 = .ok (.getfield 9, 3) := by decide +kernel
theorem dX8_tellsOf_79 : decode cX8_tellsOf 79 = .ok (.bipush 8, 2) := by decide +kernel
theorem dX8_tellsOf_81 : decode cX8_tellsOf 81 = .ok (.iload 6, 2) := by decide +kernel
theorem dX8_tellsOf_83 : decode cX8_tellsOf 83 = .ok (.iadd, 1) := by decide +kernel
theorem dX8_tellsOf_84 : decode cX8_tellsOf 84 = .ok (.iaload, 1) := by decide +kernel
theorem dX8_tellsOf_85 : decode cX8_tellsOf 85 = .ok (.ifCond .le 7, 3) := by decide +kernel
theorem dX8_tellsOf_88 : decode cX8_tellsOf 88 = .ok (.iconst 1, 1) := by decide +kernel
theorem dX8_tellsOf_89 : decode cX8_tellsOf 89 = .ok (.goto 4, 3) := by decide +kernel
theorem dX8_tellsOf_92 : decode cX8_tellsOf 92 = .ok (.iconst 0, 1) := by decide +kernel
theorem dX8_tellsOf_93 : decode cX8_tellsOf 93 = .ok (.istore 7, 2) := by decide +kernel
theorem dX8_tellsOf_95 : decode cX8_tellsOf 95 = .ok (.iload 7, 2) := by decide +kernel
theorem dX8_tellsOf_97 : decode cX8_tellsOf 97 = .ok (.ifCond .eq 23, 3) := by decide +kernel
theorem dX8_tellsOf_100 : decode cX8_tellsOf 100 = .ok (.iload 5, 2) := by decide +kernel
theorem dX8_tellsOf_102 : decode cX8_tellsOf 102 = .ok (.ifCond .lt 13, 3) := by decide +kernel
theorem dX8_tellsOf_105 : decode cX8_tellsOf 105 = .ok (.iload_n 3, 1) := by decide +kernel
theorem dX8_tellsOf_106 : decode cX8_tellsOf 106 = .ok (.iconst 1, 1) := by decide +kernel
theorem dX8_tellsOf_107 : decode cX8_tellsOf 107 = .ok (.if_icmp .eq 8, 3) := by decide +kernel
theorem dX8_tellsOf_110 : decode cX8_tellsOf 110 = .ok (.iload_n 3, 1) := by decide +kernel
theorem dX8_tellsOf_111 : decode cX8_tellsOf 111 = .ok (.iconst 3, 1) := by decide +kernel
theorem dX8_tellsOf_112 : decode cX8_tellsOf 112 = .ok (.if_icmp .ne 8, 3) := by decide +kernel
theorem dX8_tellsOf_115 : decode cX8_tellsOf 115 = .ok (.iload 6, 2) := by decide +kernel
theorem dX8_tellsOf_117 : decode cX8_tellsOf 117 = .ok (.goto 5, 3) := by decide +kernel
theorem dX8_tellsOf_120 : decode cX8_tellsOf 120 = .ok (.iload 5, 2) := by decide +kernel
theorem dX8_tellsOf_122 : decode cX8_tellsOf 122 = .ok (.istore 5, 2) := by decide +kernel
theorem dX8_tellsOf_124 : decode cX8_tellsOf 124 = .ok (.iinc 6 1, 3) := by decide +kernel
theorem dX8_tellsOf_127 : decode cX8_tellsOf 127 = .ok (.goto (-80), 3) := by decide +kernel
theorem dX8_tellsOf_130 : decode cX8_tellsOf 130 = .ok (.iload 5, 2) := by decide +kernel
theorem dX8_tellsOf_132 : decode cX8_tellsOf 132 = .ok (.ireturn, 1) := by decide +kernel
theorem dX8_worthOf_0 : decode cX8_worthOf 0 = .ok (.aload_n 0, 1) := by decide +kernel
theorem dX8_worthOf_1 : decode cX8_worthOf 1 = .ok (.iload_n 1, 1) := by decide +kernel
theorem dX8_worthOf_2 : decode cX8_worthOf 2 = .ok (.iconst 3, 1) := by decide +kernel
theorem dX8_worthOf_3 : decode cX8_worthOf 3 = .ok (.invokevirtual 94, 3) := by decide +kernel
theorem dX8_worthOf_6 : decode cX8_worthOf 6 = .ok (.istore_n 2, 1) := by decide +kernel
theorem dX8_worthOf_7 : decode cX8_worthOf 7 = .ok (.aload_n 0, 1) := by decide +kernel
theorem dX8_worthOf_8 : decode cX8_worthOf 8 = .ok (.iload_n 1, 1) := by decide +kernel
theorem dX8_worthOf_9 : decode cX8_worthOf 9 = .ok (.iconst 0, 1) := by decide +kernel
theorem dX8_worthOf_10 : decode cX8_worthOf 10 = .ok (.invokevirtual 94, 3) := by decide +kernel
theorem dX8_worthOf_13 : decode cX8_worthOf 13 = .ok (.tableswitch 57 1 5 #[35, 39, 44, 50, 55], 35) := by decide +kernel
theorem dX8_worthOf_48 : decode cX8_worthOf 48 = .ok (.iload_n 2, 1) := by decide +kernel
theorem dX8_worthOf_49 : decode cX8_worthOf 49 = .ok (.iconst 5, 1) := by decide +kernel
theorem dX8_worthOf_50 : decode cX8_worthOf 50 = .ok (.iadd, 1) := by decide +kernel
theorem dX8_worthOf_51 : decode cX8_worthOf 51 = .ok (.ireturn, 1) := by decide +kernel
theorem dX8_worthOf_52 : decode cX8_worthOf 52 = .ok (.bipush 99, 2) := by decide +kernel
theorem dX8_worthOf_54 : decode cX8_worthOf 54 = .ok (.iload_n 2, 1) := by decide +kernel
theorem dX8_worthOf_55 : decode cX8_worthOf 55 = .ok (.isub, 1) := by decide +kernel
theorem dX8_worthOf_56 : decode cX8_worthOf 56 = .ok (.ireturn, 1) := by decide +kernel
theorem dX8_worthOf_57 : decode cX8_worthOf 57 = .ok (.iconst 2, 1) := by decide +kernel
theorem dX8_worthOf_58 : decode cX8_worthOf 58 = .ok (.iload_n 2, 1) := by decide +kernel
theorem dX8_worthOf_59 : decode cX8_worthOf 59 = .ok (.iconst 5, 1) := by decide +kernel
theorem dX8_worthOf_60 : decode cX8_worthOf 60 = .ok (.iadd, 1) := by decide +kernel
theorem dX8_worthOf_61 : decode cX8_worthOf 61 = .ok (.imul, 1) := by decide +kernel
theorem dX8_worthOf_62 : decode cX8_worthOf 62 = .ok (.ireturn, 1) := by decide +kernel
theorem dX8_worthOf_63 : decode cX8_worthOf 63 = .ok (.bipush 92, 2) := by decide +kernel
theorem dX8_worthOf_65 : decode cX8_worthOf 65 = .ok (.iload_n 2, 1) := by decide +kernel
theorem dX8_worthOf_66 : decode cX8_worthOf 66 = .ok (.isub, 1) := by decide +kernel
theorem dX8_worthOf_67 : decode cX8_worthOf 67 = .ok (.ireturn, 1) := by decide +kernel
theorem dX8_worthOf_68 : decode cX8_worthOf 68 = .ok (.iconst 2, 1) := by decide +kernel
theorem dX8_worthOf_69 : decode cX8_worthOf 69 = .ok (.ireturn, 1) := by decide +kernel
theorem dX8_worthOf_70 : decode cX8_worthOf 70 = .ok (.iload_n 2, 1) := by decide +kernel
theorem dX8_worthOf_71 : decode cX8_worthOf 71 = .ok (.ireturn, 1) := by decide +kernel
theorem dX8_told_0 : decode cX8_told 0 = .ok (.aload_n 0, 1) := by decide +kernel
theorem dX8_told_1 : decode cX8_told 1 = .ok (.iload_n 1, 1) := by decide +kernel
theorem dX8_told_2 : decode cX8_told 2 = .ok (.invokevirtual 118, 3) := by decide +kernel
theorem dX8_told_5 : decode cX8_told 5 = .ok (.ifCond .ne 6, 3) := by decide +kernel
theorem dX8_told_8 : decode cX8_told 8 = .ok (.ldc 88, 2) := by decide +kernel
theorem dX8_told_10 : decode cX8_told 10 = .ok (.ireturn, 1) := by decide +kernel
theorem dX8_told_11 : decode cX8_told 11 = .ok (.iload_n 2, 1) := by decide +kernel
theorem dX8_told_12 : decode cX8_told 12 = .ok (.tableswitch 91 0 8 #[52, 52, 52, 52, 52, 59, 65, 79, 85], 52) := by decide +kernel
theorem dX8_told_64 : decode cX8_told 64 = .ok (.aload_n 0, 1) := by decide +kernel
theorem dX8_told_65 : decode cX8_told 65 = .ok (.iload_n 1, 1) := by decide +kernel
theorem dX8_told_66 : decode cX8_told 66 = .ok (.iload_n 2, 1) := by decide +kernel
theorem dX8_told_67 : decode cX8_told 67 = .ok (.invokevirtual 94, 3) := by decide +kernel
theorem dX8_told_70 : decode cX8_told 70 = .ok (.ireturn, 1) := by decide +kernel
theorem dX8_told_71 : decode cX8_told 71 = .ok (.aload_n 0, 1) := by decide +kernel
theorem dX8_told_72 : decode cX8_told 72 = .ok (.iload_n 1, 1) := by decide +kernel
theorem dX8_told_73 : decode cX8_told 73 = .ok (.invokevirtual 115, 3) := by decide +kernel
theorem dX8_told_76 : decode cX8_told 76 = .ok (.ireturn, 1) := by decide +kernel
theorem dX8_told_77 : decode cX8_told 77 = .ok (.aload_n 0, 1) := by decide +kernel
theorem dX8_told_78 : decode cX8_told 78 = .ok (.iload_n 1, 1) := by decide +kernel
theorem dX8_told_79 : decode cX8_told 79 = .ok (.invokevirtual 122, 3) := by decide +kernel
theorem dX8_told_82 : decode cX8_told 82 = .ok (.ifCond .eq 7, 3) := by decide +kernel
theorem dX8_told_85 : decode cX8_told 85 = .ok (.iconst 1, 1) := by decide +kernel
theorem dX8_told_86 : decode cX8_told 86 = .ok (.goto 4, 3) := by decide +kernel
theorem dX8_told_89 : decode cX8_told 89 = .ok (.iconst 0, 1) := by decide +kernel
theorem dX8_told_90 : decode cX8_told 90 = .ok (.ireturn, 1) := by decide +kernel
theorem dX8_told_91 : decode cX8_told 91 = .ok (.aload_n 0, 1) := by decide +kernel
theorem dX8_told_92 : decode cX8_told 92 = .ok (.iload_n 1, 1) := by decide +kernel
theorem dX8_told_93 : decode cX8_told 93 = .ok (.invokevirtual 125, 3) := by decide +kernel
theorem dX8_told_96 : decode cX8_told 96 = .ok (.ireturn, 1) := by decide +kernel
theorem dX8_told_97 : decode cX8_told 97 = .ok (.aload_n 0, 1) := by decide +kernel
theorem dX8_told_98 : decode cX8_told 98 = .ok (.iload_n 1, 1) := by decide +kernel
theorem dX8_told_99 : decode cX8_told 99 = .ok (.invokevirtual 128, 3) := by decide +kernel
theorem dX8_told_102 : decode cX8_told 102 = .ok (.ireturn, 1) := by decide +kernel
theorem dX8_told_103 : decode cX8_told 103 = .ok (.ldc 88, 2) := by decide +kernel
theorem dX8_told_105 : decode cX8_told 105 = .ok (.ireturn, 1) := by decide +kernel
theorem dX8_tells_0 : decode cX8_tells 0 = .ok (.aload_n 0, 1) := by decide +kernel
theorem dX8_tells_1 : decode cX8_tells 1 = .ok (.iload_n 1, 1) := by decide +kernel
theorem dX8_tells_2 : decode cX8_tells 2 = .ok (.invokevirtual 118, 3) := by decide +kernel
theorem dX8_tells_5 : decode cX8_tells 5 = .ok (.ifCond .eq 28, 3) := by decide +kernel
theorem dX8_tells_8 : decode cX8_tells 8 = .ok (.aload_n 0, 1) := by decide +kernel
theorem dX8_tells_9 : decode cX8_tells 9 = .ok (.iload_n 2, 1) := by decide +kernel
theorem dX8_tells_10 : decode cX8_tells 10 = .ok (.invokevirtual 118, 3) := by decide +kernel
theorem dX8_tells_13 : decode cX8_tells 13 = .ok (.ifCond .eq 20, 3) := by decide +kernel
theorem dX8_tells_16 : decode cX8_tells 16 = .ok (.iload_n 1, 1) := by decide +kernel
theorem dX8_tells_17 : decode cX8_tells 17 = .ok (.iload_n 2, 1) := by decide +kernel
theorem dX8_tells_18 : decode cX8_tells 18 = .ok (.if_icmp .eq 15, 3) := by decide +kernel
theorem dX8_tells_21 : decode cX8_tells 21 = .ok (.aload_n 0, 1) := by decide +kernel
theorem dX8_tells_22 : decode cX8_tells 22 = .ok (.iload_n 1, 1) := by decide +kernel
theorem dX8_tells_23 : decode cX8_tells 23 = .ok (.iload_n 2, 1) := by decide +kernel
theorem dX8_tells_24 : decode cX8_tells 24 = .ok (.invokevirtual 131, 3) := by decide +kernel
theorem dX8_tells_27 : decode cX8_tells 27 = .ok (.invokestatic 134, 3) := by decide +kernel
theorem dX8_tells_30 : decode cX8_tells 30 = .ok (.goto 5, 3) := by decide +kernel
theorem dX8_tells_33 : decode cX8_tells 33 = .ok (.ldc 88, 2) := by decide +kernel
theorem dX8_tells_35 : decode cX8_tells 35 = .ok (.ireturn, 1) := by decide +kernel
theorem dX8_isUnder_0 : decode cX8_isUnder 0 = .ok (.iload_n 1, 1) := by decide +kernel
theorem dX8_isUnder_1 : decode cX8_isUnder 1 = .ok (.ifCond .eq 28, 3) := by decide +kernel
theorem dX8_isUnder_4 : decode cX8_isUnder 4 = .ok (.iload_n 0, 1) := by decide +kernel
theorem dX8_isUnder_5 : decode cX8_isUnder 5 = .ok (.iload_n 1, 1) := by decide +kernel
theorem dX8_isUnder_6 : decode cX8_isUnder 6 = .ok (.if_icmp .eq 23, 3) := by decide +kernel
theorem dX8_isUnder_9 : decode cX8_isUnder 9 = .ok (.iload_n 1, 1) := by decide +kernel
theorem dX8_isUnder_10 : decode cX8_isUnder 10 = .ok (.iconst 1, 1) := by decide +kernel
theorem dX8_isUnder_11 : decode cX8_isUnder 11 = .ok (.if_icmp .ne 8, 3) := by decide +kernel
theorem dX8_isUnder_14 : decode cX8_isUnder 14 = .ok (.iload_n 0, 1) := by decide +kernel
theorem dX8_isUnder_15 : decode cX8_isUnder 15 = .ok (.iconst 3, 1) := by decide +kernel
theorem dX8_isUnder_16 : decode cX8_isUnder 16 = .ok (.if_icmp .eq 13, 3) := by decide +kernel
theorem dX8_isUnder_19 : decode cX8_isUnder 19 = .ok (.iload_n 1, 1) := by decide +kernel
theorem dX8_isUnder_20 : decode cX8_isUnder 20 = .ok (.iconst 2, 1) := by decide +kernel
theorem dX8_isUnder_21 : decode cX8_isUnder 21 = .ok (.if_icmp .ne 12, 3) := by decide +kernel
theorem dX8_isUnder_24 : decode cX8_isUnder 24 = .ok (.iload_n 0, 1) := by decide +kernel
theorem dX8_isUnder_25 : decode cX8_isUnder 25 = .ok (.iconst 4, 1) := by decide +kernel
theorem dX8_isUnder_26 : decode cX8_isUnder 26 = .ok (.if_icmp .ne 7, 3) := by decide +kernel
theorem dX8_isUnder_29 : decode cX8_isUnder 29 = .ok (.iconst 1, 1) := by decide +kernel
theorem dX8_isUnder_30 : decode cX8_isUnder 30 = .ok (.goto 4, 3) := by decide +kernel
theorem dX8_isUnder_33 : decode cX8_isUnder 33 = .ok (.iconst 0, 1) := by decide +kernel
theorem dX8_isUnder_34 : decode cX8_isUnder 34 = .ok (.ireturn, 1) := by decide +kernel
theorem dX8_as_0 : decode cX8_as 0 = .ok (.aload_n 0, 1) := by decide +kernel
theorem dX8_as_1 : decode cX8_as 1 = .ok (.iload_n 1, 1) := by decide +kernel
theorem dX8_as_2 : decode cX8_as 2 = .ok (.invokevirtual 118, 3) := by decide +kernel
theorem dX8_as_5 : decode cX8_as 5 = .ok (.ifCond .eq 12, 3) := by decide +kernel
theorem dX8_as_8 : decode cX8_as 8 = .ok (.iload_n 2, 1) := by decide +kernel
theorem dX8_as_9 : decode cX8_as 9 = .ok (.iconst 0, 1) := by decide +kernel
theorem dX8_as_10 : decode cX8_as 10 = .ok (.iconst 5, 1) := by decide +kernel
theorem dX8_as_11 : decode cX8_as 11 = .ok (.invokestatic 80, 3) := by decide +kernel
theorem dX8_as_14 : decode cX8_as 14 = .ok (.ifCond .ne 6, 3) := by decide +kernel
theorem dX8_as_17 : decode cX8_as 17 = .ok (.ldc 88, 2) := by decide +kernel
theorem dX8_as_19 : decode cX8_as 19 = .ok (.ireturn, 1) := by decide +kernel
theorem dX8_as_20 : decode cX8_as 20 = .ok (.aload_n 0, 1) := by decide +kernel
theorem dX8_as_21 : decode cX8_as 21 = .ok (.iload_n 1, 1) := by decide +kernel
theorem dX8_as_22 : decode cX8_as 22 = .ok (.iconst 0, 1) := by decide +kernel
theorem dX8_as_23 : decode cX8_as 23 = .ok (.invokevirtual 94, 3) := by decide +kernel
theorem dX8_as_26 : decode cX8_as 26 = .ok (.iload_n 2, 1) := by decide +kernel
theorem dX8_as_27 : decode cX8_as 27 = .ok (.invokestatic 137, 3) := by decide +kernel
theorem dX8_as_30 : decode cX8_as 30 = .ok (.ifCond .eq 12, 3) := by decide +kernel
theorem dX8_as_33 : decode cX8_as 33 = .ok (.aload_n 0, 1) := by decide +kernel
theorem dX8_as_34 : decode cX8_as 34 = .ok (.iload_n 1, 1) := by decide +kernel
theorem dX8_as_35 : decode cX8_as 35 = .ok (.iconst 3, 1) := by decide +kernel
theorem dX8_as_36 : decode cX8_as 36 = .ok (.invokevirtual 94, 3) := by decide +kernel
theorem dX8_as_39 : decode cX8_as 39 = .ok (.goto 5, 3) := by decide +kernel
theorem dX8_as_42 : decode cX8_as 42 = .ok (.ldc 141, 2) := by decide +kernel
theorem dX8_as_44 : decode cX8_as 44 = .ok (.ireturn, 1) := by decide +kernel
theorem dX8_turns_0 : decode cX8_turns 0 = .ok (.aload_n 0, 1) := by decide +kernel
theorem dX8_turns_1 : decode cX8_turns 1 = .ok (.iload_n 1, 1) := by decide +kernel
theorem dX8_turns_2 : decode cX8_turns 2 = .ok (.invokevirtual 118, 3) := by decide +kernel
theorem dX8_turns_5 : decode cX8_turns 5 = .ok (.ifCond .eq 26, 3) := by decide +kernel
theorem dX8_turns_8 : decode cX8_turns 8 = .ok (.iload_n 2, 1) := by decide +kernel
theorem dX8_turns_9 : decode cX8_turns 9 = .ok (.iconst 0, 1) := by decide +kernel
theorem dX8_turns_10 : decode cX8_turns 10 = .ok (.iconst 5, 1) := by decide +kernel
theorem dX8_turns_11 : decode cX8_turns 11 = .ok (.invokestatic 80, 3) := by decide +kernel
theorem dX8_turns_14 : decode cX8_turns 14 = .ok (.ifCond .eq 17, 3) := by decide +kernel
theorem dX8_turns_17 : decode cX8_turns 17 = .ok (.aload_n 0, 1) := by decide +kernel
theorem dX8_turns_18 : decode cX8_turns 18 = .ok (.bipush 16, 2) := by decide +kernel
theorem dX8_turns_20 : decode cX8_turns 20 = .ok (.iconst 5, 1) := by decide +kernel
theorem dX8_turns_21 : decode cX8_turns 21 = .ok (.iload_n 1, 1) := by decide +kernel
theorem dX8_turns_22 : decode cX8_turns 22 = .ok (.imul, 1) := by decide +kernel
theorem dX8_turns_23 : decode cX8_turns 23 = .ok (.iadd, 1) := by decide +kernel
theorem dX8_turns_24 : decode cX8_turns 24 = .ok (.iload_n 2, 1) := by decide +kernel
theorem dX8_turns_25 : decode cX8_turns 25 = .ok (.invokevirtual 142, 3) := by decide +kernel
theorem dX8_turns_28 : decode cX8_turns 28 = .ok (.goto 5, 3) := by decide +kernel
theorem dX8_turns_31 : decode cX8_turns 31 = .ok (.ldc 88, 2) := by decide +kernel
theorem dX8_turns_33 : decode cX8_turns 33 = .ok (.ireturn, 1) := by decide +kernel
theorem dX8_set_0 : decode cX8_set 0 = .ok (.aload_n 0, 1) := by decide +kernel
theorem dX8_set_1 : decode cX8_set 1 = .ok (.iload_n 1, 1) := by decide +kernel
theorem dX8_set_2 : decode cX8_set 2 = .ok (.invokevirtual 118, 3) := by decide +kernel
theorem dX8_set_5 : decode cX8_set 5 = .ok (.ifCond .eq 42, 3) := by decide +kernel
theorem dX8_set_8 : decode cX8_set 8 = .ok (.iload_n 2, 1) := by decide +kernel
theorem dX8_set_9 : decode cX8_set 9 = .ok (.iconst 1, 1) := by decide +kernel
theorem dX8_set_10 : decode cX8_set 10 = .ok (.iconst 3, 1) := by decide +kernel
theorem dX8_set_11 : decode cX8_set 11 = .ok (.invokestatic 80, 3) := by decide +kernel
theorem dX8_set_14 : decode cX8_set 14 = .ok (.ifCond .eq 33, 3) := by decide +kernel
theorem dX8_set_17 : decode cX8_set 17 = .ok (.iload_n 3, 1) := by decide +kernel
theorem dX8_set_18 : decode cX8_set 18 = .ok (.iconst 0, 1) := by decide +kernel
theorem dX8_set_19 : decode cX8_set 19 = .ok (.iload_n 2, 1) := by decide +kernel
theorem dX8_set_20 : decode cX8_set 20 = .ok (.iconst 1, 1) := by decide +kernel
theorem dX8_set_21 : decode cX8_set 21 = .ok (.if_icmp .ne 7, 3) := by decide +kernel
theorem dX8_set_24 : decode cX8_set 24 = .ok (.iconst 1, 1) := by decide +kernel
theorem dX8_set_25 : decode cX8_set 25 = .ok (.goto 16, 3) := by decide +kernel
theorem dX8_set_28 : decode cX8_set 28 = .ok (.iload_n 2, 1) := by decide +kernel
theorem dX8_set_29 : decode cX8_set 29 = .ok (.iconst 2, 1) := by decide +kernel
theorem dX8_set_30 : decode cX8_set 30 = .ok (.if_icmp .ne 9, 3) := by decide +kernel
theorem dX8_set_33 : decode cX8_set 33 = .ok (.sipush 255, 3) := by decide +kernel
theorem dX8_set_36 : decode cX8_set 36 = .ok (.goto 5, 3) := by decide +kernel
theorem dX8_set_39 : decode cX8_set 39 = .ok (.bipush 40, 2) := by decide +kernel
theorem dX8_set_41 : decode cX8_set 41 = .ok (.invokestatic 80, 3) := by decide +kernel
theorem dX8_set_44 : decode cX8_set 44 = .ok (.ifCond .ne 6, 3) := by decide +kernel
theorem dX8_set_47 : decode cX8_set 47 = .ok (.ldc 88, 2) := by decide +kernel
theorem dX8_set_49 : decode cX8_set 49 = .ok (.ireturn, 1) := by decide +kernel
theorem dX8_set_50 : decode cX8_set 50 = .ok (.aload_n 0, 1) := by decide +kernel
theorem dX8_set_51 : decode cX8_set 51 = .ok (.bipush 16, 2) := by decide +kernel
theorem dX8_set_53 : decode cX8_set 53 = .ok (.iconst 5, 1) := by decide +kernel
theorem dX8_set_54 : decode cX8_set 54 = .ok (.iload_n 1, 1) := by decide +kernel
theorem dX8_set_55 : decode cX8_set 55 = .ok (.imul, 1) := by decide +kernel
theorem dX8_set_56 : decode cX8_set 56 = .ok (.iadd, 1) := by decide +kernel
theorem dX8_set_57 : decode cX8_set 57 = .ok (.iload_n 2, 1) := by decide +kernel
theorem dX8_set_58 : decode cX8_set 58 = .ok (.iadd, 1) := by decide +kernel
theorem dX8_set_59 : decode cX8_set 59 = .ok (.iload_n 3, 1) := by decide +kernel
theorem dX8_set_60 : decode cX8_set 60 = .ok (.invokevirtual 142, 3) := by decide +kernel
theorem dX8_set_63 : decode cX8_set 63 = .ok (.ireturn, 1) := by decide +kernel
theorem dX8_weigh_0 : decode cX8_weigh 0 = .ok (.iload_n 1, 1) := by decide +kernel
theorem dX8_weigh_1 : decode cX8_weigh 1 = .ok (.invokestatic 145, 3) := by decide +kernel
theorem dX8_weigh_4 : decode cX8_weigh 4 = .ok (.ifCond .eq 26, 3) := by decide +kernel
theorem dX8_weigh_7 : decode cX8_weigh 7 = .ok (.iload_n 2, 1) := by decide +kernel
theorem dX8_weigh_8 : decode cX8_weigh 8 = .ok (.bipush (-50), 2) := by decide +kernel
theorem dX8_weigh_10 : decode cX8_weigh 10 = .ok (.bipush 50, 2) := by decide +kernel
theorem dX8_weigh_12 : decode cX8_weigh 12 = .ok (.invokestatic 80, 3) := by decide +kernel
theorem dX8_weigh_15 : decode cX8_weigh 15 = .ok (.ifCond .eq 15, 3) := by decide +kernel
theorem dX8_weigh_18 : decode cX8_weigh 18 = .ok (.aload_n 0, 1) := by decide +kernel
theorem dX8_weigh_19 : decode cX8_weigh 19 = .ok (.bipush 8, 2) := by decide +kernel
theorem dX8_weigh_21 : decode cX8_weigh 21 = .ok (.iload_n 1, 1) := by decide +kernel
theorem dX8_weigh_22 : decode cX8_weigh 22 = .ok (.iadd, 1) := by decide +kernel
theorem dX8_weigh_23 : decode cX8_weigh 23 = .ok (.iload_n 2, 1) := by decide +kernel
theorem dX8_weigh_24 : decode cX8_weigh 24 = .ok (.invokevirtual 142, 3) := by decide +kernel
theorem dX8_weigh_27 : decode cX8_weigh 27 = .ok (.goto 5, 3) := by decide +kernel
theorem dX8_weigh_30 : decode cX8_weigh 30 = .ok (.ldc 88, 2) := by decide +kernel
theorem dX8_weigh_32 : decode cX8_weigh 32 = .ok (.ireturn, 1) := by decide +kernel
theorem dX8_rule_0 : decode cX8_rule 0 = .ok (.iload_n 1, 1) := by decide +kernel
theorem dX8_rule_1 : decode cX8_rule 1 = .ok (.iconst 0, 1) := by decide +kernel
theorem dX8_rule_2 : decode cX8_rule 2 = .ok (.iconst 2, 1) := by decide +kernel
theorem dX8_rule_3 : decode cX8_rule 3 = .ok (.invokestatic 80, 3) := by decide +kernel
theorem dX8_rule_6 : decode cX8_rule 6 = .ok (.ifCond .eq 34, 3) := by decide +kernel
theorem dX8_rule_9 : decode cX8_rule 9 = .ok (.iload_n 2, 1) := by decide +kernel
theorem dX8_rule_10 : decode cX8_rule 10 = .ok (.iconst 0, 1) := by decide +kernel
theorem dX8_rule_11 : decode cX8_rule 11 = .ok (.iload_n 1, 1) := by decide +kernel
theorem dX8_rule_12 : decode cX8_rule 12 = .ok (.iconst 2, 1) := by decide +kernel
theorem dX8_rule_13 : decode cX8_rule 13 = .ok (.if_icmp .ne 8, 3) := by decide +kernel
theorem dX8_rule_16 : decode cX8_rule 16 = .ok (.bipush 9, 2) := by decide +kernel
theorem dX8_rule_18 : decode cX8_rule 18 = .ok (.goto 5, 3) := by decide +kernel
theorem dX8_rule_21 : decode cX8_rule 21 = .ok (.bipush 100, 2) := by decide +kernel
theorem dX8_rule_23 : decode cX8_rule 23 = .ok (.invokestatic 80, 3) := by decide +kernel
theorem dX8_rule_26 : decode cX8_rule 26 = .ok (.ifCond .eq 14, 3) := by decide +kernel
theorem dX8_rule_29 : decode cX8_rule 29 = .ok (.aload_n 0, 1) := by decide +kernel
theorem dX8_rule_30 : decode cX8_rule 30 = .ok (.iconst 3, 1) := by decide +kernel
theorem dX8_rule_31 : decode cX8_rule 31 = .ok (.iload_n 1, 1) := by decide +kernel
theorem dX8_rule_32 : decode cX8_rule 32 = .ok (.iadd, 1) := by decide +kernel
theorem dX8_rule_33 : decode cX8_rule 33 = .ok (.iload_n 2, 1) := by decide +kernel
theorem dX8_rule_34 : decode cX8_rule 34 = .ok (.invokevirtual 142, 3) := by decide +kernel
theorem dX8_rule_37 : decode cX8_rule 37 = .ok (.goto 5, 3) := by decide +kernel
theorem dX8_rule_40 : decode cX8_rule 40 = .ok (.ldc 88, 2) := by decide +kernel
theorem dX8_rule_42 : decode cX8_rule 42 = .ok (.ireturn, 1) := by decide +kernel
theorem dX8_draw_0 : decode cX8_draw 0 = .ok (.aload_n 0, 1) := by decide +kernel
theorem dX8_draw_1 : decode cX8_draw 1 = .ok (.getfield 9, 3) := by decide +kernel
theorem dX8_draw_4 : decode cX8_draw 4 = .ok (.iconst 0, 1) := by decide +kernel
theorem dX8_draw_5 : decode cX8_draw 5 = .ok (.aload_n 0, 1) := by decide +kernel
theorem dX8_draw_6 : decode cX8_draw 6 = .ok (.getfield 9, 3) := by decide +kernel
theorem dX8_draw_9 : decode cX8_draw 9 = .ok (.iconst 0, 1) := by decide +kernel
theorem dX8_draw_10 : decode cX8_draw 10 = .ok (.iaload, 1) := by decide +kernel
theorem dX8_draw_11 : decode cX8_draw 11 = .ok (.ldc 148, 2) := by decide +kernel
theorem dX8_draw_13 : decode cX8_draw 13 = .ok (.imul, 1) := by decide +kernel
theorem dX8_draw_14 : decode cX8_draw 14 = .ok (.sipush 12345, 3) := by decide +kernel
theorem dX8_draw_17 : decode cX8_draw 17 = .ok (.iadd, 1) := by decide +kernel
theorem dX8_draw_18 : decode cX8_draw 18 = .ok (.iastore, 1) := by decide +kernel
theorem dX8_draw_19 : decode cX8_draw 19 = .ok (.aload_n 0, 1) := by decide +kernel
theorem dX8_draw_20 : decode cX8_draw 20 = .ok (.getfield 9, 3) := by decide +kernel
theorem dX8_draw_23 : decode cX8_draw 23 = .ok (.iconst 0, 1) := by decide +kernel
theorem dX8_draw_24 : decode cX8_draw 24 = .ok (.iaload, 1) := by decide +kernel
theorem dX8_draw_25 : decode cX8_draw 25 = .ok (.bipush 8, 2) := by decide +kernel
theorem dX8_draw_27 : decode cX8_draw 27 = .ok (.iushr, 1) := by decide +kernel
theorem dX8_draw_28 : decode cX8_draw 28 = .ok (.ireturn, 1) := by decide +kernel
theorem dX8_deal_0 : decode cX8_deal 0 = .ok (.iload_n 1, 1) := by decide +kernel
theorem dX8_deal_1 : decode cX8_deal 1 = .ok (.iconst 1, 1) := by decide +kernel
theorem dX8_deal_2 : decode cX8_deal 2 = .ok (.bipush 10, 2) := by decide +kernel
theorem dX8_deal_4 : decode cX8_deal 4 = .ok (.invokestatic 80, 3) := by decide +kernel
theorem dX8_deal_7 : decode cX8_deal 7 = .ok (.ifCond .ne 6, 3) := by decide +kernel
theorem dX8_deal_10 : decode cX8_deal 10 = .ok (.ldc 88, 2) := by decide +kernel
theorem dX8_deal_12 : decode cX8_deal 12 = .ok (.ireturn, 1) := by decide +kernel
theorem dX8_deal_13 : decode cX8_deal 13 = .ok (.iconst 0, 1) := by decide +kernel
theorem dX8_deal_14 : decode cX8_deal 14 = .ok (.istore_n 2, 1) := by decide +kernel
theorem dX8_deal_15 : decode cX8_deal 15 = .ok (.iload_n 2, 1) := by decide +kernel
theorem dX8_deal_16 : decode cX8_deal 16 = .ok (.iload_n 1, 1) := by decide +kernel
theorem dX8_deal_17 : decode cX8_deal 17 = .ok (.if_icmp .ge 64, 3) := by decide +kernel
theorem dX8_deal_20 : decode cX8_deal 20 = .ok (.aload_n 0, 1) := by decide +kernel
theorem dX8_deal_21 : decode cX8_deal 21 = .ok (.getfield 9, 3) := by decide +kernel
theorem dX8_deal_24 : decode cX8_deal 24 = .ok (.iconst 1, 1) := by decide +kernel
theorem dX8_deal_25 : decode cX8_deal 25 = .ok (.iaload, 1) := by decide +kernel
theorem dX8_deal_26 : decode cX8_deal 26 = .ok (.bipush 10, 2) := by decide +kernel
theorem dX8_deal_28 : decode cX8_deal 28 = .ok (.if_icmp .ge 53, 3) := by decide +kernel
theorem dX8_deal_31 : decode cX8_deal 31 = .ok (.aload_n 0, 1) := by decide +kernel
theorem dX8_deal_32 : decode cX8_deal 32 = .ok (.invokevirtual 149, 3) := by decide +kernel
theorem dX8_deal_35 : decode cX8_deal 35 = .ok (.bipush 6, 2) := by decide +kernel
theorem dX8_deal_37 : decode cX8_deal 37 = .ok (.irem, 1) := by decide +kernel
theorem dX8_deal_38 : decode cX8_deal 38 = .ok (.istore_n 3, 1) := by decide +kernel
theorem dX8_deal_39 : decode cX8_deal 39 = .ok (.aload_n 0, 1) := by decide +kernel
theorem dX8_deal_40 : decode cX8_deal 40 = .ok (.invokevirtual 149, 3) := by decide +kernel
theorem dX8_deal_43 : decode cX8_deal 43 = .ok (.iconst 2, 1) := by decide +kernel
theorem dX8_deal_44 : decode cX8_deal 44 = .ok (.irem, 1) := by decide +kernel
theorem dX8_deal_45 : decode cX8_deal 45 = .ok (.istore 4, 2) := by decide +kernel
theorem dX8_deal_47 : decode cX8_deal 47 = .ok (.aload_n 0, 1) := by decide +kernel
theorem dX8_deal_48 : decode cX8_deal 48 = .ok (.invokevirtual 149, 3) := by decide +kernel
theorem dX8_deal_51 : decode cX8_deal 51 = .ok (.sipush 256, 3) := by decide +kernel
theorem dX8_deal_54 : decode cX8_deal 54 = .ok (.irem, 1) := by decide +kernel
theorem dX8_deal_55 : decode cX8_deal 55 = .ok (.istore 5, 2) := by decide +kernel
theorem dX8_deal_57 : decode cX8_deal 57 = .ok (.aload_n 0, 1) := by decide +kernel
theorem dX8_deal_58 : decode cX8_deal 58 = .ok (.iload_n 3, 1) := by decide +kernel
theorem dX8_deal_59 : decode cX8_deal 59 = .ok (.iload 4, 2) := by decide +kernel
theorem dX8_deal_61 : decode cX8_deal 61 = .ok (.iload 5, 2) := by decide +kernel
theorem dX8_deal_63 : decode cX8_deal 63 = .ok (.aload_n 0, 1) := by decide +kernel
theorem dX8_deal_64 : decode cX8_deal 64 = .ok (.invokevirtual 149, 3) := by decide +kernel
theorem dX8_deal_67 : decode cX8_deal 67 = .ok (.bipush 30, 2) := by decide +kernel
theorem dX8_deal_69 : decode cX8_deal 69 = .ok (.irem, 1) := by decide +kernel
theorem dX8_deal_70 : decode cX8_deal 70 = .ok (.invokevirtual 90, 3) := by decide +kernel
theorem dX8_deal_73 : decode cX8_deal 73 = .ok (.istore 6, 2) := by decide +kernel
theorem dX8_deal_75 : decode cX8_deal 75 = .ok (.iinc 2 1, 3) := by decide +kernel
theorem dX8_deal_78 : decode cX8_deal 78 = .ok (.goto (-63), 3) := by decide +kernel
theorem dX8_deal_81 : decode cX8_deal 81 = .ok (.iload_n 2, 1) := by decide +kernel
theorem dX8_deal_82 : decode cX8_deal 82 = .ok (.ireturn, 1) := by decide +kernel
theorem dX8_seed_0 : decode cX8_seed 0 = .ok (.aload_n 0, 1) := by decide +kernel
theorem dX8_seed_1 : decode cX8_seed 1 = .ok (.iconst 0, 1) := by decide +kernel
theorem dX8_seed_2 : decode cX8_seed 2 = .ok (.iload_n 1, 1) := by decide +kernel
theorem dX8_seed_3 : decode cX8_seed 3 = .ok (.invokevirtual 142, 3) := by decide +kernel
theorem dX8_seed_6 : decode cX8_seed 6 = .ok (.ireturn, 1) := by decide +kernel
theorem dX8_comesOut_0 : decode cX8_comesOut 0 = .ok (.iconst 0, 1) := by decide +kernel
theorem dX8_comesOut_1 : decode cX8_comesOut 1 = .ok (.istore_n 3, 1) := by decide +kernel
theorem dX8_comesOut_2 : decode cX8_comesOut 2 = .ok (.iconst 0, 1) := by decide +kernel
theorem dX8_comesOut_3 : decode cX8_comesOut 3 = .ok (.istore 4, 2) := by decide +kernel
theorem dX8_comesOut_5 : decode cX8_comesOut 5 = .ok (.iload 4, 2) := by decide +kernel
theorem dX8_comesOut_7 : decode cX8_comesOut 7 = .ok (.aload_n 0, 1) := by decide +kernel
theorem dX8_comesOut_8 : decode cX8_comesOut 8 = .ok (.getfield 9, 3) := by decide +kernel
theorem dX8_comesOut_11 : decode cX8_comesOut 11 = .ok (.iconst 1, 1) := by decide +kernel
theorem dX8_comesOut_12 : decode cX8_comesOut 12 = .ok (.iaload, 1) := by decide +kernel
theorem dX8_comesOut_13 : decode cX8_comesOut 13 = .ok (.if_icmp .ge 54, 3) := by decide +kernel
theorem dX8_comesOut_16 : decode cX8_comesOut 16 = .ok (.aload_n 0, 1) := by decide +kernel
theorem dX8_comesOut_17 : decode cX8_comesOut 17 = .ok (.iload 4, 2) := by decide +kernel
theorem dX8_comesOut_19 : decode cX8_comesOut 19 = .ok (.iconst 1, 1) := by decide +kernel
theorem dX8_comesOut_20 : decode cX8_comesOut 20 = .ok (.invokevirtual 94, 3) := by decide +kernel
theorem dX8_comesOut_23 : decode cX8_comesOut 23 = .ok (.iload_n 2, 1) := by decide +kernel
theorem dX8_comesOut_24 : decode cX8_comesOut 24 = .ok (.if_icmp .ne 37, 3) := by decide +kernel
theorem dX8_comesOut_27 : decode cX8_comesOut 27 = .ok (.iload_n 3, 1) := by decide +kernel
theorem dX8_comesOut_28 : decode cX8_comesOut 28 = .ok (.aload_n 0, 1) := by decide +kernel
theorem dX8_comesOut_29 : decode cX8_comesOut 29 = .ok (.iload 4, 2) := by decide +kernel
theorem dX8_comesOut_31 : decode cX8_comesOut 31 = .ok (.iconst 2, 1) := by decide +kernel
theorem dX8_comesOut_32 : decode cX8_comesOut 32 = .ok (.invokevirtual 94, 3) := by decide +kernel
theorem dX8_comesOut_35 : decode cX8_comesOut 35 = .ok (.iload_n 1, 1) := by decide +kernel
theorem dX8_comesOut_36 : decode cX8_comesOut 36 = .ok (.ishr, 1) := by decide +kernel
theorem dX8_comesOut_37 : decode cX8_comesOut 37 = .ok (.iconst 1, 1) := by decide +kernel
theorem dX8_comesOut_38 : decode cX8_comesOut 38 = .ok (.iand, 1) := by decide +kernel
theorem dX8_comesOut_39 : decode cX8_comesOut 39 = .ok (.iconst 1, 1) := by decide +kernel
theorem dX8_comesOut_40 : decode cX8_comesOut 40 = .ok (.ixor, 1) := by decide +kernel
theorem dX8_comesOut_41 : decode cX8_comesOut 41 = .ok (.iadd, 1) := by decide +kernel
theorem dX8_comesOut_42 : decode cX8_comesOut 42 = .ok (.istore_n 3, 1) := by decide +kernel
theorem dX8_comesOut_43 : decode cX8_comesOut 43 = .ok (.aload_n 0, 1) := by decide +kernel
theorem dX8_comesOut_44 : decode cX8_comesOut 44 = .ok (.iload 4, 2) := by decide +kernel
theorem dX8_comesOut_46 : decode cX8_comesOut 46 = .ok (.iconst 2, 1) := by decide +kernel
theorem dX8_comesOut_47 : decode cX8_comesOut 47 = .ok (.aload_n 0, 1) := by decide +kernel
theorem dX8_comesOut_48 : decode cX8_comesOut 48 = .ok (.iload 4, 2) := by decide +kernel
theorem dX8_comesOut_50 : decode cX8_comesOut 50 = .ok (.iconst 2, 1) := by decide +kernel
theorem dX8_comesOut_51 : decode cX8_comesOut 51 = .ok (.invokevirtual 94, 3) := by decide +kernel
theorem dX8_comesOut_54 : decode cX8_comesOut 54 = .ok (.iconst 1, 1) := by decide +kernel
theorem dX8_comesOut_55 : decode cX8_comesOut 55 = .ok (.iload_n 1, 1) := by decide +kernel
theorem dX8_comesOut_56 : decode cX8_comesOut 56 = .ok (.ishl, 1) := by decide +kernel
theorem dX8_comesOut_57 : decode cX8_comesOut 57 = .ok (.ior, 1) := by decide +kernel
theorem dX8_comesOut_58 : decode cX8_comesOut 58 = .ok (.invokevirtual 84, 3) := by decide +kernel
theorem dX8_comesOut_61 : decode cX8_comesOut 61 = .ok (.iinc 4 1, 3) := by decide +kernel
theorem dX8_comesOut_64 : decode cX8_comesOut 64 = .ok (.goto (-59), 3) := by decide +kernel
theorem dX8_comesOut_67 : decode cX8_comesOut 67 = .ok (.iload_n 3, 1) := by decide +kernel
theorem dX8_comesOut_68 : decode cX8_comesOut 68 = .ok (.ireturn, 1) := by decide +kernel
theorem dX8_out_0 : decode cX8_out 0 = .ok (.iload_n 1, 1) := by decide +kernel
theorem dX8_out_1 : decode cX8_out 1 = .ok (.invokestatic 145, 3) := by decide +kernel
theorem dX8_out_4 : decode cX8_out 4 = .ok (.ifCond .eq 21, 3) := by decide +kernel
theorem dX8_out_7 : decode cX8_out 7 = .ok (.iload_n 2, 1) := by decide +kernel
theorem dX8_out_8 : decode cX8_out 8 = .ok (.iconst 0, 1) := by decide +kernel
theorem dX8_out_9 : decode cX8_out 9 = .ok (.iconst 1, 1) := by decide +kernel
theorem dX8_out_10 : decode cX8_out 10 = .ok (.invokestatic 80, 3) := by decide +kernel
theorem dX8_out_13 : decode cX8_out 13 = .ok (.ifCond .eq 12, 3) := by decide +kernel
theorem dX8_out_16 : decode cX8_out 16 = .ok (.aload_n 0, 1) := by decide +kernel
theorem dX8_out_17 : decode cX8_out 17 = .ok (.iload_n 1, 1) := by decide +kernel
theorem dX8_out_18 : decode cX8_out 18 = .ok (.iload_n 2, 1) := by decide +kernel
theorem dX8_out_19 : decode cX8_out 19 = .ok (.invokevirtual 153, 3) := by decide +kernel
theorem dX8_out_22 : decode cX8_out 22 = .ok (.goto 5, 3) := by decide +kernel
theorem dX8_out_25 : decode cX8_out 25 = .ok (.ldc 88, 2) := by decide +kernel
theorem dX8_out_27 : decode cX8_out 27 = .ok (.ireturn, 1) := by decide +kernel
theorem dX8_passes_0 : decode cX8_passes 0 = .ok (.iload_n 3, 1) := by decide +kernel
theorem dX8_passes_1 : decode cX8_passes 1 = .ok (.ifCond .ge 5, 3) := by decide +kernel
theorem dX8_passes_4 : decode cX8_passes 4 = .ok (.iconst 0, 1) := by decide +kernel
theorem dX8_passes_5 : decode cX8_passes 5 = .ok (.ireturn, 1) := by decide +kernel
theorem dX8_passes_6 : decode cX8_passes 6 = .ok (.aload_n 0, 1) := by decide +kernel
theorem dX8_passes_7 : decode cX8_passes 7 = .ok (.iload_n 2, 1) := by decide +kernel
theorem dX8_passes_8 : decode cX8_passes 8 = .ok (.iconst 2, 1) := by decide +kernel
theorem dX8_passes_9 : decode cX8_passes 9 = .ok (.aload_n 0, 1) := by decide +kernel
theorem dX8_passes_10 : decode cX8_passes 10 = .ok (.iload_n 2, 1) := by decide +kernel
theorem dX8_passes_11 : decode cX8_passes 11 = .ok (.iconst 2, 1) := by decide +kernel
theorem dX8_passes_12 : decode cX8_passes 12 = .ok (.invokevirtual 94, 3) := by decide +kernel
theorem dX8_passes_15 : decode cX8_passes 15 = .ok (.iconst 1, 1) := by decide +kernel
theorem dX8_passes_16 : decode cX8_passes 16 = .ok (.iload_n 3, 1) := by decide +kernel
theorem dX8_passes_17 : decode cX8_passes 17 = .ok (.ishl, 1) := by decide +kernel
theorem dX8_passes_18 : decode cX8_passes 18 = .ok (.ior, 1) := by decide +kernel
theorem dX8_passes_19 : decode cX8_passes 19 = .ok (.invokevirtual 84, 3) := by decide +kernel
theorem dX8_passes_22 : decode cX8_passes 22 = .ok (.aload_n 0, 1) := by decide +kernel
theorem dX8_passes_23 : decode cX8_passes 23 = .ok (.iload_n 1, 1) := by decide +kernel
theorem dX8_passes_24 : decode cX8_passes 24 = .ok (.iconst 4, 1) := by decide +kernel
theorem dX8_passes_25 : decode cX8_passes 25 = .ok (.aload_n 0, 1) := by decide +kernel
theorem dX8_passes_26 : decode cX8_passes 26 = .ok (.iload_n 1, 1) := by decide +kernel
theorem dX8_passes_27 : decode cX8_passes 27 = .ok (.iconst 4, 1) := by decide +kernel
theorem dX8_passes_28 : decode cX8_passes 28 = .ok (.invokevirtual 94, 3) := by decide +kernel
theorem dX8_passes_31 : decode cX8_passes 31 = .ok (.iconst 1, 1) := by decide +kernel
theorem dX8_passes_32 : decode cX8_passes 32 = .ok (.iadd, 1) := by decide +kernel
theorem dX8_passes_33 : decode cX8_passes 33 = .ok (.invokevirtual 84, 3) := by decide +kernel
theorem dX8_passes_36 : decode cX8_passes 36 = .ok (.iconst 1, 1) := by decide +kernel
theorem dX8_passes_37 : decode cX8_passes 37 = .ok (.ireturn, 1) := by decide +kernel
theorem dX8_hour_0 : decode cX8_hour 0 = .ok (.iconst 0, 1) := by decide +kernel
theorem dX8_hour_1 : decode cX8_hour 1 = .ok (.istore_n 1, 1) := by decide +kernel
theorem dX8_hour_2 : decode cX8_hour 2 = .ok (.iconst 0, 1) := by decide +kernel
theorem dX8_hour_3 : decode cX8_hour 3 = .ok (.istore_n 2, 1) := by decide +kernel
theorem dX8_hour_4 : decode cX8_hour 4 = .ok (.iload_n 2, 1) := by decide +kernel
theorem dX8_hour_5 : decode cX8_hour 5 = .ok (.aload_n 0, 1) := by decide +kernel
theorem dX8_hour_6 : decode cX8_hour 6 = .ok (.getfield 9, 3) := by decide +kernel
theorem dX8_hour_9 : decode cX8_hour 9 = .ok (.iconst 1, 1) := by decide +kernel
theorem dX8_hour_10 : decode cX8_hour 10 = .ok (.iaload, 1) := by decide +kernel
theorem dX8_hour_11 : decode cX8_hour 11 = .ok (.if_icmp .ge 88, 3) := by decide +kernel
theorem dX8_hour_14 : decode cX8_hour 14 = .ok (.aload_n 0, 1) := by decide +kernel
theorem dX8_hour_15 : decode cX8_hour 15 = .ok (.iload_n 2, 1) := by decide +kernel
theorem dX8_hour_16 : decode cX8_hour 16 = .ok (.invokevirtual 125, 3) := by decide +kernel
theorem dX8_hour_19 : decode cX8_hour 19 = .ok (.istore_n 3, 1) := by decide +kernel
theorem dX8_hour_20 : decode cX8_hour 20 = .ok (.iload_n 3, 1) := by decide +kernel
theorem dX8_hour_21 : decode cX8_hour 21 = .ok (.iload_n 2, 1) := by decide +kernel
theorem dX8_hour_22 : decode cX8_hour 22 = .ok (.if_icmp .le 71, 3) := by decide +kernel
theorem dX8_hour_25 : decode cX8_hour 25 = .ok (.aload_n 0, 1) := by decide +kernel
theorem dX8_hour_26 : decode cX8_hour 26 = .ok (.invokevirtual 149, 3) := by decide +kernel
theorem dX8_hour_29 : decode cX8_hour 29 = .ok (.bipush 100, 2) := by decide +kernel
theorem dX8_hour_31 : decode cX8_hour 31 = .ok (.irem, 1) := by decide +kernel
theorem dX8_hour_32 : decode cX8_hour 32 = .ok (.aload_n 0, 1) := by decide +kernel
theorem dX8_hour_33 : decode cX8_hour 33 = .ok (.getfield 9, 3) := by decide +kernel
theorem dX8_hour_36 : decode cX8_hour 36 = .ok (.iconst 4, 1) := by decide +kernel
theorem dX8_hour_37 : decode cX8_hour 37 = .ok (.iaload, 1) := by decide +kernel
theorem dX8_hour_38 : decode cX8_hour 38 = .ok (.if_icmp .ge 17, 3) := by decide +kernel
theorem dX8_hour_41 : decode cX8_hour 41 = .ok (.aload_n 0, 1) := by decide +kernel
theorem dX8_hour_42 : decode cX8_hour 42 = .ok (.getfield 9, 3) := by decide +kernel
theorem dX8_hour_45 : decode cX8_hour 45 = .ok (.bipush 6, 2) := by decide +kernel
theorem dX8_hour_47 : decode cX8_hour 47 = .ok (.dup2, 1) := by decide +kernel
theorem dX8_hour_48 : decode cX8_hour 48 = .ok (.iaload, 1) := by decide +kernel
theorem dX8_hour_49 : decode cX8_hour 49 = .ok (.iconst 1, 1) := by decide +kernel
theorem dX8_hour_50 : decode cX8_hour 50 = .ok (.iadd, 1) := by decide +kernel
theorem dX8_hour_51 : decode cX8_hour 51 = .ok (.iastore, 1) := by decide +kernel
theorem dX8_hour_52 : decode cX8_hour 52 = .ok (.goto 41, 3) := by decide +kernel
theorem dX8_hour_55 : decode cX8_hour 55 = .ok (.aload_n 0, 1) := by decide +kernel
theorem dX8_hour_56 : decode cX8_hour 56 = .ok (.iload_n 2, 1) := by decide +kernel
theorem dX8_hour_57 : decode cX8_hour 57 = .ok (.iload_n 3, 1) := by decide +kernel
theorem dX8_hour_58 : decode cX8_hour 58 = .ok (.invokevirtual 131, 3) := by decide +kernel
theorem dX8_hour_61 : decode cX8_hour 61 = .ok (.istore 4, 2) := by decide +kernel
theorem dX8_hour_63 : decode cX8_hour 63 = .ok (.aload_n 0, 1) := by decide +kernel
theorem dX8_hour_64 : decode cX8_hour 64 = .ok (.iload_n 3, 1) := by decide +kernel
theorem dX8_hour_65 : decode cX8_hour 65 = .ok (.iload_n 2, 1) := by decide +kernel
theorem dX8_hour_66 : decode cX8_hour 66 = .ok (.invokevirtual 131, 3) := by decide +kernel
theorem dX8_hour_69 : decode cX8_hour 69 = .ok (.istore 5, 2) := by decide +kernel
theorem dX8_hour_71 : decode cX8_hour 71 = .ok (.iload_n 1, 1) := by decide +kernel
theorem dX8_hour_72 : decode cX8_hour 72 = .ok (.aload_n 0, 1) := by decide +kernel
theorem dX8_hour_73 : decode cX8_hour 73 = .ok (.iload_n 2, 1) := by decide +kernel
theorem dX8_hour_74 : decode cX8_hour 74 = .ok (.iload_n 3, 1) := by decide +kernel
theorem dX8_hour_75 : decode cX8_hour 75 = .ok (.iload 4, 2) := by decide +kernel
theorem dX8_hour_77 : decode cX8_hour 77 = .ok (.invokevirtual 156, 3) := by decide +kernel
theorem dX8_hour_80 : decode cX8_hour 80 = .ok (.iadd, 1) := by decide +kernel
theorem dX8_hour_81 : decode cX8_hour 81 = .ok (.istore_n 1, 1) := by decide +kernel
theorem dX8_hour_82 : decode cX8_hour 82 = .ok (.iload_n 1, 1) := by decide +kernel
theorem dX8_hour_83 : decode cX8_hour 83 = .ok (.aload_n 0, 1) := by decide +kernel
theorem dX8_hour_84 : decode cX8_hour 84 = .ok (.iload_n 3, 1) := by decide +kernel
theorem dX8_hour_85 : decode cX8_hour 85 = .ok (.iload_n 2, 1) := by decide +kernel
theorem dX8_hour_86 : decode cX8_hour 86 = .ok (.iload 5, 2) := by decide +kernel
theorem dX8_hour_88 : decode cX8_hour 88 = .ok (.invokevirtual 156, 3) := by decide +kernel
theorem dX8_hour_91 : decode cX8_hour 91 = .ok (.iadd, 1) := by decide +kernel
theorem dX8_hour_92 : decode cX8_hour 92 = .ok (.istore_n 1, 1) := by decide +kernel
theorem dX8_hour_93 : decode cX8_hour 93 = .ok (.iinc 2 1, 3) := by decide +kernel
theorem dX8_hour_96 : decode cX8_hour 96 = .ok (.goto (-92), 3) := by decide +kernel
theorem dX8_hour_99 : decode cX8_hour 99 = .ok (.aload_n 0, 1) := by decide +kernel
theorem dX8_hour_100 : decode cX8_hour 100 = .ok (.getfield 9, 3) := by decide +kernel
theorem dX8_hour_103 : decode cX8_hour 103 = .ok (.iconst 2, 1) := by decide +kernel
theorem dX8_hour_104 : decode cX8_hour 104 = .ok (.dup2, 1) := by decide +kernel
theorem dX8_hour_105 : decode cX8_hour 105 = .ok (.iaload, 1) := by decide +kernel
theorem dX8_hour_106 : decode cX8_hour 106 = .ok (.iconst 1, 1) := by decide +kernel
theorem dX8_hour_107 : decode cX8_hour 107 = .ok (.iadd, 1) := by decide +kernel
theorem dX8_hour_108 : decode cX8_hour 108 = .ok (.iastore, 1) := by decide +kernel
theorem dX8_hour_109 : decode cX8_hour 109 = .ok (.iload_n 1, 1) := by decide +kernel
theorem dX8_hour_110 : decode cX8_hour 110 = .ok (.ireturn, 1) := by decide +kernel
theorem dX8_goesOn_0 : decode cX8_goesOn 0 = .ok (.iconst 0, 1) := by decide +kernel
theorem dX8_goesOn_1 : decode cX8_goesOn 1 = .ok (.istore_n 2, 1) := by decide +kernel
theorem dX8_goesOn_2 : decode cX8_goesOn 2 = .ok (.iconst 0, 1) := by decide +kernel
theorem dX8_goesOn_3 : decode cX8_goesOn 3 = .ok (.istore_n 3, 1) := by decide +kernel
theorem dX8_goesOn_4 : decode cX8_goesOn 4 = .ok (.iload_n 3, 1) := by decide +kernel
theorem dX8_goesOn_5 : decode cX8_goesOn 5 = .ok (.iload_n 1, 1) := by decide +kernel
theorem dX8_goesOn_6 : decode cX8_goesOn 6 = .ok (.if_icmp .ge 16, 3) := by decide +kernel
theorem dX8_goesOn_9 : decode cX8_goesOn 9 = .ok (.iload_n 2, 1) := by decide +kernel
theorem dX8_goesOn_10 : decode cX8_goesOn 10 = .ok (.aload_n 0, 1) := by decide +kernel
theorem dX8_goesOn_11 : decode cX8_goesOn 11 = .ok (.invokevirtual 159, 3) := by decide +kernel
theorem dX8_goesOn_14 : decode cX8_goesOn 14 = .ok (.iadd, 1) := by decide +kernel
theorem dX8_goesOn_15 : decode cX8_goesOn 15 = .ok (.istore_n 2, 1) := by decide +kernel
theorem dX8_goesOn_16 : decode cX8_goesOn 16 = .ok (.iinc 3 1, 3) := by decide +kernel
theorem dX8_goesOn_19 : decode cX8_goesOn 19 = .ok (.goto (-15), 3) := by decide +kernel
theorem dX8_goesOn_22 : decode cX8_goesOn 22 = .ok (.iload_n 2, 1) := by decide +kernel
theorem dX8_goesOn_23 : decode cX8_goesOn 23 = .ok (.ireturn, 1) := by decide +kernel
theorem dX8_hours_0 : decode cX8_hours 0 = .ok (.iload_n 1, 1) := by decide +kernel
theorem dX8_hours_1 : decode cX8_hours 1 = .ok (.iconst 1, 1) := by decide +kernel
theorem dX8_hours_2 : decode cX8_hours 2 = .ok (.bipush 100, 2) := by decide +kernel
theorem dX8_hours_4 : decode cX8_hours 4 = .ok (.invokestatic 80, 3) := by decide +kernel
theorem dX8_hours_7 : decode cX8_hours 7 = .ok (.ifCond .eq 25, 3) := by decide +kernel
theorem dX8_hours_10 : decode cX8_hours 10 = .ok (.aload_n 0, 1) := by decide +kernel
theorem dX8_hours_11 : decode cX8_hours 11 = .ok (.sipush 9999, 3) := by decide +kernel
theorem dX8_hours_14 : decode cX8_hours 14 = .ok (.aload_n 0, 1) := by decide +kernel
theorem dX8_hours_15 : decode cX8_hours 15 = .ok (.getfield 9, 3) := by decide +kernel
theorem dX8_hours_18 : decode cX8_hours 18 = .ok (.iconst 2, 1) := by decide +kernel
theorem dX8_hours_19 : decode cX8_hours 19 = .ok (.iaload, 1) := by decide +kernel
theorem dX8_hours_20 : decode cX8_hours 20 = .ok (.isub, 1) := by decide +kernel
theorem dX8_hours_21 : decode cX8_hours 21 = .ok (.iconst 0, 1) := by decide +kernel
theorem dX8_hours_22 : decode cX8_hours 22 = .ok (.iload_n 1, 1) := by decide +kernel
theorem dX8_hours_23 : decode cX8_hours 23 = .ok (.invokestatic 111, 3) := by decide +kernel
theorem dX8_hours_26 : decode cX8_hours 26 = .ok (.invokevirtual 162, 3) := by decide +kernel
theorem dX8_hours_29 : decode cX8_hours 29 = .ok (.goto 5, 3) := by decide +kernel
theorem dX8_hours_32 : decode cX8_hours 32 = .ok (.ldc 88, 2) := by decide +kernel
theorem dX8_hours_34 : decode cX8_hours 34 = .ok (.ireturn, 1) := by decide +kernel
theorem dX8_common_0 : decode cX8_common 0 = .ok (.sipush 255, 3) := by decide +kernel
theorem dX8_common_3 : decode cX8_common 3 = .ok (.istore_n 1, 1) := by decide +kernel
theorem dX8_common_4 : decode cX8_common 4 = .ok (.iconst 0, 1) := by decide +kernel
theorem dX8_common_5 : decode cX8_common 5 = .ok (.istore_n 2, 1) := by decide +kernel
theorem dX8_common_6 : decode cX8_common 6 = .ok (.iload_n 2, 1) := by decide +kernel
theorem dX8_common_7 : decode cX8_common 7 = .ok (.aload_n 0, 1) := by decide +kernel
theorem dX8_common_8 : decode cX8_common 8 = .ok (.getfield 9, 3) := by decide +kernel
theorem dX8_common_11 : decode cX8_common 11 = .ok (.iconst 1, 1) := by decide +kernel
theorem dX8_common_12 : decode cX8_common 12 = .ok (.iaload, 1) := by decide +kernel
theorem dX8_common_13 : decode cX8_common 13 = .ok (.if_icmp .ge 18, 3) := by decide +kernel
theorem dX8_common_16 : decode cX8_common 16 = .ok (.iload_n 1, 1) := by decide +kernel
theorem dX8_common_17 : decode cX8_common 17 = .ok (.aload_n 0, 1) := by decide +kernel
theorem dX8_common_18 : decode cX8_common 18 = .ok (.iload_n 2, 1) := by decide +kernel
theorem dX8_common_19 : decode cX8_common 19 = .ok (.iconst 2, 1) := by decide +kernel
theorem dX8_common_20 : decode cX8_common 20 = .ok (.invokevirtual 94, 3) := by decide +kernel
theorem dX8_common_23 : decode cX8_common 23 = .ok (.iand, 1) := by decide +kernel
theorem dX8_common_24 : decode cX8_common 24 = .ok (.istore_n 1, 1) := by decide +kernel
theorem dX8_common_25 : decode cX8_common 25 = .ok (.iinc 2 1, 3) := by decide +kernel
theorem dX8_common_28 : decode cX8_common 28 = .ok (.goto (-22), 3) := by decide +kernel
theorem dX8_common_31 : decode cX8_common 31 = .ok (.iload_n 1, 1) := by decide +kernel
theorem dX8_common_32 : decode cX8_common 32 = .ok (.ireturn, 1) := by decide +kernel
theorem dX8_any_0 : decode cX8_any 0 = .ok (.iconst 0, 1) := by decide +kernel
theorem dX8_any_1 : decode cX8_any 1 = .ok (.istore_n 1, 1) := by decide +kernel
theorem dX8_any_2 : decode cX8_any 2 = .ok (.iconst 0, 1) := by decide +kernel
theorem dX8_any_3 : decode cX8_any 3 = .ok (.istore_n 2, 1) := by decide +kernel
theorem dX8_any_4 : decode cX8_any 4 = .ok (.iload_n 2, 1) := by decide +kernel
theorem dX8_any_5 : decode cX8_any 5 = .ok (.aload_n 0, 1) := by decide +kernel
theorem dX8_any_6 : decode cX8_any 6 = .ok (.getfield 9, 3) := by decide +kernel
theorem dX8_any_9 : decode cX8_any 9 = .ok (.iconst 1, 1) := by decide +kernel
theorem dX8_any_10 : decode cX8_any 10 = .ok (.iaload, 1) := by decide +kernel
theorem dX8_any_11 : decode cX8_any 11 = .ok (.if_icmp .ge 18, 3) := by decide +kernel
theorem dX8_any_14 : decode cX8_any 14 = .ok (.iload_n 1, 1) := by decide +kernel
theorem dX8_any_15 : decode cX8_any 15 = .ok (.aload_n 0, 1) := by decide +kernel
theorem dX8_any_16 : decode cX8_any 16 = .ok (.iload_n 2, 1) := by decide +kernel
theorem dX8_any_17 : decode cX8_any 17 = .ok (.iconst 2, 1) := by decide +kernel
theorem dX8_any_18 : decode cX8_any 18 = .ok (.invokevirtual 94, 3) := by decide +kernel
theorem dX8_any_21 : decode cX8_any 21 = .ok (.ior, 1) := by decide +kernel
theorem dX8_any_22 : decode cX8_any 22 = .ok (.istore_n 1, 1) := by decide +kernel
theorem dX8_any_23 : decode cX8_any 23 = .ok (.iinc 2 1, 3) := by decide +kernel
theorem dX8_any_26 : decode cX8_any 26 = .ok (.goto (-22), 3) := by decide +kernel
theorem dX8_any_29 : decode cX8_any 29 = .ok (.iload_n 1, 1) := by decide +kernel
theorem dX8_any_30 : decode cX8_any 30 = .ok (.ireturn, 1) := by decide +kernel
theorem dX8_votes_0 : decode cX8_votes 0 = .ok (.iconst 0, 1) := by decide +kernel
theorem dX8_votes_1 : decode cX8_votes 1 = .ok (.istore_n 1, 1) := by decide +kernel
theorem dX8_votes_2 : decode cX8_votes 2 = .ok (.iconst 0, 1) := by decide +kernel
theorem dX8_votes_3 : decode cX8_votes 3 = .ok (.istore_n 2, 1) := by decide +kernel
theorem dX8_votes_4 : decode cX8_votes 4 = .ok (.iload_n 2, 1) := by decide +kernel
theorem dX8_votes_5 : decode cX8_votes 5 = .ok (.aload_n 0, 1) := by decide +kernel
theorem dX8_votes_6 : decode cX8_votes 6 = .ok (.getfield 9, 3) := by decide +kernel
theorem dX8_votes_9 : decode cX8_votes 9 = .ok (.iconst 1, 1) := by decide +kernel
theorem dX8_votes_10 : decode cX8_votes 10 = .ok (.iaload, 1) := by decide +kernel
theorem dX8_votes_11 : decode cX8_votes 11 = .ok (.if_icmp .ge 25, 3) := by decide +kernel
theorem dX8_votes_14 : decode cX8_votes 14 = .ok (.iload_n 1, 1) := by decide +kernel
theorem dX8_votes_15 : decode cX8_votes 15 = .ok (.aload_n 0, 1) := by decide +kernel
theorem dX8_votes_16 : decode cX8_votes 16 = .ok (.iload_n 2, 1) := by decide +kernel
theorem dX8_votes_17 : decode cX8_votes 17 = .ok (.invokevirtual 122, 3) := by decide +kernel
theorem dX8_votes_20 : decode cX8_votes 20 = .ok (.ifCond .eq 7, 3) := by decide +kernel
theorem dX8_votes_23 : decode cX8_votes 23 = .ok (.iconst 1, 1) := by decide +kernel
theorem dX8_votes_24 : decode cX8_votes 24 = .ok (.goto 4, 3) := by decide +kernel
theorem dX8_votes_27 : decode cX8_votes 27 = .ok (.iconst 0, 1) := by decide +kernel
theorem dX8_votes_28 : decode cX8_votes 28 = .ok (.iadd, 1) := by decide +kernel
theorem dX8_votes_29 : decode cX8_votes 29 = .ok (.istore_n 1, 1) := by decide +kernel
theorem dX8_votes_30 : decode cX8_votes 30 = .ok (.iinc 2 1, 3) := by decide +kernel
theorem dX8_votes_33 : decode cX8_votes 33 = .ok (.goto (-29), 3) := by decide +kernel
theorem dX8_votes_36 : decode cX8_votes 36 = .ok (.iload_n 1, 1) := by decide +kernel
theorem dX8_votes_37 : decode cX8_votes 37 = .ok (.ireturn, 1) := by decide +kernel
theorem dX8_knownAll_0 : decode cX8_knownAll 0 = .ok (.iconst 0, 1) := by decide +kernel
theorem dX8_knownAll_1 : decode cX8_knownAll 1 = .ok (.istore_n 1, 1) := by decide +kernel
theorem dX8_knownAll_2 : decode cX8_knownAll 2 = .ok (.iconst 0, 1) := by decide +kernel
theorem dX8_knownAll_3 : decode cX8_knownAll 3 = .ok (.istore_n 2, 1) := by decide +kernel
theorem dX8_knownAll_4 : decode cX8_knownAll 4 = .ok (.iload_n 2, 1) := by decide +kernel
theorem dX8_knownAll_5 : decode cX8_knownAll 5 = .ok (.aload_n 0, 1) := by decide +kernel
theorem dX8_knownAll_6 : decode cX8_knownAll 6 = .ok (.getfield 9, 3) := by decide +kernel
theorem dX8_knownAll_9 : decode cX8_knownAll 9 = .ok (.iconst 1, 1) := by decide +kernel
theorem dX8_knownAll_10 : decode cX8_knownAll 10 = .ok (.iaload, 1) := by decide +kernel
theorem dX8_knownAll_11 : decode cX8_knownAll 11 = .ok (.if_icmp .ge 21, 3) := by decide +kernel
theorem dX8_knownAll_14 : decode cX8_knownAll 14 = .ok (.iload_n 1, 1) := by decide +kernel
theorem dX8_knownAll_15 : decode cX8_knownAll 15 = .ok (.aload_n 0, 1) := by decide +kernel
theorem dX8_knownAll_16 : decode cX8_knownAll 16 = .ok (.iload_n 2, 1) := by decide +kernel
theorem dX8_knownAll_17 : decode cX8_knownAll 17 = .ok (.iconst 2, 1) := by decide +kernel
theorem dX8_knownAll_18 : decode cX8_knownAll 18 = .ok (.invokevirtual 94, 3) := by decide +kernel
theorem dX8_knownAll_21 : decode cX8_knownAll 21 = .ok (.invokestatic 105, 3) := by decide +kernel
theorem dX8_knownAll_24 : decode cX8_knownAll 24 = .ok (.iadd, 1) := by decide +kernel
theorem dX8_knownAll_25 : decode cX8_knownAll 25 = .ok (.istore_n 1, 1) := by decide +kernel
theorem dX8_knownAll_26 : decode cX8_knownAll 26 = .ok (.iinc 2 1, 3) := by decide +kernel
theorem dX8_knownAll_29 : decode cX8_knownAll 29 = .ok (.goto (-25), 3) := by decide +kernel
theorem dX8_knownAll_32 : decode cX8_knownAll 32 = .ok (.iload_n 1, 1) := by decide +kernel
theorem dX8_knownAll_33 : decode cX8_knownAll 33 = .ok (.ireturn, 1) := by decide +kernel
theorem dX8_jury_0 : decode cX8_jury 0 = .ok (.iload_n 1, 1) := by decide +kernel
theorem dX8_jury_1 : decode cX8_jury 1 = .ok (.tableswitch 63 0 4 #[35, 40, 45, 53, 58], 35) := by decide +kernel
theorem dX8_jury_36 : decode cX8_jury 36 = .ok (.aload_n 0, 1) := by decide +kernel
theorem dX8_jury_37 : decode cX8_jury 37 = .ok (.invokevirtual 165, 3) := by decide +kernel
theorem dX8_jury_40 : decode cX8_jury 40 = .ok (.ireturn, 1) := by decide +kernel
theorem dX8_jury_41 : decode cX8_jury 41 = .ok (.aload_n 0, 1) := by decide +kernel
theorem dX8_jury_42 : decode cX8_jury 42 = .ok (.invokevirtual 168, 3) := by decide +kernel
theorem dX8_jury_45 : decode cX8_jury 45 = .ok (.ireturn, 1) := by decide +kernel
theorem dX8_jury_46 : decode cX8_jury 46 = .ok (.aload_n 0, 1) := by decide +kernel
theorem dX8_jury_47 : decode cX8_jury 47 = .ok (.getfield 9, 3) := by decide +kernel
theorem dX8_jury_50 : decode cX8_jury 50 = .ok (.bipush 6, 2) := by decide +kernel
theorem dX8_jury_52 : decode cX8_jury 52 = .ok (.iaload, 1) := by decide +kernel
theorem dX8_jury_53 : decode cX8_jury 53 = .ok (.ireturn, 1) := by decide +kernel
theorem dX8_jury_54 : decode cX8_jury 54 = .ok (.aload_n 0, 1) := by decide +kernel
theorem dX8_jury_55 : decode cX8_jury 55 = .ok (.invokevirtual 171, 3) := by decide +kernel
theorem dX8_jury_58 : decode cX8_jury 58 = .ok (.ireturn, 1) := by decide +kernel
theorem dX8_jury_59 : decode cX8_jury 59 = .ok (.aload_n 0, 1) := by decide +kernel
theorem dX8_jury_60 : decode cX8_jury 60 = .ok (.invokevirtual 174, 3) := by decide +kernel
theorem dX8_jury_63 : decode cX8_jury 63 = .ok (.ireturn, 1) := by decide +kernel
theorem dX8_jury_64 : decode cX8_jury 64 = .ok (.ldc 88, 2) := by decide +kernel
theorem dX8_jury_66 : decode cX8_jury 66 = .ok (.ireturn, 1) := by decide +kernel
theorem dX8_thinks_0 : decode cX8_thinks 0 = .ok (.iconst 0, 1) := by decide +kernel
theorem dX8_thinks_1 : decode cX8_thinks 1 = .ok (.istore_n 1, 1) := by decide +kernel
theorem dX8_thinks_2 : decode cX8_thinks 2 = .ok (.iload_n 1, 1) := by decide +kernel
theorem dX8_thinks_3 : decode cX8_thinks 3 = .ok (.bipush 66, 2) := by decide +kernel
theorem dX8_thinks_5 : decode cX8_thinks 5 = .ok (.if_icmp .ge 21, 3) := by decide +kernel
theorem dX8_thinks_8 : decode cX8_thinks 8 = .ok (.aload_n 0, 1) := by decide +kernel
theorem dX8_thinks_9 : decode cX8_thinks 9 = .ok (.getfield 23, 3) := by decide +kernel
theorem dX8_thinks_12 : decode cX8_thinks 12 = .ok (.iload_n 1, 1) := by decide +kernel
theorem dX8_thinks_13 : decode cX8_thinks 13 = .ok (.aload_n 0, 1) := by decide +kernel
theorem dX8_thinks_14 : decode cX8_thinks 14 = .ok (.getfield 9, 3) := by decide +kernel
theorem dX8_thinks_17 : decode cX8_thinks 17 = .ok (.iload_n 1, 1) := by decide +kernel
theorem dX8_thinks_18 : decode cX8_thinks 18 = .ok (.iaload, 1) := by decide +kernel
theorem dX8_thinks_19 : decode cX8_thinks 19 = .ok (.iastore, 1) := by decide +kernel
theorem dX8_thinks_20 : decode cX8_thinks 20 = .ok (.iinc 1 1, 3) := by decide +kernel
theorem dX8_thinks_23 : decode cX8_thinks 23 = .ok (.goto (-21), 3) := by decide +kernel
theorem dX8_thinks_26 : decode cX8_thinks 26 = .ok (.return_, 1) := by decide +kernel
theorem dX8_putsBack_0 : decode cX8_putsBack 0 = .ok (.iconst 0, 1) := by decide +kernel
theorem dX8_putsBack_1 : decode cX8_putsBack 1 = .ok (.istore_n 1, 1) := by decide +kernel
theorem dX8_putsBack_2 : decode cX8_putsBack 2 = .ok (.iload_n 1, 1) := by decide +kernel
theorem dX8_putsBack_3 : decode cX8_putsBack 3 = .ok (.bipush 66, 2) := by decide +kernel
theorem dX8_putsBack_5 : decode cX8_putsBack 5 = .ok (.if_icmp .ge 21, 3) := by decide +kernel
theorem dX8_putsBack_8 : decode cX8_putsBack 8 = .ok (.aload_n 0, 1) := by decide +kernel
theorem dX8_putsBack_9 : decode cX8_putsBack 9 = .ok (.getfield 9, 3) := by decide +kernel
theorem dX8_putsBack_12 : decode cX8_putsBack 12 = .ok (.iload_n 1, 1) := by decide +kernel
theorem dX8_putsBack_13 : decode cX8_putsBack 13 = .ok (.aload_n 0, 1) := by decide +kernel
theorem dX8_putsBack_14 : decode cX8_putsBack 14 = .ok (.getfield 23, 3) := by decide +kernel
theorem dX8_putsBack_17 : decode cX8_putsBack 17 = .ok (.iload_n 1, 1) := by decide +kernel
theorem dX8_putsBack_18 : decode cX8_putsBack 18 = .ok (.iaload, 1) := by decide +kernel
theorem dX8_putsBack_19 : decode cX8_putsBack 19 = .ok (.iastore, 1) := by decide +kernel
theorem dX8_putsBack_20 : decode cX8_putsBack 20 = .ok (.iinc 1 1, 3) := by decide +kernel
theorem dX8_putsBack_23 : decode cX8_putsBack 23 = .ok (.goto (-21), 3) := by decide +kernel
theorem dX8_putsBack_26 : decode cX8_putsBack 26 = .ok (.aload_n 0, 1) := by decide +kernel
theorem dX8_putsBack_27 : decode cX8_putsBack 27 = .ok (.iconst (-1), 1) := by decide +kernel
theorem dX8_putsBack_28 : decode cX8_putsBack 28 = .ok (.putfield 19, 3) := by decide +kernel
theorem dX8_putsBack_31 : decode cX8_putsBack 31 = .ok (.return_, 1) := by decide +kernel
theorem dX8_behind_0 : decode cX8_behind 0 = .ok (.iload_n 1, 1) := by decide +kernel
theorem dX8_behind_1 : decode cX8_behind 1 = .ok (.iconst 0, 1) := by decide +kernel
theorem dX8_behind_2 : decode cX8_behind 2 = .ok (.bipush 100, 2) := by decide +kernel
theorem dX8_behind_4 : decode cX8_behind 4 = .ok (.invokestatic 80, 3) := by decide +kernel
theorem dX8_behind_7 : decode cX8_behind 7 = .ok (.ifCond .eq 22, 3) := by decide +kernel
theorem dX8_behind_10 : decode cX8_behind 10 = .ok (.iload_n 2, 1) := by decide +kernel
theorem dX8_behind_11 : decode cX8_behind 11 = .ok (.ifCond .lt 18, 3) := by decide +kernel
theorem dX8_behind_14 : decode cX8_behind 14 = .ok (.iload_n 2, 1) := by decide +kernel
theorem dX8_behind_15 : decode cX8_behind 15 = .ok (.iconst 2, 1) := by decide +kernel
theorem dX8_behind_16 : decode cX8_behind 16 = .ok (.if_icmp .le 16, 3) := by decide +kernel
theorem dX8_behind_19 : decode cX8_behind 19 = .ok (.aload_n 0, 1) := by decide +kernel
theorem dX8_behind_20 : decode cX8_behind 20 = .ok (.iload_n 2, 1) := by decide +kernel
theorem dX8_behind_21 : decode cX8_behind 21 = .ok (.iconst 3, 1) := by decide +kernel
theorem dX8_behind_22 : decode cX8_behind 22 = .ok (.isub, 1) := by decide +kernel
theorem dX8_behind_23 : decode cX8_behind 23 = .ok (.invokevirtual 118, 3) := by decide +kernel
theorem dX8_behind_26 : decode cX8_behind 26 = .ok (.ifCond .ne 6, 3) := by decide +kernel
theorem dX8_behind_29 : decode cX8_behind 29 = .ok (.ldc 88, 2) := by decide +kernel
theorem dX8_behind_31 : decode cX8_behind 31 = .ok (.ireturn, 1) := by decide +kernel
theorem dX8_behind_32 : decode cX8_behind 32 = .ok (.aload_n 0, 1) := by decide +kernel
theorem dX8_behind_33 : decode cX8_behind 33 = .ok (.invokevirtual 177, 3) := by decide +kernel
theorem dX8_behind_36 : decode cX8_behind 36 = .ok (.aload_n 0, 1) := by decide +kernel
theorem dX8_behind_37 : decode cX8_behind 37 = .ok (.iload_n 1, 1) := by decide +kernel
theorem dX8_behind_38 : decode cX8_behind 38 = .ok (.invokevirtual 162, 3) := by decide +kernel
theorem dX8_behind_41 : decode cX8_behind 41 = .ok (.istore_n 3, 1) := by decide +kernel
theorem dX8_behind_42 : decode cX8_behind 42 = .ok (.iload_n 2, 1) := by decide +kernel
theorem dX8_behind_43 : decode cX8_behind 43 = .ok (.iconst 2, 1) := by decide +kernel
theorem dX8_behind_44 : decode cX8_behind 44 = .ok (.if_icmp .le 14, 3) := by decide +kernel
theorem dX8_behind_47 : decode cX8_behind 47 = .ok (.aload_n 0, 1) := by decide +kernel
theorem dX8_behind_48 : decode cX8_behind 48 = .ok (.iload_n 2, 1) := by decide +kernel
theorem dX8_behind_49 : decode cX8_behind 49 = .ok (.iconst 3, 1) := by decide +kernel
theorem dX8_behind_50 : decode cX8_behind 50 = .ok (.isub, 1) := by decide +kernel
theorem dX8_behind_51 : decode cX8_behind 51 = .ok (.iconst 2, 1) := by decide +kernel
theorem dX8_behind_52 : decode cX8_behind 52 = .ok (.invokevirtual 94, 3) := by decide +kernel
theorem dX8_behind_55 : decode cX8_behind 55 = .ok (.goto 8, 3) := by decide +kernel
theorem dX8_behind_58 : decode cX8_behind 58 = .ok (.aload_n 0, 1) := by decide +kernel
theorem dX8_behind_59 : decode cX8_behind 59 = .ok (.iload_n 2, 1) := by decide +kernel
theorem dX8_behind_60 : decode cX8_behind 60 = .ok (.invokevirtual 180, 3) := by decide +kernel
theorem dX8_behind_63 : decode cX8_behind 63 = .ok (.istore 4, 2) := by decide +kernel
theorem dX8_behind_65 : decode cX8_behind 65 = .ok (.aload_n 0, 1) := by decide +kernel
theorem dX8_behind_66 : decode cX8_behind 66 = .ok (.invokevirtual 183, 3) := by decide +kernel
theorem dX8_behind_69 : decode cX8_behind 69 = .ok (.iload 4, 2) := by decide +kernel
theorem dX8_behind_71 : decode cX8_behind 71 = .ok (.ireturn, 1) := by decide +kernel
theorem dX8_isKnown_0 : decode cX8_isKnown 0 = .ok (.iload_n 1, 1) := by decide +kernel
theorem dX8_isKnown_1 : decode cX8_isKnown 1 = .ok (.aload_n 0, 1) := by decide +kernel
theorem dX8_isKnown_2 : decode cX8_isKnown 2 = .ok (.invokevirtual 165, 3) := by decide +kernel
theorem dX8_isKnown_5 : decode cX8_isKnown 5 = .ok (.iconst (-1), 1) := by decide +kernel
theorem dX8_isKnown_6 : decode cX8_isKnown 6 = .ok (.ixor, 1) := by decide +kernel
theorem dX8_isKnown_7 : decode cX8_isKnown 7 = .ok (.iand, 1) := by decide +kernel
theorem dX8_isKnown_8 : decode cX8_isKnown 8 = .ok (.ifCond .ne 7, 3) := by decide +kernel
theorem dX8_isKnown_11 : decode cX8_isKnown 11 = .ok (.iconst 1, 1) := by decide +kernel
theorem dX8_isKnown_12 : decode cX8_isKnown 12 = .ok (.goto 4, 3) := by decide +kernel
theorem dX8_isKnown_15 : decode cX8_isKnown 15 = .ok (.iconst 0, 1) := by decide +kernel
theorem dX8_isKnown_16 : decode cX8_isKnown 16 = .ok (.ireturn, 1) := by decide +kernel
theorem dX8_allKnow_0 : decode cX8_allKnow 0 = .ok (.aload_n 0, 1) := by decide +kernel
theorem dX8_allKnow_1 : decode cX8_allKnow 1 = .ok (.invokevirtual 177, 3) := by decide +kernel
theorem dX8_allKnow_4 : decode cX8_allKnow 4 = .ok (.aload_n 0, 1) := by decide +kernel
theorem dX8_allKnow_5 : decode cX8_allKnow 5 = .ok (.invokevirtual 174, 3) := by decide +kernel
theorem dX8_allKnow_8 : decode cX8_allKnow 8 = .ok (.istore_n 1, 1) := by decide +kernel
theorem dX8_allKnow_9 : decode cX8_allKnow 9 = .ok (.iconst 0, 1) := by decide +kernel
theorem dX8_allKnow_10 : decode cX8_allKnow 10 = .ok (.istore_n 2, 1) := by decide +kernel
theorem dX8_allKnow_11 : decode cX8_allKnow 11 = .ok (.iload_n 2, 1) := by decide +kernel
theorem dX8_allKnow_12 : decode cX8_allKnow 12 = .ok (.sipush 200, 3) := by decide +kernel
theorem dX8_allKnow_15 : decode cX8_allKnow 15 = .ok (.if_icmp .gt 22, 3) := by decide +kernel
theorem dX8_allKnow_18 : decode cX8_allKnow 18 = .ok (.aload_n 0, 1) := by decide +kernel
theorem dX8_allKnow_19 : decode cX8_allKnow 19 = .ok (.iload_n 1, 1) := by decide +kernel
theorem dX8_allKnow_20 : decode cX8_allKnow 20 = .ok (.invokevirtual 186, 3) := by decide +kernel
theorem dX8_allKnow_23 : decode cX8_allKnow 23 = .ok (.ifCond .ne 14, 3) := by decide +kernel
theorem dX8_allKnow_26 : decode cX8_allKnow 26 = .ok (.aload_n 0, 1) := by decide +kernel
theorem dX8_allKnow_27 : decode cX8_allKnow 27 = .ok (.invokevirtual 159, 3) := by decide +kernel
theorem dX8_allKnow_30 : decode cX8_allKnow 30 = .ok (.istore_n 3, 1) := by decide +kernel
theorem dX8_allKnow_31 : decode cX8_allKnow 31 = .ok (.iinc 2 1, 3) := by decide +kernel
theorem dX8_allKnow_34 : decode cX8_allKnow 34 = .ok (.goto (-23), 3) := by decide +kernel
theorem dX8_allKnow_37 : decode cX8_allKnow 37 = .ok (.aload_n 0, 1) := by decide +kernel
theorem dX8_allKnow_38 : decode cX8_allKnow 38 = .ok (.invokevirtual 183, 3) := by decide +kernel
theorem dX8_allKnow_41 : decode cX8_allKnow 41 = .ok (.iload_n 2, 1) := by decide +kernel
theorem dX8_allKnow_42 : decode cX8_allKnow 42 = .ok (.sipush 200, 3) := by decide +kernel
theorem dX8_allKnow_45 : decode cX8_allKnow 45 = .ok (.if_icmp .gt 7, 3) := by decide +kernel
theorem dX8_allKnow_48 : decode cX8_allKnow 48 = .ok (.iload_n 2, 1) := by decide +kernel
theorem dX8_allKnow_49 : decode cX8_allKnow 49 = .ok (.goto 5, 3) := by decide +kernel
theorem dX8_allKnow_52 : decode cX8_allKnow 52 = .ok (.ldc 79, 2) := by decide +kernel
theorem dX8_allKnow_54 : decode cX8_allKnow 54 = .ok (.ireturn, 1) := by decide +kernel
theorem dX8_bestTurn_0 : decode cX8_bestTurn 0 = .ok (.iload_n 1, 1) := by decide +kernel
theorem dX8_bestTurn_1 : decode cX8_bestTurn 1 = .ok (.iconst 1, 1) := by decide +kernel
theorem dX8_bestTurn_2 : decode cX8_bestTurn 2 = .ok (.bipush 60, 2) := by decide +kernel
theorem dX8_bestTurn_4 : decode cX8_bestTurn 4 = .ok (.invokestatic 80, 3) := by decide +kernel
theorem dX8_bestTurn_7 : decode cX8_bestTurn 7 = .ok (.ifCond .eq 12, 3) := by decide +kernel
theorem dX8_bestTurn_10 : decode cX8_bestTurn 10 = .ok (.iload_n 2, 1) := by decide +kernel
theorem dX8_bestTurn_11 : decode cX8_bestTurn 11 = .ok (.iconst 0, 1) := by decide +kernel
theorem dX8_bestTurn_12 : decode cX8_bestTurn 12 = .ok (.iconst 1, 1) := by decide +kernel
theorem dX8_bestTurn_13 : decode cX8_bestTurn 13 = .ok (.invokestatic 80, 3) := by decide +kernel
theorem dX8_bestTurn_16 : decode cX8_bestTurn 16 = .ok (.ifCond .ne 6, 3) := by decide +kernel
theorem dX8_bestTurn_19 : decode cX8_bestTurn 19 = .ok (.ldc 88, 2) := by decide +kernel
theorem dX8_bestTurn_21 : decode cX8_bestTurn 21 = .ok (.ireturn, 1) := by decide +kernel
theorem dX8_bestTurn_22 : decode cX8_bestTurn 22 = .ok (.aload_n 0, 1) := by decide +kernel
theorem dX8_bestTurn_23 : decode cX8_bestTurn 23 = .ok (.invokevirtual 177, 3) := by decide +kernel
theorem dX8_bestTurn_26 : decode cX8_bestTurn 26 = .ok (.iconst (-1), 1) := by decide +kernel
theorem dX8_bestTurn_27 : decode cX8_bestTurn 27 = .ok (.istore_n 3, 1) := by decide +kernel
theorem dX8_bestTurn_28 : decode cX8_bestTurn 28 = .ok (.iconst (-1), 1) := by decide +kernel
theorem dX8_bestTurn_29 : decode cX8_bestTurn 29 = .ok (.istore 4, 2) := by decide +kernel
theorem dX8_bestTurn_31 : decode cX8_bestTurn 31 = .ok (.iconst 0, 1) := by decide +kernel
theorem dX8_bestTurn_32 : decode cX8_bestTurn 32 = .ok (.istore 5, 2) := by decide +kernel
theorem dX8_bestTurn_34 : decode cX8_bestTurn 34 = .ok (.iload 5, 2) := by decide +kernel
theorem dX8_bestTurn_36 : decode cX8_bestTurn 36 = .ok (.bipush 10, 2) := by decide +kernel
theorem dX8_bestTurn_38 : decode cX8_bestTurn 38 = .ok (.if_icmp .ge 64, 3) := by decide +kernel
theorem dX8_bestTurn_41 : decode cX8_bestTurn 41 = .ok (.aload_n 0, 1) := by decide +kernel
theorem dX8_bestTurn_42 : decode cX8_bestTurn 42 = .ok (.getfield 9, 3) := by decide +kernel
theorem dX8_bestTurn_45 : decode cX8_bestTurn 45 = .ok (.iconst 5, 1) := by decide +kernel
theorem dX8_bestTurn_46 : decode cX8_bestTurn 46 = .ok (.iload 5, 2) := by decide +kernel
theorem dX8_bestTurn_48 : decode cX8_bestTurn 48 = .ok (.iastore, 1) := by decide +kernel
theorem dX8_bestTurn_49 : decode cX8_bestTurn 49 = .ok (.aload_n 0, 1) := by decide +kernel
theorem dX8_bestTurn_50 : decode cX8_bestTurn 50 = .ok (.iload_n 1, 1) := by decide +kernel
theorem dX8_bestTurn_51 : decode cX8_bestTurn 51 = .ok (.invokevirtual 162, 3) := by decide +kernel
theorem dX8_bestTurn_54 : decode cX8_bestTurn 54 = .ok (.istore 6, 2) := by decide +kernel
theorem dX8_bestTurn_56 : decode cX8_bestTurn 56 = .ok (.aload_n 0, 1) := by decide +kernel
theorem dX8_bestTurn_57 : decode cX8_bestTurn 57 = .ok (.invokevirtual 171, 3) := by decide +kernel
theorem dX8_bestTurn_60 : decode cX8_bestTurn 60 = .ok (.istore 7, 2) := by decide +kernel
theorem dX8_bestTurn_62 : decode cX8_bestTurn 62 = .ok (.aload_n 0, 1) := by decide +kernel
theorem dX8_bestTurn_63 : decode cX8_bestTurn 63 = .ok (.invokevirtual 183, 3) := by decide +kernel
theorem dX8_bestTurn_66 : decode cX8_bestTurn 66 = .ok (.iload 7, 2) := by decide +kernel
theorem dX8_bestTurn_68 : decode cX8_bestTurn 68 = .ok (.iload 4, 2) := by decide +kernel
theorem dX8_bestTurn_70 : decode cX8_bestTurn 70 = .ok (.if_icmp .le 8, 3) := by decide +kernel
theorem dX8_bestTurn_73 : decode cX8_bestTurn 73 = .ok (.iload 5, 2) := by decide +kernel
theorem dX8_bestTurn_75 : decode cX8_bestTurn 75 = .ok (.goto 4, 3) := by decide +kernel
theorem dX8_bestTurn_78 : decode cX8_bestTurn 78 = .ok (.iload_n 3, 1) := by decide +kernel
theorem dX8_bestTurn_79 : decode cX8_bestTurn 79 = .ok (.istore_n 3, 1) := by decide +kernel
theorem dX8_bestTurn_80 : decode cX8_bestTurn 80 = .ok (.iload 7, 2) := by decide +kernel
theorem dX8_bestTurn_82 : decode cX8_bestTurn 82 = .ok (.iload 4, 2) := by decide +kernel
theorem dX8_bestTurn_84 : decode cX8_bestTurn 84 = .ok (.if_icmp .le 8, 3) := by decide +kernel
theorem dX8_bestTurn_87 : decode cX8_bestTurn 87 = .ok (.iload 7, 2) := by decide +kernel
theorem dX8_bestTurn_89 : decode cX8_bestTurn 89 = .ok (.goto 5, 3) := by decide +kernel
theorem dX8_bestTurn_92 : decode cX8_bestTurn 92 = .ok (.iload 4, 2) := by decide +kernel
theorem dX8_bestTurn_94 : decode cX8_bestTurn 94 = .ok (.istore 4, 2) := by decide +kernel
theorem dX8_bestTurn_96 : decode cX8_bestTurn 96 = .ok (.iinc 5 1, 3) := by decide +kernel
theorem dX8_bestTurn_99 : decode cX8_bestTurn 99 = .ok (.goto (-65), 3) := by decide +kernel
theorem dX8_bestTurn_102 : decode cX8_bestTurn 102 = .ok (.iload_n 2, 1) := by decide +kernel
theorem dX8_bestTurn_103 : decode cX8_bestTurn 103 = .ok (.ifCond .ne 7, 3) := by decide +kernel
theorem dX8_bestTurn_106 : decode cX8_bestTurn 106 = .ok (.iload_n 3, 1) := by decide +kernel
theorem dX8_bestTurn_107 : decode cX8_bestTurn 107 = .ok (.goto 5, 3) := by decide +kernel
theorem dX8_bestTurn_110 : decode cX8_bestTurn 110 = .ok (.iload 4, 2) := by decide +kernel
theorem dX8_bestTurn_112 : decode cX8_bestTurn 112 = .ok (.ireturn, 1) := by decide +kernel
theorem dX8_sure_0 : decode cX8_sure 0 = .ok (.iload_n 1, 1) := by decide +kernel
theorem dX8_sure_1 : decode cX8_sure 1 = .ok (.iconst 1, 1) := by decide +kernel
theorem dX8_sure_2 : decode cX8_sure 2 = .ok (.bipush 60, 2) := by decide +kernel
theorem dX8_sure_4 : decode cX8_sure 4 = .ok (.invokestatic 80, 3) := by decide +kernel
theorem dX8_sure_7 : decode cX8_sure 7 = .ok (.ifCond .ne 6, 3) := by decide +kernel
theorem dX8_sure_10 : decode cX8_sure 10 = .ok (.ldc 88, 2) := by decide +kernel
theorem dX8_sure_12 : decode cX8_sure 12 = .ok (.ireturn, 1) := by decide +kernel
theorem dX8_sure_13 : decode cX8_sure 13 = .ok (.aload_n 0, 1) := by decide +kernel
theorem dX8_sure_14 : decode cX8_sure 14 = .ok (.invokevirtual 177, 3) := by decide +kernel
theorem dX8_sure_17 : decode cX8_sure 17 = .ok (.sipush 255, 3) := by decide +kernel
theorem dX8_sure_20 : decode cX8_sure 20 = .ok (.istore_n 2, 1) := by decide +kernel
theorem dX8_sure_21 : decode cX8_sure 21 = .ok (.iconst (-1), 1) := by decide +kernel
theorem dX8_sure_22 : decode cX8_sure 22 = .ok (.istore_n 3, 1) := by decide +kernel
theorem dX8_sure_23 : decode cX8_sure 23 = .ok (.iload_n 3, 1) := by decide +kernel
theorem dX8_sure_24 : decode cX8_sure 24 = .ok (.aload_n 0, 1) := by decide +kernel
theorem dX8_sure_25 : decode cX8_sure 25 = .ok (.getfield 9, 3) := by decide +kernel
theorem dX8_sure_28 : decode cX8_sure 28 = .ok (.iconst 1, 1) := by decide +kernel
theorem dX8_sure_29 : decode cX8_sure 29 = .ok (.iaload, 1) := by decide +kernel
theorem dX8_sure_30 : decode cX8_sure 30 = .ok (.if_icmp .ge 32, 3) := by decide +kernel
theorem dX8_sure_33 : decode cX8_sure 33 = .ok (.aload_n 0, 1) := by decide +kernel
theorem dX8_sure_34 : decode cX8_sure 34 = .ok (.iload_n 3, 1) := by decide +kernel
theorem dX8_sure_35 : decode cX8_sure 35 = .ok (.putfield 19, 3) := by decide +kernel
theorem dX8_sure_38 : decode cX8_sure 38 = .ok (.aload_n 0, 1) := by decide +kernel
theorem dX8_sure_39 : decode cX8_sure 39 = .ok (.iload_n 1, 1) := by decide +kernel
theorem dX8_sure_40 : decode cX8_sure 40 = .ok (.invokevirtual 162, 3) := by decide +kernel
theorem dX8_sure_43 : decode cX8_sure 43 = .ok (.istore 4, 2) := by decide +kernel
theorem dX8_sure_45 : decode cX8_sure 45 = .ok (.iload_n 2, 1) := by decide +kernel
theorem dX8_sure_46 : decode cX8_sure 46 = .ok (.aload_n 0, 1) := by decide +kernel
theorem dX8_sure_47 : decode cX8_sure 47 = .ok (.invokevirtual 165, 3) := by decide +kernel
theorem dX8_sure_50 : decode cX8_sure 50 = .ok (.iand, 1) := by decide +kernel
theorem dX8_sure_51 : decode cX8_sure 51 = .ok (.istore_n 2, 1) := by decide +kernel
theorem dX8_sure_52 : decode cX8_sure 52 = .ok (.aload_n 0, 1) := by decide +kernel
theorem dX8_sure_53 : decode cX8_sure 53 = .ok (.invokevirtual 183, 3) := by decide +kernel
theorem dX8_sure_56 : decode cX8_sure 56 = .ok (.iinc 3 1, 3) := by decide +kernel
theorem dX8_sure_59 : decode cX8_sure 59 = .ok (.goto (-36), 3) := by decide +kernel
theorem dX8_sure_62 : decode cX8_sure 62 = .ok (.iload_n 2, 1) := by decide +kernel
theorem dX8_sure_63 : decode cX8_sure 63 = .ok (.ireturn, 1) := by decide +kernel
theorem dX8_votesBehind_0 : decode cX8_votesBehind 0 = .ok (.aload_n 0, 1) := by decide +kernel
theorem dX8_votesBehind_1 : decode cX8_votesBehind 1 = .ok (.iload_n 1, 1) := by decide +kernel
theorem dX8_votesBehind_2 : decode cX8_votesBehind 2 = .ok (.invokevirtual 162, 3) := by decide +kernel
theorem dX8_votesBehind_5 : decode cX8_votesBehind 5 = .ok (.istore_n 2, 1) := by decide +kernel
theorem dX8_votesBehind_6 : decode cX8_votesBehind 6 = .ok (.aload_n 0, 1) := by decide +kernel
theorem dX8_votesBehind_7 : decode cX8_votesBehind 7 = .ok (.invokevirtual 168, 3) := by decide +kernel
theorem dX8_votesBehind_10 : decode cX8_votesBehind 10 = .ok (.istore_n 3, 1) := by decide +kernel
theorem dX8_votesBehind_11 : decode cX8_votesBehind 11 = .ok (.aload_n 0, 1) := by decide +kernel
theorem dX8_votesBehind_12 : decode cX8_votesBehind 12 = .ok (.invokevirtual 183, 3) := by decide +kernel
theorem dX8_votesBehind_15 : decode cX8_votesBehind 15 = .ok (.iload_n 3, 1) := by decide +kernel
theorem dX8_votesBehind_16 : decode cX8_votesBehind 16 = .ok (.ireturn, 1) := by decide +kernel
theorem dX8_advocate_0 : decode cX8_advocate 0 = .ok (.iload_n 1, 1) := by decide +kernel
theorem dX8_advocate_1 : decode cX8_advocate 1 = .ok (.iconst 0, 1) := by decide +kernel
theorem dX8_advocate_2 : decode cX8_advocate 2 = .ok (.bipush 60, 2) := by decide +kernel
theorem dX8_advocate_4 : decode cX8_advocate 4 = .ok (.invokestatic 80, 3) := by decide +kernel
theorem dX8_advocate_7 : decode cX8_advocate 7 = .ok (.ifCond .eq 12, 3) := by decide +kernel
theorem dX8_advocate_10 : decode cX8_advocate 10 = .ok (.iload_n 2, 1) := by decide +kernel
theorem dX8_advocate_11 : decode cX8_advocate 11 = .ok (.iconst 0, 1) := by decide +kernel
theorem dX8_advocate_12 : decode cX8_advocate 12 = .ok (.iconst 1, 1) := by decide +kernel
theorem dX8_advocate_13 : decode cX8_advocate 13 = .ok (.invokestatic 80, 3) := by decide +kernel
theorem dX8_advocate_16 : decode cX8_advocate 16 = .ok (.ifCond .ne 6, 3) := by decide +kernel
theorem dX8_advocate_19 : decode cX8_advocate 19 = .ok (.ldc 88, 2) := by decide +kernel
theorem dX8_advocate_21 : decode cX8_advocate 21 = .ok (.ireturn, 1) := by decide +kernel
theorem dX8_advocate_22 : decode cX8_advocate 22 = .ok (.aload_n 0, 1) := by decide +kernel
theorem dX8_advocate_23 : decode cX8_advocate 23 = .ok (.invokevirtual 177, 3) := by decide +kernel
theorem dX8_advocate_26 : decode cX8_advocate 26 = .ok (.iconst (-1), 1) := by decide +kernel
theorem dX8_advocate_27 : decode cX8_advocate 27 = .ok (.istore_n 3, 1) := by decide +kernel
theorem dX8_advocate_28 : decode cX8_advocate 28 = .ok (.iconst (-1), 1) := by decide +kernel
theorem dX8_advocate_29 : decode cX8_advocate 29 = .ok (.istore 4, 2) := by decide +kernel
theorem dX8_advocate_31 : decode cX8_advocate 31 = .ok (.iconst 0, 1) := by decide +kernel
theorem dX8_advocate_32 : decode cX8_advocate 32 = .ok (.istore 5, 2) := by decide +kernel
theorem dX8_advocate_34 : decode cX8_advocate 34 = .ok (.iload 5, 2) := by decide +kernel
theorem dX8_advocate_36 : decode cX8_advocate 36 = .ok (.bipush 16, 2) := by decide +kernel
theorem dX8_advocate_38 : decode cX8_advocate 38 = .ok (.if_icmp .ge 60, 3) := by decide +kernel
theorem dX8_advocate_41 : decode cX8_advocate 41 = .ok (.aload_n 0, 1) := by decide +kernel
theorem dX8_advocate_42 : decode cX8_advocate 42 = .ok (.iload 5, 2) := by decide +kernel
theorem dX8_advocate_44 : decode cX8_advocate 44 = .ok (.iconst 2, 1) := by decide +kernel
theorem dX8_advocate_45 : decode cX8_advocate 45 = .ok (.idiv, 1) := by decide +kernel
theorem dX8_advocate_46 : decode cX8_advocate 46 = .ok (.iload 5, 2) := by decide +kernel
theorem dX8_advocate_48 : decode cX8_advocate 48 = .ok (.iconst 2, 1) := by decide +kernel
theorem dX8_advocate_49 : decode cX8_advocate 49 = .ok (.irem, 1) := by decide +kernel
theorem dX8_advocate_50 : decode cX8_advocate 50 = .ok (.invokevirtual 153, 3) := by decide +kernel
theorem dX8_advocate_53 : decode cX8_advocate 53 = .ok (.istore 6, 2) := by decide +kernel
theorem dX8_advocate_55 : decode cX8_advocate 55 = .ok (.aload_n 0, 1) := by decide +kernel
theorem dX8_advocate_56 : decode cX8_advocate 56 = .ok (.iload_n 1, 1) := by decide +kernel
theorem dX8_advocate_57 : decode cX8_advocate 57 = .ok (.invokevirtual 189, 3) := by decide +kernel
theorem dX8_advocate_60 : decode cX8_advocate 60 = .ok (.istore 7, 2) := by decide +kernel
theorem dX8_advocate_62 : decode cX8_advocate 62 = .ok (.iload 7, 2) := by decide +kernel
theorem dX8_advocate_64 : decode cX8_advocate 64 = .ok (.iload 4, 2) := by decide +kernel
theorem dX8_advocate_66 : decode cX8_advocate 66 = .ok (.if_icmp .le 8, 3) := by decide +kernel
theorem dX8_advocate_69 : decode cX8_advocate 69 = .ok (.iload 5, 2) := by decide +kernel
theorem dX8_advocate_71 : decode cX8_advocate 71 = .ok (.goto 4, 3) := by decide +kernel
theorem dX8_advocate_74 : decode cX8_advocate 74 = .ok (.iload_n 3, 1) := by decide +kernel
theorem dX8_advocate_75 : decode cX8_advocate 75 = .ok (.istore_n 3, 1) := by decide +kernel
theorem dX8_advocate_76 : decode cX8_advocate 76 = .ok (.iload 7, 2) := by decide +kernel
theorem dX8_advocate_78 : decode cX8_advocate 78 = .ok (.iload 4, 2) := by decide +kernel
theorem dX8_advocate_80 : decode cX8_advocate 80 = .ok (.if_icmp .le 8, 3) := by decide +kernel
theorem dX8_advocate_83 : decode cX8_advocate 83 = .ok (.iload 7, 2) := by decide +kernel
theorem dX8_advocate_85 : decode cX8_advocate 85 = .ok (.goto 5, 3) := by decide +kernel
theorem dX8_advocate_88 : decode cX8_advocate 88 = .ok (.iload 4, 2) := by decide +kernel
theorem dX8_advocate_90 : decode cX8_advocate 90 = .ok (.istore 4, 2) := by decide +kernel
theorem dX8_advocate_92 : decode cX8_advocate 92 = .ok (.iinc 5 1, 3) := by decide +kernel
theorem dX8_advocate_95 : decode cX8_advocate 95 = .ok (.goto (-61), 3) := by decide +kernel
theorem dX8_advocate_98 : decode cX8_advocate 98 = .ok (.iload_n 2, 1) := by decide +kernel
theorem dX8_advocate_99 : decode cX8_advocate 99 = .ok (.ifCond .ne 7, 3) := by decide +kernel
theorem dX8_advocate_102 : decode cX8_advocate 102 = .ok (.iload_n 3, 1) := by decide +kernel
theorem dX8_advocate_103 : decode cX8_advocate 103 = .ok (.goto 5, 3) := by decide +kernel
theorem dX8_advocate_106 : decode cX8_advocate 106 = .ok (.iload 4, 2) := by decide +kernel
theorem dX8_advocate_108 : decode cX8_advocate 108 = .ok (.ireturn, 1) := by decide +kernel
theorem dX8_tipped_0 : decode cX8_tipped 0 = .ok (.iload_n 1, 1) := by decide +kernel
theorem dX8_tipped_1 : decode cX8_tipped 1 = .ok (.iconst 1, 1) := by decide +kernel
theorem dX8_tipped_2 : decode cX8_tipped 2 = .ok (.bipush 60, 2) := by decide +kernel
theorem dX8_tipped_4 : decode cX8_tipped 4 = .ok (.invokestatic 80, 3) := by decide +kernel
theorem dX8_tipped_7 : decode cX8_tipped 7 = .ok (.ifCond .ne 6, 3) := by decide +kernel
theorem dX8_tipped_10 : decode cX8_tipped 10 = .ok (.ldc 88, 2) := by decide +kernel
theorem dX8_tipped_12 : decode cX8_tipped 12 = .ok (.ireturn, 1) := by decide +kernel
theorem dX8_tipped_13 : decode cX8_tipped 13 = .ok (.aload_n 0, 1) := by decide +kernel
theorem dX8_tipped_14 : decode cX8_tipped 14 = .ok (.invokevirtual 177, 3) := by decide +kernel
theorem dX8_tipped_17 : decode cX8_tipped 17 = .ok (.aload_n 0, 1) := by decide +kernel
theorem dX8_tipped_18 : decode cX8_tipped 18 = .ok (.iload_n 1, 1) := by decide +kernel
theorem dX8_tipped_19 : decode cX8_tipped 19 = .ok (.invokevirtual 189, 3) := by decide +kernel
theorem dX8_tipped_22 : decode cX8_tipped 22 = .ok (.istore_n 2, 1) := by decide +kernel
theorem dX8_tipped_23 : decode cX8_tipped 23 = .ok (.iconst 0, 1) := by decide +kernel
theorem dX8_tipped_24 : decode cX8_tipped 24 = .ok (.istore_n 3, 1) := by decide +kernel
theorem dX8_tipped_25 : decode cX8_tipped 25 = .ok (.iconst 0, 1) := by decide +kernel
theorem dX8_tipped_26 : decode cX8_tipped 26 = .ok (.istore 4, 2) := by decide +kernel
theorem dX8_tipped_28 : decode cX8_tipped 28 = .ok (.iload 4, 2) := by decide +kernel
theorem dX8_tipped_30 : decode cX8_tipped 30 = .ok (.aload_n 0, 1) := by decide +kernel
theorem dX8_tipped_31 : decode cX8_tipped 31 = .ok (.getfield 9, 3) := by decide +kernel
theorem dX8_tipped_34 : decode cX8_tipped 34 = .ok (.iconst 1, 1) := by decide +kernel
theorem dX8_tipped_35 : decode cX8_tipped 35 = .ok (.iaload, 1) := by decide +kernel
theorem dX8_tipped_36 : decode cX8_tipped 36 = .ok (.if_icmp .ge 35, 3) := by decide +kernel
theorem dX8_tipped_39 : decode cX8_tipped 39 = .ok (.aload_n 0, 1) := by decide +kernel
theorem dX8_tipped_40 : decode cX8_tipped 40 = .ok (.iload 4, 2) := by decide +kernel
theorem dX8_tipped_42 : decode cX8_tipped 42 = .ok (.putfield 19, 3) := by decide +kernel
theorem dX8_tipped_45 : decode cX8_tipped 45 = .ok (.iload_n 3, 1) := by decide +kernel
theorem dX8_tipped_46 : decode cX8_tipped 46 = .ok (.aload_n 0, 1) := by decide +kernel
theorem dX8_tipped_47 : decode cX8_tipped 47 = .ok (.iload_n 1, 1) := by decide +kernel
theorem dX8_tipped_48 : decode cX8_tipped 48 = .ok (.invokevirtual 189, 3) := by decide +kernel
theorem dX8_tipped_51 : decode cX8_tipped 51 = .ok (.iload_n 2, 1) := by decide +kernel
theorem dX8_tipped_52 : decode cX8_tipped 52 = .ok (.if_icmp .ne 7, 3) := by decide +kernel
theorem dX8_tipped_55 : decode cX8_tipped 55 = .ok (.iconst 0, 1) := by decide +kernel
theorem dX8_tipped_56 : decode cX8_tipped 56 = .ok (.goto 7, 3) := by decide +kernel
theorem dX8_tipped_59 : decode cX8_tipped 59 = .ok (.iconst 1, 1) := by decide +kernel
theorem dX8_tipped_60 : decode cX8_tipped 60 = .ok (.iload 4, 2) := by decide +kernel
theorem dX8_tipped_62 : decode cX8_tipped 62 = .ok (.ishl, 1) := by decide +kernel
theorem dX8_tipped_63 : decode cX8_tipped 63 = .ok (.ior, 1) := by decide +kernel
theorem dX8_tipped_64 : decode cX8_tipped 64 = .ok (.istore_n 3, 1) := by decide +kernel
theorem dX8_tipped_65 : decode cX8_tipped 65 = .ok (.iinc 4 1, 3) := by decide +kernel
theorem dX8_tipped_68 : decode cX8_tipped 68 = .ok (.goto (-40), 3) := by decide +kernel
theorem dX8_tipped_71 : decode cX8_tipped 71 = .ok (.iload_n 3, 1) := by decide +kernel
theorem dX8_tipped_72 : decode cX8_tipped 72 = .ok (.ireturn, 1) := by decide +kernel
theorem dX8_offBy_0 : decode cX8_offBy 0 = .ok (.aload_n 0, 1) := by decide +kernel
theorem dX8_offBy_1 : decode cX8_offBy 1 = .ok (.bipush 8, 2) := by decide +kernel
theorem dX8_offBy_3 : decode cX8_offBy 3 = .ok (.iload_n 2, 1) := by decide +kernel
theorem dX8_offBy_4 : decode cX8_offBy 4 = .ok (.iadd, 1) := by decide +kernel
theorem dX8_offBy_5 : decode cX8_offBy 5 = .ok (.aload_n 0, 1) := by decide +kernel
theorem dX8_offBy_6 : decode cX8_offBy 6 = .ok (.getfield 9, 3) := by decide +kernel
theorem dX8_offBy_9 : decode cX8_offBy 9 = .ok (.bipush 8, 2) := by decide +kernel
theorem dX8_offBy_11 : decode cX8_offBy 11 = .ok (.iload_n 2, 1) := by decide +kernel
theorem dX8_offBy_12 : decode cX8_offBy 12 = .ok (.iadd, 1) := by decide +kernel
theorem dX8_offBy_13 : decode cX8_offBy 13 = .ok (.iaload, 1) := by decide +kernel
theorem dX8_offBy_14 : decode cX8_offBy 14 = .ok (.bipush 20, 2) := by decide +kernel
theorem dX8_offBy_16 : decode cX8_offBy 16 = .ok (.iadd, 1) := by decide +kernel
theorem dX8_offBy_17 : decode cX8_offBy 17 = .ok (.bipush (-50), 2) := by decide +kernel
theorem dX8_offBy_19 : decode cX8_offBy 19 = .ok (.bipush 50, 2) := by decide +kernel
theorem dX8_offBy_21 : decode cX8_offBy 21 = .ok (.invokestatic 111, 3) := by decide +kernel
theorem dX8_offBy_24 : decode cX8_offBy 24 = .ok (.invokevirtual 142, 3) := by decide +kernel
theorem dX8_offBy_27 : decode cX8_offBy 27 = .ok (.istore_n 3, 1) := by decide +kernel
theorem dX8_offBy_28 : decode cX8_offBy 28 = .ok (.lconst 0, 1) := by decide +kernel
theorem dX8_offBy_29 : decode cX8_offBy 29 = .ok (.lstore 4, 2) := by decide +kernel
theorem dX8_offBy_31 : decode cX8_offBy 31 = .ok (.iconst 0, 1) := by decide +kernel
theorem dX8_offBy_32 : decode cX8_offBy 32 = .ok (.istore 6, 2) := by decide +kernel
theorem dX8_offBy_34 : decode cX8_offBy 34 = .ok (.iload 6, 2) := by decide +kernel
theorem dX8_offBy_36 : decode cX8_offBy 36 = .ok (.aload_n 0, 1) := by decide +kernel
theorem dX8_offBy_37 : decode cX8_offBy 37 = .ok (.getfield 55, 3) := by decide +kernel
theorem dX8_offBy_40 : decode cX8_offBy 40 = .ok (.iload_n 1, 1) := by decide +kernel
theorem dX8_offBy_41 : decode cX8_offBy 41 = .ok (.iaload, 1) := by decide +kernel
theorem dX8_offBy_42 : decode cX8_offBy 42 = .ok (.if_icmp .ge 80, 3) := by decide +kernel
theorem dX8_offBy_45 : decode cX8_offBy 45 = .ok (.aload_n 0, 1) := by decide +kernel
theorem dX8_offBy_46 : decode cX8_offBy 46 = .ok (.getfield 58, 3) := by decide +kernel
theorem dX8_offBy_49 : decode cX8_offBy 49 = .ok (.bipush 24, 2) := by decide +kernel
theorem dX8_offBy_51 : decode cX8_offBy 51 = .ok (.iload_n 1, 1) := by decide +kernel
theorem dX8_offBy_52 : decode cX8_offBy 52 = .ok (.imul, 1) := by decide +kernel
theorem dX8_offBy_53 : decode cX8_offBy 53 = .ok (.iload 6, 2) := by decide +kernel
theorem dX8_offBy_55 : decode cX8_offBy 55 = .ok (.iadd, 1) := by decide +kernel
theorem dX8_offBy_56 : decode cX8_offBy 56 = .ok (.iaload, 1) := by decide +kernel
theorem dX8_offBy_57 : decode cX8_offBy 57 = .ok (.istore 7, 2) := by decide +kernel
theorem dX8_offBy_59 : decode cX8_offBy 59 = .ok (.iload 7, 2) := by decide +kernel
theorem dX8_offBy_61 : decode cX8_offBy 61 = .ok (.i2l, 1) := by decide +kernel
theorem dX8_offBy_62 : decode cX8_offBy 62 = .ok (.aload_n 0, 1) := by decide +kernel
theorem dX8_offBy_63 : decode cX8_offBy 63 = .ok (.iload 6, 2) := by decide +kernel
theorem dX8_offBy_65 : decode cX8_offBy 65 = .ok (.invokevirtual 118, 3) := by decide +kernel
theorem dX8_offBy_68 : decode cX8_offBy 68 = .ok (.ifCond .eq 12, 3) := by decide +kernel
theorem dX8_offBy_71 : decode cX8_offBy 71 = .ok (.aload_n 0, 1) := by decide +kernel
theorem dX8_offBy_72 : decode cX8_offBy 72 = .ok (.iload 6, 2) := by decide +kernel
theorem dX8_offBy_74 : decode cX8_offBy 74 = .ok (.invokevirtual 115, 3) := by decide +kernel
theorem dX8_offBy_77 : decode cX8_offBy 77 = .ok (.goto 4, 3) := by decide +kernel
theorem dX8_offBy_80 : decode cX8_offBy 80 = .ok (.iconst 0, 1) := by decide +kernel
theorem dX8_offBy_81 : decode cX8_offBy 81 = .ok (.i2l, 1) := by decide +kernel
theorem dX8_offBy_82 : decode cX8_offBy 82 = .ok (.lsub, 1) := by decide +kernel
theorem dX8_offBy_83 : decode cX8_offBy 83 = .ok (.lstore 8, 2) := by decide +kernel
theorem dX8_offBy_85 : decode cX8_offBy 85 = .ok (.lload 4, 2) := by decide +kernel
theorem dX8_offBy_87 : decode cX8_offBy 87 = .ok (.iload 7, 2) := by decide +kernel
theorem dX8_offBy_89 : decode cX8_offBy 89 = .ok (.ldc 79, 2) := by decide +kernel
theorem dX8_offBy_91 : decode cX8_offBy 91 = .ok (.if_icmp .ne 7, 3) := by decide +kernel
theorem dX8_offBy_94 : decode cX8_offBy 94 = .ok (.lconst 0, 1) := by decide +kernel
theorem dX8_offBy_95 : decode cX8_offBy 95 = .ok (.goto 18, 3) := by decide +kernel
theorem dX8_offBy_98 : decode cX8_offBy 98 = .ok (.lload 8, 2) := by decide +kernel
theorem dX8_offBy_100 : decode cX8_offBy 100 = .ok (.lconst 0, 1) := by decide +kernel
theorem dX8_offBy_101 : decode cX8_offBy 101 = .ok (.lcmp, 1) := by decide +kernel
theorem dX8_offBy_102 : decode cX8_offBy 102 = .ok (.ifCond .ge 9, 3) := by decide +kernel
theorem dX8_offBy_105 : decode cX8_offBy 105 = .ok (.lload 8, 2) := by decide +kernel
theorem dX8_offBy_107 : decode cX8_offBy 107 = .ok (.lneg, 1) := by decide +kernel
theorem dX8_offBy_108 : decode cX8_offBy 108 = .ok (.goto 5, 3) := by decide +kernel
theorem dX8_offBy_111 : decode cX8_offBy 111 = .ok (.lload 8, 2) := by decide +kernel
theorem dX8_offBy_113 : decode cX8_offBy 113 = .ok (.ladd, 1) := by decide +kernel
theorem dX8_offBy_114 : decode cX8_offBy 114 = .ok (.lstore 4, 2) := by decide +kernel
theorem dX8_offBy_116 : decode cX8_offBy 116 = .ok (.iinc 6 1, 3) := by decide +kernel
theorem dX8_offBy_119 : decode cX8_offBy 119 = .ok (.goto (-85), 3) := by decide +kernel
theorem dX8_offBy_122 : decode cX8_offBy 122 = .ok (.aload_n 0, 1) := by decide +kernel
theorem dX8_offBy_123 : decode cX8_offBy 123 = .ok (.getfield 9, 3) := by decide +kernel
theorem dX8_offBy_126 : decode cX8_offBy 126 = .ok (.bipush 8, 2) := by decide +kernel
theorem dX8_offBy_128 : decode cX8_offBy 128 = .ok (.iload_n 2, 1) := by decide +kernel
theorem dX8_offBy_129 : decode cX8_offBy 129 = .ok (.iadd, 1) := by decide +kernel
theorem dX8_offBy_130 : decode cX8_offBy 130 = .ok (.iload_n 3, 1) := by decide +kernel
theorem dX8_offBy_131 : decode cX8_offBy 131 = .ok (.iastore, 1) := by decide +kernel
theorem dX8_offBy_132 : decode cX8_offBy 132 = .ok (.lload 4, 2) := by decide +kernel
theorem dX8_offBy_134 : decode cX8_offBy 134 = .ok (.lreturn, 1) := by decide +kernel
theorem dX8_weighed_0 : decode cX8_weighed 0 = .ok (.iload_n 1, 1) := by decide +kernel
theorem dX8_weighed_1 : decode cX8_weighed 1 = .ok (.invokestatic 192, 3) := by decide +kernel
theorem dX8_weighed_4 : decode cX8_weighed 4 = .ok (.ifCond .eq 12, 3) := by decide +kernel
theorem dX8_weighed_7 : decode cX8_weighed 7 = .ok (.iload_n 2, 1) := by decide +kernel
theorem dX8_weighed_8 : decode cX8_weighed 8 = .ok (.iconst 0, 1) := by decide +kernel
theorem dX8_weighed_9 : decode cX8_weighed 9 = .ok (.iconst 1, 1) := by decide +kernel
theorem dX8_weighed_10 : decode cX8_weighed 10 = .ok (.invokestatic 80, 3) := by decide +kernel
theorem dX8_weighed_13 : decode cX8_weighed 13 = .ok (.ifCond .ne 6, 3) := by decide +kernel
theorem dX8_weighed_16 : decode cX8_weighed 16 = .ok (.ldc 88, 2) := by decide +kernel
theorem dX8_weighed_18 : decode cX8_weighed 18 = .ok (.ireturn, 1) := by decide +kernel
theorem dX8_weighed_19 : decode cX8_weighed 19 = .ok (.aload_n 0, 1) := by decide +kernel
theorem dX8_weighed_20 : decode cX8_weighed 20 = .ok (.getfield 52, 3) := by decide +kernel
theorem dX8_weighed_23 : decode cX8_weighed 23 = .ok (.iload_n 1, 1) := by decide +kernel
theorem dX8_weighed_24 : decode cX8_weighed 24 = .ok (.iaload, 1) := by decide +kernel
theorem dX8_weighed_25 : decode cX8_weighed 25 = .ok (.ifCond .ge 6, 3) := by decide +kernel
theorem dX8_weighed_28 : decode cX8_weighed 28 = .ok (.ldc 195, 2) := by decide +kernel
theorem dX8_weighed_30 : decode cX8_weighed 30 = .ok (.ireturn, 1) := by decide +kernel
theorem dX8_weighed_31 : decode cX8_weighed 31 = .ok (.iconst 0, 1) := by decide +kernel
theorem dX8_weighed_32 : decode cX8_weighed 32 = .ok (.istore_n 3, 1) := by decide +kernel
theorem dX8_weighed_33 : decode cX8_weighed 33 = .ok (.aload_n 0, 1) := by decide +kernel
theorem dX8_weighed_34 : decode cX8_weighed 34 = .ok (.iload_n 1, 1) := by decide +kernel
theorem dX8_weighed_35 : decode cX8_weighed 35 = .ok (.iconst 0, 1) := by decide +kernel
theorem dX8_weighed_36 : decode cX8_weighed 36 = .ok (.invokevirtual 196, 3) := by decide +kernel
theorem dX8_weighed_39 : decode cX8_weighed 39 = .ok (.lstore 4, 2) := by decide +kernel
theorem dX8_weighed_41 : decode cX8_weighed 41 = .ok (.iconst 1, 1) := by decide +kernel
theorem dX8_weighed_42 : decode cX8_weighed 42 = .ok (.istore 6, 2) := by decide +kernel
theorem dX8_weighed_44 : decode cX8_weighed 44 = .ok (.iload 6, 2) := by decide +kernel
theorem dX8_weighed_46 : decode cX8_weighed 46 = .ok (.bipush 8, 2) := by decide +kernel
theorem dX8_weighed_48 : decode cX8_weighed 48 = .ok (.if_icmp .ge 50, 3) := by decide +kernel
theorem dX8_weighed_51 : decode cX8_weighed 51 = .ok (.aload_n 0, 1) := by decide +kernel
theorem dX8_weighed_52 : decode cX8_weighed 52 = .ok (.iload_n 1, 1) := by decide +kernel
theorem dX8_weighed_53 : decode cX8_weighed 53 = .ok (.iload 6, 2) := by decide +kernel
theorem dX8_weighed_55 : decode cX8_weighed 55 = .ok (.invokevirtual 196, 3) := by decide +kernel
theorem dX8_weighed_58 : decode cX8_weighed 58 = .ok (.lstore 7, 2) := by decide +kernel
theorem dX8_weighed_60 : decode cX8_weighed 60 = .ok (.lload 7, 2) := by decide +kernel
theorem dX8_weighed_62 : decode cX8_weighed 62 = .ok (.lload 4, 2) := by decide +kernel
theorem dX8_weighed_64 : decode cX8_weighed 64 = .ok (.lcmp, 1) := by decide +kernel
theorem dX8_weighed_65 : decode cX8_weighed 65 = .ok (.ifCond .ge 8, 3) := by decide +kernel
theorem dX8_weighed_68 : decode cX8_weighed 68 = .ok (.iload 6, 2) := by decide +kernel
theorem dX8_weighed_70 : decode cX8_weighed 70 = .ok (.goto 4, 3) := by decide +kernel
theorem dX8_weighed_73 : decode cX8_weighed 73 = .ok (.iload_n 3, 1) := by decide +kernel
theorem dX8_weighed_74 : decode cX8_weighed 74 = .ok (.istore_n 3, 1) := by decide +kernel
theorem dX8_weighed_75 : decode cX8_weighed 75 = .ok (.lload 7, 2) := by decide +kernel
theorem dX8_weighed_77 : decode cX8_weighed 77 = .ok (.lload 4, 2) := by decide +kernel
theorem dX8_weighed_79 : decode cX8_weighed 79 = .ok (.lcmp, 1) := by decide +kernel
theorem dX8_weighed_80 : decode cX8_weighed 80 = .ok (.ifCond .ge 8, 3) := by decide +kernel
theorem dX8_weighed_83 : decode cX8_weighed 83 = .ok (.lload 7, 2) := by decide +kernel
theorem dX8_weighed_85 : decode cX8_weighed 85 = .ok (.goto 5, 3) := by decide +kernel
theorem dX8_weighed_88 : decode cX8_weighed 88 = .ok (.lload 4, 2) := by decide +kernel
theorem dX8_weighed_90 : decode cX8_weighed 90 = .ok (.lstore 4, 2) := by decide +kernel
theorem dX8_weighed_92 : decode cX8_weighed 92 = .ok (.iinc 6 1, 3) := by decide +kernel
theorem dX8_weighed_95 : decode cX8_weighed 95 = .ok (.goto (-51), 3) := by decide +kernel
theorem dX8_weighed_98 : decode cX8_weighed 98 = .ok (.iload_n 2, 1) := by decide +kernel
theorem dX8_weighed_99 : decode cX8_weighed 99 = .ok (.ifCond .ne 7, 3) := by decide +kernel
theorem dX8_weighed_102 : decode cX8_weighed 102 = .ok (.iload_n 3, 1) := by decide +kernel
theorem dX8_weighed_103 : decode cX8_weighed 103 = .ok (.goto 6, 3) := by decide +kernel
theorem dX8_weighed_106 : decode cX8_weighed 106 = .ok (.lload 4, 2) := by decide +kernel
theorem dX8_weighed_108 : decode cX8_weighed 108 = .ok (.l2i, 1) := by decide +kernel
theorem dX8_weighed_109 : decode cX8_weighed 109 = .ok (.ireturn, 1) := by decide +kernel
theorem dX8_fee_0 : decode cX8_fee 0 = .ok (.aload_n 0, 1) := by decide +kernel
theorem dX8_fee_1 : decode cX8_fee 1 = .ok (.iconst 1, 1) := by decide +kernel
theorem dX8_fee_2 : decode cX8_fee 2 = .ok (.invokevirtual 102, 3) := by decide +kernel
theorem dX8_fee_5 : decode cX8_fee 5 = .ok (.istore_n 1, 1) := by decide +kernel
theorem dX8_fee_6 : decode cX8_fee 6 = .ok (.aload_n 0, 1) := by decide +kernel
theorem dX8_fee_7 : decode cX8_fee 7 = .ok (.getfield 49, 3) := by decide +kernel
theorem dX8_fee_10 : decode cX8_fee 10 = .ok (.iconst 0, 1) := by decide +kernel
theorem dX8_fee_11 : decode cX8_fee 11 = .ok (.aload_n 0, 1) := by decide +kernel
theorem dX8_fee_12 : decode cX8_fee 12 = .ok (.getfield 9, 3) := by decide +kernel
theorem dX8_fee_15 : decode cX8_fee 15 = .ok (.iconst 2, 1) := by decide +kernel
theorem dX8_fee_16 : decode cX8_fee 16 = .ok (.iaload, 1) := by decide +kernel
theorem dX8_fee_17 : decode cX8_fee 17 = .ok (.iastore, 1) := by decide +kernel
theorem dX8_fee_18 : decode cX8_fee 18 = .ok (.aload_n 0, 1) := by decide +kernel
theorem dX8_fee_19 : decode cX8_fee 19 = .ok (.getfield 49, 3) := by decide +kernel
theorem dX8_fee_22 : decode cX8_fee 22 = .ok (.iconst 1, 1) := by decide +kernel
theorem dX8_fee_23 : decode cX8_fee 23 = .ok (.aload_n 0, 1) := by decide +kernel
theorem dX8_fee_24 : decode cX8_fee 24 = .ok (.getfield 9, 3) := by decide +kernel
theorem dX8_fee_27 : decode cX8_fee 27 = .ok (.bipush 6, 2) := by decide +kernel
theorem dX8_fee_29 : decode cX8_fee 29 = .ok (.iaload, 1) := by decide +kernel
theorem dX8_fee_30 : decode cX8_fee 30 = .ok (.iastore, 1) := by decide +kernel
theorem dX8_fee_31 : decode cX8_fee 31 = .ok (.iload_n 1, 1) := by decide +kernel
theorem dX8_fee_32 : decode cX8_fee 32 = .ok (.ifCond .ge 13, 3) := by decide +kernel
theorem dX8_fee_35 : decode cX8_fee 35 = .ok (.aload_n 0, 1) := by decide +kernel
theorem dX8_fee_36 : decode cX8_fee 36 = .ok (.getfield 9, 3) := by decide +kernel
theorem dX8_fee_39 : decode cX8_fee 39 = .ok (.bipush 6, 2) := by decide +kernel
theorem dX8_fee_41 : decode cX8_fee 41 = .ok (.iaload, 1) := by decide +kernel
theorem dX8_fee_42 : decode cX8_fee 42 = .ok (.goto 8, 3) := by decide +kernel
theorem dX8_fee_45 : decode cX8_fee 45 = .ok (.aload_n 0, 1) := by decide +kernel
theorem dX8_fee_46 : decode cX8_fee 46 = .ok (.iload_n 1, 1) := by decide +kernel
theorem dX8_fee_47 : decode cX8_fee 47 = .ok (.invokevirtual 108, 3) := by decide +kernel
theorem dX8_fee_50 : decode cX8_fee 50 = .ok (.ireturn, 1) := by decide +kernel
theorem dX8_fine_0 : decode cX8_fine 0 = .ok (.aload_n 0, 1) := by decide +kernel
theorem dX8_fine_1 : decode cX8_fine 1 = .ok (.iload_n 1, 1) := by decide +kernel
theorem dX8_fine_2 : decode cX8_fine 2 = .ok (.invokevirtual 118, 3) := by decide +kernel
theorem dX8_fine_5 : decode cX8_fine 5 = .ok (.ifCond .ne 6, 3) := by decide +kernel
theorem dX8_fine_8 : decode cX8_fine 8 = .ok (.ldc 88, 2) := by decide +kernel
theorem dX8_fine_10 : decode cX8_fine 10 = .ok (.ireturn, 1) := by decide +kernel
theorem dX8_fine_11 : decode cX8_fine 11 = .ok (.aload_n 0, 1) := by decide +kernel
theorem dX8_fine_12 : decode cX8_fine 12 = .ok (.iconst 2, 1) := by decide +kernel
theorem dX8_fine_13 : decode cX8_fine 13 = .ok (.invokevirtual 102, 3) := by decide +kernel
theorem dX8_fine_16 : decode cX8_fine 16 = .ok (.istore_n 2, 1) := by decide +kernel
theorem dX8_fine_17 : decode cX8_fine 17 = .ok (.aload_n 0, 1) := by decide +kernel
theorem dX8_fine_18 : decode cX8_fine 18 = .ok (.getfield 49, 3) := by decide +kernel
theorem dX8_fine_21 : decode cX8_fine 21 = .ok (.iconst 0, 1) := by decide +kernel
theorem dX8_fine_22 : decode cX8_fine 22 = .ok (.aload_n 0, 1) := by decide +kernel
theorem dX8_fine_23 : decode cX8_fine 23 = .ok (.iload_n 1, 1) := by decide +kernel
theorem dX8_fine_24 : decode cX8_fine 24 = .ok (.iconst 4, 1) := by decide +kernel
theorem dX8_fine_25 : decode cX8_fine 25 = .ok (.invokevirtual 94, 3) := by decide +kernel
theorem dX8_fine_28 : decode cX8_fine 28 = .ok (.iastore, 1) := by decide +kernel
theorem dX8_fine_29 : decode cX8_fine 29 = .ok (.aload_n 0, 1) := by decide +kernel
theorem dX8_fine_30 : decode cX8_fine 30 = .ok (.getfield 49, 3) := by decide +kernel
theorem dX8_fine_33 : decode cX8_fine 33 = .ok (.iconst 1, 1) := by decide +kernel
theorem dX8_fine_34 : decode cX8_fine 34 = .ok (.aload_n 0, 1) := by decide +kernel
theorem dX8_fine_35 : decode cX8_fine 35 = .ok (.iload_n 1, 1) := by decide +kernel
theorem dX8_fine_36 : decode cX8_fine 36 = .ok (.iconst 3, 1) := by decide +kernel
theorem dX8_fine_37 : decode cX8_fine 37 = .ok (.invokevirtual 94, 3) := by decide +kernel
theorem dX8_fine_40 : decode cX8_fine 40 = .ok (.iastore, 1) := by decide +kernel
theorem dX8_fine_41 : decode cX8_fine 41 = .ok (.iload_n 2, 1) := by decide +kernel
theorem dX8_fine_42 : decode cX8_fine 42 = .ok (.ifCond .ge 12, 3) := by decide +kernel
theorem dX8_fine_45 : decode cX8_fine 45 = .ok (.aload_n 0, 1) := by decide +kernel
theorem dX8_fine_46 : decode cX8_fine 46 = .ok (.iload_n 1, 1) := by decide +kernel
theorem dX8_fine_47 : decode cX8_fine 47 = .ok (.iconst 4, 1) := by decide +kernel
theorem dX8_fine_48 : decode cX8_fine 48 = .ok (.invokevirtual 94, 3) := by decide +kernel
theorem dX8_fine_51 : decode cX8_fine 51 = .ok (.goto 8, 3) := by decide +kernel
theorem dX8_fine_54 : decode cX8_fine 54 = .ok (.aload_n 0, 1) := by decide +kernel
theorem dX8_fine_55 : decode cX8_fine 55 = .ok (.iload_n 2, 1) := by decide +kernel
theorem dX8_fine_56 : decode cX8_fine 56 = .ok (.invokevirtual 108, 3) := by decide +kernel
theorem dX8_fine_59 : decode cX8_fine 59 = .ok (.ireturn, 1) := by decide +kernel
theorem dX8_feed_0 : decode cX8_feed 0 = .ok (.aload_n 0, 1) := by decide +kernel
theorem dX8_feed_1 : decode cX8_feed 1 = .ok (.getfield 200, 3) := by decide +kernel
theorem dX8_feed_4 : decode cX8_feed 4 = .ok (.bipush 12, 2) := by decide +kernel
theorem dX8_feed_6 : decode cX8_feed 6 = .ok (.iadd, 1) := by decide +kernel
theorem dX8_feed_7 : decode cX8_feed 7 = .ok (.bipush 96, 2) := by decide +kernel
theorem dX8_feed_9 : decode cX8_feed 9 = .ok (.if_icmp .le 6, 3) := by decide +kernel
theorem dX8_feed_12 : decode cX8_feed 12 = .ok (.ldc 89, 2) := by decide +kernel
theorem dX8_feed_14 : decode cX8_feed 14 = .ok (.ireturn, 1) := by decide +kernel
theorem dX8_feed_15 : decode cX8_feed 15 = .ok (.iconst 0, 1) := by decide +kernel
theorem dX8_feed_16 : decode cX8_feed 16 = .ok (.istore 4, 2) := by decide +kernel
theorem dX8_feed_18 : decode cX8_feed 18 = .ok (.iload 4, 2) := by decide +kernel
theorem dX8_feed_20 : decode cX8_feed 20 = .ok (.bipush 12, 2) := by decide +kernel
theorem dX8_feed_22 : decode cX8_feed 22 = .ok (.if_icmp .ge 62, 3) := by decide +kernel
theorem dX8_feed_25 : decode cX8_feed 25 = .ok (.iload 4, 2) := by decide +kernel
theorem dX8_feed_27 : decode cX8_feed 27 = .ok (.iconst 4, 1) := by decide +kernel
theorem dX8_feed_28 : decode cX8_feed 28 = .ok (.if_icmp .ge 7, 3) := by decide +kernel
theorem dX8_feed_31 : decode cX8_feed 31 = .ok (.iload_n 1, 1) := by decide +kernel
theorem dX8_feed_32 : decode cX8_feed 32 = .ok (.goto 15, 3) := by decide +kernel
theorem dX8_feed_35 : decode cX8_feed 35 = .ok (.iload 4, 2) := by decide +kernel
theorem dX8_feed_37 : decode cX8_feed 37 = .ok (.bipush 8, 2) := by decide +kernel
theorem dX8_feed_39 : decode cX8_feed 39 = .ok (.if_icmp .ge 7, 3) := by decide +kernel
theorem dX8_feed_42 : decode cX8_feed 42 = .ok (.iload_n 2, 1) := by decide +kernel
theorem dX8_feed_43 : decode cX8_feed 43 = .ok (.goto 4, 3) := by decide +kernel
theorem dX8_feed_46 : decode cX8_feed 46 = .ok (.iload_n 3, 1) := by decide +kernel
theorem dX8_feed_47 : decode cX8_feed 47 = .ok (.istore 5, 2) := by decide +kernel
theorem dX8_feed_49 : decode cX8_feed 49 = .ok (.aload_n 0, 1) := by decide +kernel
theorem dX8_feed_50 : decode cX8_feed 50 = .ok (.getfield 26, 3) := by decide +kernel
theorem dX8_feed_53 : decode cX8_feed 53 = .ok (.aload_n 0, 1) := by decide +kernel
theorem dX8_feed_54 : decode cX8_feed 54 = .ok (.getfield 200, 3) := by decide +kernel
theorem dX8_feed_57 : decode cX8_feed 57 = .ok (.iload 4, 2) := by decide +kernel
theorem dX8_feed_59 : decode cX8_feed 59 = .ok (.iadd, 1) := by decide +kernel
theorem dX8_feed_60 : decode cX8_feed 60 = .ok (.iload 5, 2) := by decide +kernel
theorem dX8_feed_62 : decode cX8_feed 62 = .ok (.bipush 24, 2) := by decide +kernel
theorem dX8_feed_64 : decode cX8_feed 64 = .ok (.bipush 8, 2) := by decide +kernel
theorem dX8_feed_66 : decode cX8_feed 66 = .ok (.iload 4, 2) := by decide +kernel
theorem dX8_feed_68 : decode cX8_feed 68 = .ok (.iconst 4, 1) := by decide +kernel
theorem dX8_feed_69 : decode cX8_feed 69 = .ok (.irem, 1) := by decide +kernel
theorem dX8_feed_70 : decode cX8_feed 70 = .ok (.imul, 1) := by decide +kernel
theorem dX8_feed_71 : decode cX8_feed 71 = .ok (.isub, 1) := by decide +kernel
theorem dX8_feed_72 : decode cX8_feed 72 = .ok (.ishr, 1) := by decide +kernel
theorem dX8_feed_73 : decode cX8_feed 73 = .ok (.sipush 255, 3) := by decide +kernel
theorem dX8_feed_76 : decode cX8_feed 76 = .ok (.iand, 1) := by decide +kernel
theorem dX8_feed_77 : decode cX8_feed 77 = .ok (.iastore, 1) := by decide +kernel
theorem dX8_feed_78 : decode cX8_feed 78 = .ok (.iinc 4 1, 3) := by decide +kernel
theorem dX8_feed_81 : decode cX8_feed 81 = .ok (.goto (-63), 3) := by decide +kernel
theorem dX8_feed_84 : decode cX8_feed 84 = .ok (.aload_n 0, 1) := by decide +kernel
theorem dX8_feed_85 : decode cX8_feed 85 = .ok (.dup, 1) := by decide +kernel
theorem dX8_feed_86 : decode cX8_feed 86 = .ok (.getfield 200, 3) := by decide +kernel
theorem dX8_feed_89 : decode cX8_feed 89 = .ok (.bipush 12, 2) := by decide +kernel
theorem dX8_feed_91 : decode cX8_feed 91 = .ok (.iadd, 1) := by decide +kernel
theorem dX8_feed_92 : decode cX8_feed 92 = .ok (.putfield 200, 3) := by decide +kernel
theorem dX8_feed_95 : decode cX8_feed 95 = .ok (.aload_n 0, 1) := by decide +kernel
theorem dX8_feed_96 : decode cX8_feed 96 = .ok (.getfield 200, 3) := by decide +kernel
theorem dX8_feed_99 : decode cX8_feed 99 = .ok (.ireturn, 1) := by decide +kernel
theorem dX8_trim_0 : decode cX8_trim 0 = .ok (.iload_n 1, 1) := by decide +kernel
theorem dX8_trim_1 : decode cX8_trim 1 = .ok (.iconst 0, 1) := by decide +kernel
theorem dX8_trim_2 : decode cX8_trim 2 = .ok (.aload_n 0, 1) := by decide +kernel
theorem dX8_trim_3 : decode cX8_trim 3 = .ok (.getfield 200, 3) := by decide +kernel
theorem dX8_trim_6 : decode cX8_trim 6 = .ok (.invokestatic 80, 3) := by decide +kernel
theorem dX8_trim_9 : decode cX8_trim 9 = .ok (.ifCond .ne 6, 3) := by decide +kernel
theorem dX8_trim_12 : decode cX8_trim 12 = .ok (.ldc 88, 2) := by decide +kernel
theorem dX8_trim_14 : decode cX8_trim 14 = .ok (.ireturn, 1) := by decide +kernel
theorem dX8_trim_15 : decode cX8_trim 15 = .ok (.aload_n 0, 1) := by decide +kernel
theorem dX8_trim_16 : decode cX8_trim 16 = .ok (.iload_n 1, 1) := by decide +kernel
theorem dX8_trim_17 : decode cX8_trim 17 = .ok (.putfield 200, 3) := by decide +kernel
theorem dX8_trim_20 : decode cX8_trim 20 = .ok (.iload_n 1, 1) := by decide +kernel
theorem dX8_trim_21 : decode cX8_trim 21 = .ok (.ireturn, 1) := by decide +kernel
theorem dX8_isLetter_0 : decode cX8_isLetter 0 = .ok (.iload_n 1, 1) := by decide +kernel
theorem dX8_isLetter_1 : decode cX8_isLetter 1 = .ok (.aload_n 0, 1) := by decide +kernel
theorem dX8_isLetter_2 : decode cX8_isLetter 2 = .ok (.getfield 200, 3) := by decide +kernel
theorem dX8_isLetter_5 : decode cX8_isLetter 5 = .ok (.if_icmp .ge 29, 3) := by decide +kernel
theorem dX8_isLetter_8 : decode cX8_isLetter 8 = .ok (.aload_n 0, 1) := by decide +kernel
theorem dX8_isLetter_9 : decode cX8_isLetter 9 = .ok (.getfield 26, 3) := by decide +kernel
theorem dX8_isLetter_12 : decode cX8_isLetter 12 = .ok (.iload_n 1, 1) := by decide +kernel
theorem dX8_isLetter_13 : decode cX8_isLetter 13 = .ok (.iaload, 1) := by decide +kernel
theorem dX8_isLetter_14 : decode cX8_isLetter 14 = .ok (.bipush 97, 2) := by decide +kernel
theorem dX8_isLetter_16 : decode cX8_isLetter 16 = .ok (.if_icmp .lt 18, 3) := by decide +kernel
theorem dX8_isLetter_19 : decode cX8_isLetter 19 = .ok (.aload_n 0, 1) := by decide +kernel
theorem dX8_isLetter_20 : decode cX8_isLetter 20 = .ok (.getfield 26, 3) := by decide +kernel
theorem dX8_isLetter_23 : decode cX8_isLetter 23 = .ok (.iload_n 1, 1) := by decide +kernel
theorem dX8_isLetter_24 : decode cX8_isLetter 24 = .ok (.iaload, 1) := by decide +kernel
theorem dX8_isLetter_25 : decode cX8_isLetter 25 = .ok (.bipush 122, 2) := by decide +kernel
theorem dX8_isLetter_27 : decode cX8_isLetter 27 = .ok (.if_icmp .gt 7, 3) := by decide +kernel
theorem dX8_isLetter_30 : decode cX8_isLetter 30 = .ok (.iconst 1, 1) := by decide +kernel
theorem dX8_isLetter_31 : decode cX8_isLetter 31 = .ok (.goto 4, 3) := by decide +kernel
theorem dX8_isLetter_34 : decode cX8_isLetter 34 = .ok (.iconst 0, 1) := by decide +kernel
theorem dX8_isLetter_35 : decode cX8_isLetter 35 = .ok (.ireturn, 1) := by decide +kernel
theorem dX8_isFigure_0 : decode cX8_isFigure 0 = .ok (.iload_n 1, 1) := by decide +kernel
theorem dX8_isFigure_1 : decode cX8_isFigure 1 = .ok (.aload_n 0, 1) := by decide +kernel
theorem dX8_isFigure_2 : decode cX8_isFigure 2 = .ok (.getfield 200, 3) := by decide +kernel
theorem dX8_isFigure_5 : decode cX8_isFigure 5 = .ok (.if_icmp .ge 29, 3) := by decide +kernel
theorem dX8_isFigure_8 : decode cX8_isFigure 8 = .ok (.aload_n 0, 1) := by decide +kernel
theorem dX8_isFigure_9 : decode cX8_isFigure 9 = .ok (.getfield 26, 3) := by decide +kernel
theorem dX8_isFigure_12 : decode cX8_isFigure 12 = .ok (.iload_n 1, 1) := by decide +kernel
theorem dX8_isFigure_13 : decode cX8_isFigure 13 = .ok (.iaload, 1) := by decide +kernel
theorem dX8_isFigure_14 : decode cX8_isFigure 14 = .ok (.bipush 48, 2) := by decide +kernel
theorem dX8_isFigure_16 : decode cX8_isFigure 16 = .ok (.if_icmp .lt 18, 3) := by decide +kernel
theorem dX8_isFigure_19 : decode cX8_isFigure 19 = .ok (.aload_n 0, 1) := by decide +kernel
theorem dX8_isFigure_20 : decode cX8_isFigure 20 = .ok (.getfield 26, 3) := by decide +kernel
theorem dX8_isFigure_23 : decode cX8_isFigure 23 = .ok (.iload_n 1, 1) := by decide +kernel
theorem dX8_isFigure_24 : decode cX8_isFigure 24 = .ok (.iaload, 1) := by decide +kernel
theorem dX8_isFigure_25 : decode cX8_isFigure 25 = .ok (.bipush 57, 2) := by decide +kernel
theorem dX8_isFigure_27 : decode cX8_isFigure 27 = .ok (.if_icmp .gt 7, 3) := by decide +kernel
theorem dX8_isFigure_30 : decode cX8_isFigure 30 = .ok (.iconst 1, 1) := by decide +kernel
theorem dX8_isFigure_31 : decode cX8_isFigure 31 = .ok (.goto 4, 3) := by decide +kernel
theorem dX8_isFigure_34 : decode cX8_isFigure 34 = .ok (.iconst 0, 1) := by decide +kernel
theorem dX8_isFigure_35 : decode cX8_isFigure 35 = .ok (.ireturn, 1) := by decide +kernel
theorem dX8_go_0 : decode cX8_go 0 = .ok (.aload_n 0, 1) := by decide +kernel
theorem dX8_go_1 : decode cX8_go 1 = .ok (.getfield 203, 3) := by decide +kernel
theorem dX8_go_4 : decode cX8_go 4 = .ok (.aload_n 0, 1) := by decide +kernel
theorem dX8_go_5 : decode cX8_go 5 = .ok (.getfield 200, 3) := by decide +kernel
theorem dX8_go_8 : decode cX8_go 8 = .ok (.if_icmp .ge 30, 3) := by decide +kernel
theorem dX8_go_11 : decode cX8_go 11 = .ok (.aload_n 0, 1) := by decide +kernel
theorem dX8_go_12 : decode cX8_go 12 = .ok (.getfield 26, 3) := by decide +kernel
theorem dX8_go_15 : decode cX8_go 15 = .ok (.aload_n 0, 1) := by decide +kernel
theorem dX8_go_16 : decode cX8_go 16 = .ok (.getfield 203, 3) := by decide +kernel
theorem dX8_go_19 : decode cX8_go 19 = .ok (.iaload, 1) := by decide +kernel
theorem dX8_go_20 : decode cX8_go 20 = .ok (.bipush 32, 2) := by decide +kernel
theorem dX8_go_22 : decode cX8_go 22 = .ok (.if_icmp .ne 16, 3) := by decide +kernel
theorem dX8_go_25 : decode cX8_go 25 = .ok (.aload_n 0, 1) := by decide +kernel
theorem dX8_go_26 : decode cX8_go 26 = .ok (.dup, 1) := by decide +kernel
theorem dX8_go_27 : decode cX8_go 27 = .ok (.getfield 203, 3) := by decide +kernel
theorem dX8_go_30 : decode cX8_go 30 = .ok (.iconst 1, 1) := by decide +kernel
theorem dX8_go_31 : decode cX8_go 31 = .ok (.iadd, 1) := by decide +kernel
theorem dX8_go_32 : decode cX8_go 32 = .ok (.putfield 203, 3) := by decide +kernel
theorem dX8_go_35 : decode cX8_go 35 = .ok (.goto (-35), 3) := by decide +kernel
theorem dX8_go_38 : decode cX8_go 38 = .ok (.aload_n 0, 1) := by decide +kernel
theorem dX8_go_39 : decode cX8_go 39 = .ok (.aload_n 0, 1) := by decide +kernel
theorem dX8_go_40 : decode cX8_go 40 = .ok (.getfield 203, 3) := by decide +kernel
theorem dX8_go_43 : decode cX8_go 43 = .ok (.putfield 206, 3) := by decide +kernel
theorem dX8_go_46 : decode cX8_go 46 = .ok (.aload_n 0, 1) := by decide +kernel
theorem dX8_go_47 : decode cX8_go 47 = .ok (.getfield 206, 3) := by decide +kernel
theorem dX8_go_50 : decode cX8_go 50 = .ok (.aload_n 0, 1) := by decide +kernel
theorem dX8_go_51 : decode cX8_go 51 = .ok (.getfield 209, 3) := by decide +kernel
theorem dX8_go_54 : decode cX8_go 54 = .ok (.if_icmp .ne 7, 3) := by decide +kernel
theorem dX8_go_57 : decode cX8_go 57 = .ok (.iconst 1, 1) := by decide +kernel
theorem dX8_go_58 : decode cX8_go 58 = .ok (.goto 4, 3) := by decide +kernel
theorem dX8_go_61 : decode cX8_go 61 = .ok (.iconst 0, 1) := by decide +kernel
theorem dX8_go_62 : decode cX8_go 62 = .ok (.istore_n 1, 1) := by decide +kernel
theorem dX8_go_63 : decode cX8_go 63 = .ok (.aload_n 0, 1) := by decide +kernel
theorem dX8_go_64 : decode cX8_go 64 = .ok (.getfield 206, 3) := by decide +kernel
theorem dX8_go_67 : decode cX8_go 67 = .ok (.aload_n 0, 1) := by decide +kernel
theorem dX8_go_68 : decode cX8_go 68 = .ok (.getfield 200, 3) := by decide +kernel
theorem dX8_go_71 : decode cX8_go 71 = .ok (.if_icmp .ne 11, 3) := by decide +kernel
theorem dX8_go_74 : decode cX8_go 74 = .ok (.aload_n 0, 1) := by decide +kernel
theorem dX8_go_75 : decode cX8_go 75 = .ok (.iconst 0, 1) := by decide +kernel
theorem dX8_go_76 : decode cX8_go 76 = .ok (.putfield 212, 3) := by decide +kernel
theorem dX8_go_79 : decode cX8_go 79 = .ok (.goto 224, 3) := by decide +kernel
theorem dX8_go_82 : decode cX8_go 82 = .ok (.aload_n 0, 1) := by decide +kernel
theorem dX8_go_83 : decode cX8_go 83 = .ok (.aload_n 0, 1) := by decide +kernel
theorem dX8_go_84 : decode cX8_go 84 = .ok (.getfield 206, 3) := by decide +kernel
theorem dX8_go_87 : decode cX8_go 87 = .ok (.invokevirtual 215, 3) := by decide +kernel
theorem dX8_go_90 : decode cX8_go 90 = .ok (.ifCond .eq 64, 3) := by decide +kernel
theorem dX8_go_93 : decode cX8_go 93 = .ok (.aload_n 0, 1) := by decide +kernel
theorem dX8_go_94 : decode cX8_go 94 = .ok (.aload_n 0, 1) := by decide +kernel
theorem dX8_go_95 : decode cX8_go 95 = .ok (.getfield 203, 3) := by decide +kernel
theorem dX8_go_98 : decode cX8_go 98 = .ok (.invokevirtual 215, 3) := by decide +kernel
theorem dX8_go_101 : decode cX8_go 101 = .ok (.ifCond .eq 16, 3) := by decide +kernel
theorem dX8_go_104 : decode cX8_go 104 = .ok (.aload_n 0, 1) := by decide +kernel
theorem dX8_go_105 : decode cX8_go 105 = .ok (.dup, 1) := by decide +kernel
theorem dX8_go_106 : decode cX8_go 106 = .ok (.getfield 203, 3) := by decide +kernel
theorem dX8_go_109 : decode cX8_go 109 = .ok (.iconst 1, 1) := by decide +kernel
theorem dX8_go_110 : decode cX8_go 110 = .ok (.iadd, 1) := by decide +kernel
theorem dX8_go_111 : decode cX8_go 111 = .ok (.putfield 203, 3) := by decide +kernel
theorem dX8_go_114 : decode cX8_go 114 = .ok (.goto (-21), 3) := by decide +kernel
theorem dX8_go_117 : decode cX8_go 117 = .ok (.aload_n 0, 1) := by decide +kernel
theorem dX8_go_118 : decode cX8_go 118 = .ok (.iload_n 1, 1) := by decide +kernel
theorem dX8_go_119 : decode cX8_go 119 = .ok (.ifCond .eq 7, 3) := by decide +kernel
theorem dX8_go_122 : decode cX8_go 122 = .ok (.iconst 4, 1) := by decide +kernel
theorem dX8_go_123 : decode cX8_go 123 = .ok (.goto 4, 3) := by decide +kernel
theorem dX8_go_126 : decode cX8_go 126 = .ok (.iconst 1, 1) := by decide +kernel
theorem dX8_go_127 : decode cX8_go 127 = .ok (.putfield 212, 3) := by decide +kernel
theorem dX8_go_130 : decode cX8_go 130 = .ok (.aload_n 0, 1) := by decide +kernel
theorem dX8_go_131 : decode cX8_go 131 = .ok (.aload_n 0, 1) := by decide +kernel
theorem dX8_go_132 : decode cX8_go 132 = .ok (.getfield 26, 3) := by decide +kernel
theorem dX8_go_135 : decode cX8_go 135 = .ok (.aload_n 0, 1) := by decide +kernel
theorem dX8_go_136 : decode cX8_go 136 = .ok (.getfield 206, 3) := by decide +kernel
theorem dX8_go_139 : decode cX8_go 139 = .ok (.iaload, 1) := by decide +kernel
theorem dX8_go_140 : decode cX8_go 140 = .ok (.putfield 218, 3) := by decide +kernel
theorem dX8_go_143 : decode cX8_go 143 = .ok (.aload_n 0, 1) := by decide +kernel
theorem dX8_go_144 : decode cX8_go 144 = .ok (.aload_n 0, 1) := by decide +kernel
theorem dX8_go_145 : decode cX8_go 145 = .ok (.getfield 203, 3) := by decide +kernel
theorem dX8_go_148 : decode cX8_go 148 = .ok (.putfield 209, 3) := by decide +kernel
theorem dX8_go_151 : decode cX8_go 151 = .ok (.goto 152, 3) := by decide +kernel
theorem dX8_go_154 : decode cX8_go 154 = .ok (.aload_n 0, 1) := by decide +kernel
theorem dX8_go_155 : decode cX8_go 155 = .ok (.aload_n 0, 1) := by decide +kernel
theorem dX8_go_156 : decode cX8_go 156 = .ok (.getfield 206, 3) := by decide +kernel
theorem dX8_go_159 : decode cX8_go 159 = .ok (.invokevirtual 221, 3) := by decide +kernel
theorem dX8_go_162 : decode cX8_go 162 = .ok (.ifCond .eq 113, 3) := by decide +kernel
theorem dX8_go_165 : decode cX8_go 165 = .ok (.aload_n 0, 1) := by decide +kernel
theorem dX8_go_166 : decode cX8_go 166 = .ok (.iconst 0, 1) := by decide +kernel
theorem dX8_go_167 : decode cX8_go 167 = .ok (.putfield 218, 3) := by decide +kernel
theorem dX8_go_170 : decode cX8_go 170 = .ok (.aload_n 0, 1) := by decide +kernel
theorem dX8_go_171 : decode cX8_go 171 = .ok (.aload_n 0, 1) := by decide +kernel
theorem dX8_go_172 : decode cX8_go 172 = .ok (.getfield 203, 3) := by decide +kernel
theorem dX8_go_175 : decode cX8_go 175 = .ok (.invokevirtual 221, 3) := by decide +kernel
theorem dX8_go_178 : decode cX8_go 178 = .ok (.ifCond .eq 60, 3) := by decide +kernel
theorem dX8_go_181 : decode cX8_go 181 = .ok (.aload_n 0, 1) := by decide +kernel
theorem dX8_go_182 : decode cX8_go 182 = .ok (.aload_n 0, 1) := by decide +kernel
theorem dX8_go_183 : decode cX8_go 183 = .ok (.getfield 203, 3) := by decide +kernel
theorem dX8_go_186 : decode cX8_go 186 = .ok (.aload_n 0, 1) := by decide +kernel
theorem dX8_go_187 : decode cX8_go 187 = .ok (.getfield 206, 3) := by decide +kernel
theorem dX8_go_190 : decode cX8_go 190 = .ok (.isub, 1) := by decide +kernel
theorem dX8_go_191 : decode cX8_go 191 = .ok (.iconst 4, 1) := by decide +kernel
theorem dX8_go_192 : decode cX8_go 192 = .ok (.if_icmp .ge 26, 3) := by decide +kernel
theorem dX8_go_195 : decode cX8_go 195 = .ok (.bipush 10, 2) := by decide +kernel
theorem dX8_go_197 : decode cX8_go 197 = .ok (.aload_n 0, 1) := by decide +kernel
theorem dX8_go_198 : decode cX8_go 198 = .ok (.getfield 218, 3) := by decide +kernel
theorem dX8_go_201 : decode cX8_go 201 = .ok (.imul, 1) := by decide +kernel
theorem dX8_go_202 : decode cX8_go 202 = .ok (.aload_n 0, 1) := by decide +kernel
theorem dX8_go_203 : decode cX8_go 203 = .ok (.getfield 26, 3) := by decide +kernel
theorem dX8_go_206 : decode cX8_go 206 = .ok (.aload_n 0, 1) := by decide +kernel
theorem dX8_go_207 : decode cX8_go 207 = .ok (.getfield 203, 3) := by decide +kernel
theorem dX8_go_210 : decode cX8_go 210 = .ok (.iaload, 1) := by decide +kernel
theorem dX8_go_211 : decode cX8_go 211 = .ok (.iadd, 1) := by decide +kernel
theorem dX8_go_212 : decode cX8_go 212 = .ok (.bipush 48, 2) := by decide +kernel
theorem dX8_go_214 : decode cX8_go 214 = .ok (.isub, 1) := by decide +kernel
theorem dX8_go_215 : decode cX8_go 215 = .ok (.goto 7, 3) := by decide +kernel
theorem dX8_go_218 : decode cX8_go 218 = .ok (.aload_n 0, 1) := by decide +kernel
theorem dX8_go_219 : decode cX8_go 219 = .ok (.getfield 218, 3) := by decide +kernel
theorem dX8_go_222 : decode cX8_go 222 = .ok (.putfield 218, 3) := by decide +kernel
theorem dX8_go_225 : decode cX8_go 225 = .ok (.aload_n 0, 1) := by decide +kernel
theorem dX8_go_226 : decode cX8_go 226 = .ok (.dup, 1) := by decide +kernel
theorem dX8_go_227 : decode cX8_go 227 = .ok (.getfield 203, 3) := by decide +kernel
theorem dX8_go_230 : decode cX8_go 230 = .ok (.iconst 1, 1) := by decide +kernel
theorem dX8_go_231 : decode cX8_go 231 = .ok (.iadd, 1) := by decide +kernel
theorem dX8_go_232 : decode cX8_go 232 = .ok (.putfield 203, 3) := by decide +kernel
theorem dX8_go_235 : decode cX8_go 235 = .ok (.goto (-65), 3) := by decide +kernel
theorem dX8_go_238 : decode cX8_go 238 = .ok (.aload_n 0, 1) := by decide +kernel
theorem dX8_go_239 : decode cX8_go 239 = .ok (.iload_n 1, 1) := by decide +kernel
theorem dX8_go_240 : decode cX8_go 240 = .ok (.ifCond .ne 16, 3) := by decide +kernel
theorem dX8_go_243 : decode cX8_go 243 = .ok (.aload_n 0, 1) := by decide +kernel
theorem dX8_go_244 : decode cX8_go 244 = .ok (.getfield 203, 3) := by decide +kernel
theorem dX8_go_247 : decode cX8_go 247 = .ok (.aload_n 0, 1) := by decide +kernel
theorem dX8_go_248 : decode cX8_go 248 = .ok (.getfield 206, 3) := by decide +kernel
theorem dX8_go_251 : decode cX8_go 251 = .ok (.isub, 1) := by decide +kernel
theorem dX8_go_252 : decode cX8_go 252 = .ok (.iconst 4, 1) := by decide +kernel
theorem dX8_go_253 : decode cX8_go 253 = .ok (.if_icmp .le 7, 3) := by decide +kernel
theorem dX8_go_256 : decode cX8_go 256 = .ok (.iconst 4, 1) := by decide +kernel
theorem dX8_go_257 : decode cX8_go 257 = .ok (.goto 4, 3) := by decide +kernel
theorem dX8_go_260 : decode cX8_go 260 = .ok (.iconst 2, 1) := by decide +kernel
theorem dX8_go_261 : decode cX8_go 261 = .ok (.putfield 212, 3) := by decide +kernel
theorem dX8_go_264 : decode cX8_go 264 = .ok (.aload_n 0, 1) := by decide +kernel
theorem dX8_go_265 : decode cX8_go 265 = .ok (.aload_n 0, 1) := by decide +kernel
theorem dX8_go_266 : decode cX8_go 266 = .ok (.getfield 203, 3) := by decide +kernel
theorem dX8_go_269 : decode cX8_go 269 = .ok (.putfield 209, 3) := by decide +kernel
theorem dX8_go_272 : decode cX8_go 272 = .ok (.goto 31, 3) := by decide +kernel
theorem dX8_go_275 : decode cX8_go 275 = .ok (.aload_n 0, 1) := by decide +kernel
theorem dX8_go_276 : decode cX8_go 276 = .ok (.iconst 3, 1) := by decide +kernel
theorem dX8_go_277 : decode cX8_go 277 = .ok (.putfield 212, 3) := by decide +kernel
theorem dX8_go_280 : decode cX8_go 280 = .ok (.aload_n 0, 1) := by decide +kernel
theorem dX8_go_281 : decode cX8_go 281 = .ok (.aload_n 0, 1) := by decide +kernel
theorem dX8_go_282 : decode cX8_go 282 = .ok (.getfield 26, 3) := by decide +kernel
theorem dX8_go_285 : decode cX8_go 285 = .ok (.aload_n 0, 1) := by decide +kernel
theorem dX8_go_286 : decode cX8_go 286 = .ok (.getfield 206, 3) := by decide +kernel
theorem dX8_go_289 : decode cX8_go 289 = .ok (.iaload, 1) := by decide +kernel
theorem dX8_go_290 : decode cX8_go 290 = .ok (.putfield 218, 3) := by decide +kernel
theorem dX8_go_293 : decode cX8_go 293 = .ok (.aload_n 0, 1) := by decide +kernel
theorem dX8_go_294 : decode cX8_go 294 = .ok (.dup, 1) := by decide +kernel
theorem dX8_go_295 : decode cX8_go 295 = .ok (.getfield 203, 3) := by decide +kernel
theorem dX8_go_298 : decode cX8_go 298 = .ok (.iconst 1, 1) := by decide +kernel
theorem dX8_go_299 : decode cX8_go 299 = .ok (.iadd, 1) := by decide +kernel
theorem dX8_go_300 : decode cX8_go 300 = .ok (.putfield 203, 3) := by decide +kernel
theorem dX8_go_303 : decode cX8_go 303 = .ok (.return_, 1) := by decide +kernel
theorem dX8_takesKey_0 : decode cX8_takesKey 0 = .ok (.aload_n 0, 1) := by decide +kernel
theorem dX8_takesKey_1 : decode cX8_takesKey 1 = .ok (.getfield 212, 3) := by decide +kernel
theorem dX8_takesKey_4 : decode cX8_takesKey 4 = .ok (.iconst 1, 1) := by decide +kernel
theorem dX8_takesKey_5 : decode cX8_takesKey 5 = .ok (.if_icmp .eq 5, 3) := by decide +kernel
theorem dX8_takesKey_8 : decode cX8_takesKey 8 = .ok (.iconst 0, 1) := by decide +kernel
theorem dX8_takesKey_9 : decode cX8_takesKey 9 = .ok (.ireturn, 1) := by decide +kernel
theorem dX8_takesKey_10 : decode cX8_takesKey 10 = .ok (.iconst 0, 1) := by decide +kernel
theorem dX8_takesKey_11 : decode cX8_takesKey 11 = .ok (.istore_n 1, 1) := by decide +kernel
theorem dX8_takesKey_12 : decode cX8_takesKey 12 = .ok (.iload_n 1, 1) := by decide +kernel
theorem dX8_takesKey_13 : decode cX8_takesKey 13 = .ok (.iconst 3, 1) := by decide +kernel
theorem dX8_takesKey_14 : decode cX8_takesKey 14 = .ok (.if_icmp .ge 113, 3) := by decide +kernel
theorem dX8_takesKey_17 : decode cX8_takesKey 17 = .ok (.aload_n 0, 1) := by decide +kernel
theorem dX8_takesKey_18 : decode cX8_takesKey 18 = .ok (.getfield 33, 3) := by decide +kernel
theorem dX8_takesKey_21 : decode cX8_takesKey 21 = .ok (.iload_n 1, 1) := by decide +kernel
theorem dX8_takesKey_22 : decode cX8_takesKey 22 = .ok (.iconst 1, 1) := by decide +kernel
theorem dX8_takesKey_23 : decode cX8_takesKey 23 = .ok (.iadd, 1) := by decide +kernel
theorem dX8_takesKey_24 : decode cX8_takesKey 24 = .ok (.iaload, 1) := by decide +kernel
theorem dX8_takesKey_25 : decode cX8_takesKey 25 = .ok (.aload_n 0, 1) := by decide +kernel
theorem dX8_takesKey_26 : decode cX8_takesKey 26 = .ok (.getfield 33, 3) := by decide +kernel
theorem dX8_takesKey_29 : decode cX8_takesKey 29 = .ok (.iload_n 1, 1) := by decide +kernel
theorem dX8_takesKey_30 : decode cX8_takesKey 30 = .ok (.iaload, 1) := by decide +kernel
theorem dX8_takesKey_31 : decode cX8_takesKey 31 = .ok (.isub, 1) := by decide +kernel
theorem dX8_takesKey_32 : decode cX8_takesKey 32 = .ok (.istore_n 2, 1) := by decide +kernel
theorem dX8_takesKey_33 : decode cX8_takesKey 33 = .ok (.iload_n 2, 1) := by decide +kernel
theorem dX8_takesKey_34 : decode cX8_takesKey 34 = .ok (.aload_n 0, 1) := by decide +kernel
theorem dX8_takesKey_35 : decode cX8_takesKey 35 = .ok (.getfield 203, 3) := by decide +kernel
theorem dX8_takesKey_38 : decode cX8_takesKey 38 = .ok (.aload_n 0, 1) := by decide +kernel
theorem dX8_takesKey_39 : decode cX8_takesKey 39 = .ok (.getfield 206, 3) := by decide +kernel
theorem dX8_takesKey_42 : decode cX8_takesKey 42 = .ok (.isub, 1) := by decide +kernel
theorem dX8_takesKey_43 : decode cX8_takesKey 43 = .ok (.if_icmp .ne 7, 3) := by decide +kernel
theorem dX8_takesKey_46 : decode cX8_takesKey 46 = .ok (.iconst 1, 1) := by decide +kernel
theorem dX8_takesKey_47 : decode cX8_takesKey 47 = .ok (.goto 4, 3) := by decide +kernel
theorem dX8_takesKey_50 : decode cX8_takesKey 50 = .ok (.iconst 0, 1) := by decide +kernel
theorem dX8_takesKey_51 : decode cX8_takesKey 51 = .ok (.istore_n 3, 1) := by decide +kernel
theorem dX8_takesKey_52 : decode cX8_takesKey 52 = .ok (.iconst 0, 1) := by decide +kernel
theorem dX8_takesKey_53 : decode cX8_takesKey 53 = .ok (.istore 4, 2) := by decide +kernel
theorem dX8_takesKey_55 : decode cX8_takesKey 55 = .ok (.iload 4, 2) := by decide +kernel
theorem dX8_takesKey_57 : decode cX8_takesKey 57 = .ok (.iload_n 2, 1) := by decide +kernel
theorem dX8_takesKey_58 : decode cX8_takesKey 58 = .ok (.if_icmp .ge 48, 3) := by decide +kernel
theorem dX8_takesKey_61 : decode cX8_takesKey 61 = .ok (.iload_n 3, 1) := by decide +kernel
theorem dX8_takesKey_62 : decode cX8_takesKey 62 = .ok (.ifCond .eq 44, 3) := by decide +kernel
theorem dX8_takesKey_65 : decode cX8_takesKey 65 = .ok (.aload_n 0, 1) := by decide +kernel
theorem dX8_takesKey_66 : decode cX8_takesKey 66 = .ok (.getfield 26, 3) := by decide +kernel
theorem dX8_takesKey_69 : decode cX8_takesKey 69 = .ok (.aload_n 0, 1) := by decide +kernel
theorem dX8_takesKey_70 : decode cX8_takesKey 70 = .ok (.getfield 206, 3) := by decide +kernel
theorem dX8_takesKey_73 : decode cX8_takesKey 73 = .ok (.iload 4, 2) := by decide +kernel
theorem dX8_takesKey_75 : decode cX8_takesKey 75 = .ok (.iadd, 1) := by decide +kernel
theorem dX8_takesKey_76 : decode cX8_takesKey 76 = .ok (.iaload, 1) := by decide +kernel
theorem dX8_takesKey_77 : decode cX8_takesKey 77 = .ok (.aload_n 0, 1) := by decide +kernel
theorem dX8_takesKey_78 : decode cX8_takesKey 78 = .ok (.getfield 29, 3) := by decide +kernel
theorem dX8_takesKey_81 : decode cX8_takesKey 81 = .ok (.aload_n 0, 1) := by decide +kernel
theorem dX8_takesKey_82 : decode cX8_takesKey 82 = .ok (.getfield 33, 3) := by decide +kernel
theorem dX8_takesKey_85 : decode cX8_takesKey 85 = .ok (.iload_n 1, 1) := by decide +kernel
theorem dX8_takesKey_86 : decode cX8_takesKey 86 = .ok (.iaload, 1) := by decide +kernel
theorem dX8_takesKey_87 : decode cX8_takesKey 87 = .ok (.iload 4, 2) := by decide +kernel
theorem dX8_takesKey_89 : decode cX8_takesKey 89 = .ok (.iadd, 1) := by decide +kernel
theorem dX8_takesKey_90 : decode cX8_takesKey 90 = .ok (.caload, 1) := by decide +kernel
theorem dX8_takesKey_91 : decode cX8_takesKey 91 = .ok (.if_icmp .ne 7, 3) := by decide +kernel
theorem dX8_takesKey_94 : decode cX8_takesKey 94 = .ok (.iconst 1, 1) := by decide +kernel
theorem dX8_takesKey_95 : decode cX8_takesKey 95 = .ok (.goto 4, 3) := by decide +kernel
theorem dX8_takesKey_98 : decode cX8_takesKey 98 = .ok (.iconst 0, 1) := by decide +kernel
theorem dX8_takesKey_99 : decode cX8_takesKey 99 = .ok (.istore_n 3, 1) := by decide +kernel
theorem dX8_takesKey_100 : decode cX8_takesKey 100 = .ok (.iinc 4 1, 3) := by decide +kernel
theorem dX8_takesKey_103 : decode cX8_takesKey 103 = .ok (.goto (-48), 3) := by decide +kernel
theorem dX8_takesKey_106 : decode cX8_takesKey 106 = .ok (.iload_n 3, 1) := by decide +kernel
theorem dX8_takesKey_107 : decode cX8_takesKey 107 = .ok (.ifCond .eq 14, 3) := by decide +kernel
theorem dX8_takesKey_110 : decode cX8_takesKey 110 = .ok (.aload_n 0, 1) := by decide +kernel
theorem dX8_takesKey_111 : decode cX8_takesKey 111 = .ok (.iload_n 1, 1) := by decide +kernel
theorem dX8_takesKey_112 : decode cX8_takesKey 112 = .ok (.putfield 224, 3) := by decide +kernel
theorem dX8_takesKey_115 : decode cX8_takesKey 115 = .ok (.aload_n 0, 1) := by decide +kernel
theorem dX8_takesKey_116 : decode cX8_takesKey 116 = .ok (.invokevirtual 227, 3) := by decide +kernel
theorem dX8_takesKey_119 : decode cX8_takesKey 119 = .ok (.iconst 1, 1) := by decide +kernel
theorem dX8_takesKey_120 : decode cX8_takesKey 120 = .ok (.ireturn, 1) := by decide +kernel
theorem dX8_takesKey_121 : decode cX8_takesKey 121 = .ok (.iinc 1 1, 3) := by decide +kernel
theorem dX8_takesKey_124 : decode cX8_takesKey 124 = .ok (.goto (-112), 3) := by decide +kernel
theorem dX8_takesKey_127 : decode cX8_takesKey 127 = .ok (.iconst 0, 1) := by decide +kernel
theorem dX8_takesKey_128 : decode cX8_takesKey 128 = .ok (.ireturn, 1) := by decide +kernel
theorem dX8_nameOf_0 : decode cX8_nameOf 0 = .ok (.aload_n 0, 1) := by decide +kernel
theorem dX8_nameOf_1 : decode cX8_nameOf 1 = .ok (.getfield 224, 3) := by decide +kernel
theorem dX8_nameOf_4 : decode cX8_nameOf 4 = .ok (.lookupswitch 82 #[(0, 28), (1, 60)], 28) := by decide +kernel
theorem dX8_nameOf_32 : decode cX8_nameOf 32 = .ok (.iload_n 1, 1) := by decide +kernel
theorem dX8_nameOf_33 : decode cX8_nameOf 33 = .ok (.bipush 107, 2) := by decide +kernel
theorem dX8_nameOf_35 : decode cX8_nameOf 35 = .ok (.if_icmp .ne 7, 3) := by decide +kernel
theorem dX8_nameOf_38 : decode cX8_nameOf 38 = .ok (.iconst 0, 1) := by decide +kernel
theorem dX8_nameOf_39 : decode cX8_nameOf 39 = .ok (.goto 24, 3) := by decide +kernel
theorem dX8_nameOf_42 : decode cX8_nameOf 42 = .ok (.iload_n 1, 1) := by decide +kernel
theorem dX8_nameOf_43 : decode cX8_nameOf 43 = .ok (.bipush 119, 2) := by decide +kernel
theorem dX8_nameOf_45 : decode cX8_nameOf 45 = .ok (.if_icmp .ne 7, 3) := by decide +kernel
theorem dX8_nameOf_48 : decode cX8_nameOf 48 = .ok (.iconst 1, 1) := by decide +kernel
theorem dX8_nameOf_49 : decode cX8_nameOf 49 = .ok (.goto 14, 3) := by decide +kernel
theorem dX8_nameOf_52 : decode cX8_nameOf 52 = .ok (.iload_n 1, 1) := by decide +kernel
theorem dX8_nameOf_53 : decode cX8_nameOf 53 = .ok (.bipush 100, 2) := by decide +kernel
theorem dX8_nameOf_55 : decode cX8_nameOf 55 = .ok (.if_icmp .ne 7, 3) := by decide +kernel
theorem dX8_nameOf_58 : decode cX8_nameOf 58 = .ok (.iconst 2, 1) := by decide +kernel
theorem dX8_nameOf_59 : decode cX8_nameOf 59 = .ok (.goto 4, 3) := by decide +kernel
theorem dX8_nameOf_62 : decode cX8_nameOf 62 = .ok (.iconst (-1), 1) := by decide +kernel
theorem dX8_nameOf_63 : decode cX8_nameOf 63 = .ok (.ireturn, 1) := by decide +kernel
theorem dX8_nameOf_64 : decode cX8_nameOf 64 = .ok (.iload_n 1, 1) := by decide +kernel
theorem dX8_nameOf_65 : decode cX8_nameOf 65 = .ok (.bipush 104, 2) := by decide +kernel
theorem dX8_nameOf_67 : decode cX8_nameOf 67 = .ok (.if_icmp .ne 7, 3) := by decide +kernel
theorem dX8_nameOf_70 : decode cX8_nameOf 70 = .ok (.iconst 0, 1) := by decide +kernel
