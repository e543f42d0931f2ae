theorem dX0_init_0 : decode cX0_init 0 = .ok (.aload_n 0, 1) := by decide +kernel
theorem dX0_init_1 : decode cX0_init 1 = .ok (.invokespecial 3, 3) := by decide +kernel
theorem dX0_init_4 : decode cX0_init 4 = .ok (.aload_n 0, 1) := by decide +kernel
theorem dX0_init_5 : decode cX0_init 5 = .ok (.bipush 10, 2) := by decide +kernel
theorem dX0_init_7 : decode cX0_init 7 = .ok (.newarray .int, 2) := by decide +kernel
theorem dX0_init_9 : decode cX0_init 9 = .ok (.putfield 9, 3) := by decide +kernel
theorem dX0_init_12 : decode cX0_init 12 = .ok (.aload_n 0, 1) := by decide +kernel
theorem dX0_init_13 : decode cX0_init 13 = .ok (.bipush 10, 2) := by decide +kernel
theorem dX0_init_15 : decode cX0_init 15 = .ok (.newarray .int, 2) := by decide +kernel
theorem dX0_init_17 : decode cX0_init 17 = .ok (.putfield 15, 3) := by decide +kernel
theorem dX0_init_20 : decode cX0_init 20 = .ok (.aload_n 0, 1) := by decide +kernel
theorem dX0_init_21 : decode cX0_init 21 = .ok (.bipush 10, 2) := by decide +kernel
theorem dX0_init_23 : decode cX0_init 23 = .ok (.newarray .int, 2) := by decide +kernel
theorem dX0_init_25 : decode cX0_init 25 = .ok (.putfield 18, 3) := by decide +kernel
theorem dX0_init_28 : decode cX0_init 28 = .ok (.aload_n 0, 1) := by decide +kernel
theorem dX0_init_29 : decode cX0_init 29 = .ok (.bipush 10, 2) := by decide +kernel
theorem dX0_init_31 : decode cX0_init 31 = .ok (.newarray .int, 2) := by decide +kernel
theorem dX0_init_33 : decode cX0_init 33 = .ok (.putfield 21, 3) := by decide +kernel
theorem dX0_init_36 : decode cX0_init 36 = .ok (.aload_n 0, 1) := by decide +kernel
theorem dX0_init_37 : decode cX0_init 37 = .ok (.bipush 10, 2) := by decide +kernel
theorem dX0_init_39 : decode cX0_init 39 = .ok (.newarray .int, 2) := by decide +kernel
theorem dX0_init_41 : decode cX0_init 41 = .ok (.putfield 24, 3) := by decide +kernel
theorem dX0_init_44 : decode cX0_init 44 = .ok (.aload_n 0, 1) := by decide +kernel
theorem dX0_init_45 : decode cX0_init 45 = .ok (.bipush 8, 2) := by decide +kernel
theorem dX0_init_47 : decode cX0_init 47 = .ok (.newarray .int, 2) := by decide +kernel
theorem dX0_init_49 : decode cX0_init 49 = .ok (.putfield 27, 3) := by decide +kernel
theorem dX0_init_52 : decode cX0_init 52 = .ok (.aload_n 0, 1) := by decide +kernel
theorem dX0_init_53 : decode cX0_init 53 = .ok (.iconst 3, 1) := by decide +kernel
theorem dX0_init_54 : decode cX0_init 54 = .ok (.newarray .int, 2) := by decide +kernel
theorem dX0_init_56 : decode cX0_init 56 = .ok (.dup, 1) := by decide +kernel
theorem dX0_init_57 : decode cX0_init 57 = .ok (.iconst 0, 1) := by decide +kernel
theorem dX0_init_58 : decode cX0_init 58 = .ok (.iconst (-1), 1) := by decide +kernel
theorem dX0_init_59 : decode cX0_init 59 = .ok (.iastore, 1) := by decide +kernel
theorem dX0_init_60 : decode cX0_init 60 = .ok (.dup, 1) := by decide +kernel
theorem dX0_init_61 : decode cX0_init 61 = .ok (.iconst 1, 1) := by decide +kernel
theorem dX0_init_62 : decode cX0_init 62 = .ok (.iconst (-1), 1) := by decide +kernel
theorem dX0_init_63 : decode cX0_init 63 = .ok (.iastore, 1) := by decide +kernel
theorem dX0_init_64 : decode cX0_init 64 = .ok (.dup, 1) := by decide +kernel
theorem dX0_init_65 : decode cX0_init 65 = .ok (.iconst 2, 1) := by decide +kernel
theorem dX0_init_66 : decode cX0_init 66 = .ok (.iconst (-1), 1) := by decide +kernel
theorem dX0_init_67 : decode cX0_init 67 = .ok (.iastore, 1) := by decide +kernel
theorem dX0_init_68 : decode cX0_init 68 = .ok (.putfield 30, 3) := by decide +kernel
theorem dX0_init_71 : decode cX0_init 71 = .ok (.aload_n 0, 1) := by decide +kernel
theorem dX0_init_72 : decode cX0_init 72 = .ok (.bipush 50, 2) := by decide +kernel
theorem dX0_init_74 : decode cX0_init 74 = .ok (.putfield 33, 3) := by decide +kernel
theorem dX0_init_77 : decode cX0_init 77 = .ok (.aload_n 0, 1) := by decide +kernel
theorem dX0_init_78 : decode cX0_init 78 = .ok (.bipush 10, 2) := by decide +kernel
theorem dX0_init_80 : decode cX0_init 80 = .ok (.putfield 37, 3) := by decide +kernel
theorem dX0_init_83 : decode cX0_init 83 = .ok (.aload_n 0, 1) := by decide +kernel
theorem dX0_init_84 : decode cX0_init 84 = .ok (.iconst 1, 1) := by decide +kernel
theorem dX0_init_85 : decode cX0_init 85 = .ok (.putfield 40, 3) := by decide +kernel
theorem dX0_init_88 : decode cX0_init 88 = .ok (.aload_n 0, 1) := by decide +kernel
theorem dX0_init_89 : decode cX0_init 89 = .ok (.aload_n 1, 1) := by decide +kernel
theorem dX0_init_90 : decode cX0_init 90 = .ok (.putfield 43, 3) := by decide +kernel
theorem dX0_init_93 : decode cX0_init 93 = .ok (.return_, 1) := by decide +kernel
theorem dX0_become_0 : decode cX0_become 0 = .ok (.aload_n 1, 1) := by decide +kernel
theorem dX0_become_1 : decode cX0_become 1 = .ok (.getfield 9, 3) := by decide +kernel
theorem dX0_become_4 : decode cX0_become 4 = .ok (.iconst 0, 1) := by decide +kernel
theorem dX0_become_5 : decode cX0_become 5 = .ok (.aload_n 0, 1) := by decide +kernel
theorem dX0_become_6 : decode cX0_become 6 = .ok (.getfield 9, 3) := by decide +kernel
theorem dX0_become_9 : decode cX0_become 9 = .ok (.iconst 0, 1) := by decide +kernel
theorem dX0_become_10 : decode cX0_become 10 = .ok (.bipush 10, 2) := by decide +kernel
theorem dX0_become_12 : decode cX0_become 12 = .ok (.invokestatic 47, 3) := by decide +kernel
theorem dX0_become_15 : decode cX0_become 15 = .ok (.aload_n 1, 1) := by decide +kernel
theorem dX0_become_16 : decode cX0_become 16 = .ok (.getfield 15, 3) := by decide +kernel
theorem dX0_become_19 : decode cX0_become 19 = .ok (.iconst 0, 1) := by decide +kernel
theorem dX0_become_20 : decode cX0_become 20 = .ok (.aload_n 0, 1) := by decide +kernel
theorem dX0_become_21 : decode cX0_become 21 = .ok (.getfield 15, 3) := by decide +kernel
theorem dX0_become_24 : decode cX0_become 24 = .ok (.iconst 0, 1) := by decide +kernel
theorem dX0_become_25 : decode cX0_become 25 = .ok (.bipush 10, 2) := by decide +kernel
theorem dX0_become_27 : decode cX0_become 27 = .ok (.invokestatic 47, 3) := by decide +kernel
theorem dX0_become_30 : decode cX0_become 30 = .ok (.aload_n 1, 1) := by decide +kernel
theorem dX0_become_31 : decode cX0_become 31 = .ok (.getfield 18, 3) := by decide +kernel
theorem dX0_become_34 : decode cX0_become 34 = .ok (.iconst 0, 1) := by decide +kernel
theorem dX0_become_35 : decode cX0_become 35 = .ok (.aload_n 0, 1) := by decide +kernel
theorem dX0_become_36 : decode cX0_become 36 = .ok (.getfield 18, 3) := by decide +kernel
theorem dX0_become_39 : decode cX0_become 39 = .ok (.iconst 0, 1) := by decide +kernel
theorem dX0_become_40 : decode cX0_become 40 = .ok (.bipush 10, 2) := by decide +kernel
theorem dX0_become_42 : decode cX0_become 42 = .ok (.invokestatic 47, 3) := by decide +kernel
theorem dX0_become_45 : decode cX0_become 45 = .ok (.aload_n 1, 1) := by decide +kernel
theorem dX0_become_46 : decode cX0_become 46 = .ok (.getfield 21, 3) := by decide +kernel
theorem dX0_become_49 : decode cX0_become 49 = .ok (.iconst 0, 1) := by decide +kernel
theorem dX0_become_50 : decode cX0_become 50 = .ok (.aload_n 0, 1) := by decide +kernel
theorem dX0_become_51 : decode cX0_become 51 = .ok (.getfield 21, 3) := by decide +kernel
theorem dX0_become_54 : decode cX0_become 54 = .ok (.iconst 0, 1) := by decide +kernel
theorem dX0_become_55 : decode cX0_become 55 = .ok (.bipush 10, 2) := by decide +kernel
theorem dX0_become_57 : decode cX0_become 57 = .ok (.invokestatic 47, 3) := by decide +kernel
theorem dX0_become_60 : decode cX0_become 60 = .ok (.aload_n 1, 1) := by decide +kernel
theorem dX0_become_61 : decode cX0_become 61 = .ok (.getfield 24, 3) := by decide +kernel
theorem dX0_become_64 : decode cX0_become 64 = .ok (.iconst 0, 1) := by decide +kernel
theorem dX0_become_65 : decode cX0_become 65 = .ok (.aload_n 0, 1) := by decide +kernel
theorem dX0_become_66 : decode cX0_become 66 = .ok (.getfield 24, 3) := by decide +kernel
theorem dX0_become_69 : decode cX0_become 69 = .ok (.iconst 0, 1) := by decide +kernel
theorem dX0_become_70 : decode cX0_become 70 = .ok (.bipush 10, 2) := by decide +kernel
theorem dX0_become_72 : decode cX0_become 72 = .ok (.invokestatic 47, 3) := by decide +kernel
theorem dX0_become_75 : decode cX0_become 75 = .ok (.aload_n 1, 1) := by decide +kernel
theorem dX0_become_76 : decode cX0_become 76 = .ok (.getfield 27, 3) := by decide +kernel
theorem dX0_become_79 : decode cX0_become 79 = .ok (.iconst 0, 1) := by decide +kernel
theorem dX0_become_80 : decode cX0_become 80 = .ok (.aload_n 0, 1) := by decide +kernel
theorem dX0_become_81 : decode cX0_become 81 = .ok (.getfield 27, 3) := by decide +kernel
theorem dX0_become_84 : decode cX0_become 84 = .ok (.iconst 0, 1) := by decide +kernel
theorem dX0_become_85 : decode cX0_become 85 = .ok (.bipush 8, 2) := by decide +kernel
theorem dX0_become_87 : decode cX0_become 87 = .ok (.invokestatic 47, 3) := by decide +kernel
theorem dX0_become_90 : decode cX0_become 90 = .ok (.aload_n 1, 1) := by decide +kernel
theorem dX0_become_91 : decode cX0_become 91 = .ok (.getfield 30, 3) := by decide +kernel
theorem dX0_become_94 : decode cX0_become 94 = .ok (.iconst 0, 1) := by decide +kernel
theorem dX0_become_95 : decode cX0_become 95 = .ok (.aload_n 0, 1) := by decide +kernel
theorem dX0_become_96 : decode cX0_become 96 = .ok (.getfield 30, 3) := by decide +kernel
theorem dX0_become_99 : decode cX0_become 99 = .ok (.iconst 0, 1) := by decide +kernel
theorem dX0_become_100 : decode cX0_become 100 = .ok (.iconst 3, 1) := by decide +kernel
theorem dX0_become_101 : decode cX0_become 101 = .ok (.invokestatic 47, 3) := by decide +kernel
theorem dX0_become_104 : decode cX0_become 104 = .ok (.aload_n 0, 1) := by decide +kernel
theorem dX0_become_105 : decode cX0_become 105 = .ok (.aload_n 1, 1) := by decide +kernel
theorem dX0_become_106 : decode cX0_become 106 = .ok (.getfield 53, 3) := by decide +kernel
theorem dX0_become_109 : decode cX0_become 109 = .ok (.putfield 53, 3) := by decide +kernel
theorem dX0_become_112 : decode cX0_become 112 = .ok (.aload_n 0, 1) := by decide +kernel
theorem dX0_become_113 : decode cX0_become 113 = .ok (.aload_n 1, 1) := by decide +kernel
theorem dX0_become_114 : decode cX0_become 114 = .ok (.getfield 33, 3) := by decide +kernel
theorem dX0_become_117 : decode cX0_become 117 = .ok (.putfield 33, 3) := by decide +kernel
theorem dX0_become_120 : decode cX0_become 120 = .ok (.aload_n 0, 1) := by decide +kernel
theorem dX0_become_121 : decode cX0_become 121 = .ok (.aload_n 1, 1) := by decide +kernel
theorem dX0_become_122 : decode cX0_become 122 = .ok (.getfield 37, 3) := by decide +kernel
theorem dX0_become_125 : decode cX0_become 125 = .ok (.putfield 37, 3) := by decide +kernel
theorem dX0_become_128 : decode cX0_become 128 = .ok (.aload_n 0, 1) := by decide +kernel
theorem dX0_become_129 : decode cX0_become 129 = .ok (.aload_n 1, 1) := by decide +kernel
theorem dX0_become_130 : decode cX0_become 130 = .ok (.getfield 56, 3) := by decide +kernel
theorem dX0_become_133 : decode cX0_become 133 = .ok (.putfield 56, 3) := by decide +kernel
theorem dX0_become_136 : decode cX0_become 136 = .ok (.aload_n 0, 1) := by decide +kernel
theorem dX0_become_137 : decode cX0_become 137 = .ok (.aload_n 1, 1) := by decide +kernel
theorem dX0_become_138 : decode cX0_become 138 = .ok (.getfield 59, 3) := by decide +kernel
theorem dX0_become_141 : decode cX0_become 141 = .ok (.putfield 59, 3) := by decide +kernel
theorem dX0_become_144 : decode cX0_become 144 = .ok (.aload_n 0, 1) := by decide +kernel
theorem dX0_become_145 : decode cX0_become 145 = .ok (.aload_n 1, 1) := by decide +kernel
theorem dX0_become_146 : decode cX0_become 146 = .ok (.getfield 62, 3) := by decide +kernel
theorem dX0_become_149 : decode cX0_become 149 = .ok (.putfield 62, 3) := by decide +kernel
theorem dX0_become_152 : decode cX0_become 152 = .ok (.aload_n 0, 1) := by decide +kernel
theorem dX0_become_153 : decode cX0_become 153 = .ok (.aload_n 1, 1) := by decide +kernel
theorem dX0_become_154 : decode cX0_become 154 = .ok (.getfield 40, 3) := by decide +kernel
theorem dX0_become_157 : decode cX0_become 157 = .ok (.putfield 40, 3) := by decide +kernel
theorem dX0_become_160 : decode cX0_become 160 = .ok (.aload_n 0, 1) := by decide +kernel
theorem dX0_become_161 : decode cX0_become 161 = .ok (.aload_n 1, 1) := by decide +kernel
theorem dX0_become_162 : decode cX0_become 162 = .ok (.getfield 65, 3) := by decide +kernel
theorem dX0_become_165 : decode cX0_become 165 = .ok (.putfield 65, 3) := by decide +kernel
theorem dX0_become_168 : decode cX0_become 168 = .ok (.return_, 1) := by decide +kernel
theorem dX0_has_0 : decode cX0_has 0 = .ok (.iload_n 1, 1) := by decide +kernel
theorem dX0_has_1 : decode cX0_has 1 = .ok (.ifCond .lt 15, 3) := by decide +kernel
theorem dX0_has_4 : decode cX0_has 4 = .ok (.iload_n 1, 1) := by decide +kernel
theorem dX0_has_5 : decode cX0_has 5 = .ok (.aload_n 0, 1) := by decide +kernel
theorem dX0_has_6 : decode cX0_has 6 = .ok (.getfield 53, 3) := by decide +kernel
theorem dX0_has_9 : decode cX0_has 9 = .ok (.if_icmp .ge 7, 3) := by decide +kernel
theorem dX0_has_12 : decode cX0_has 12 = .ok (.iconst 1, 1) := by decide +kernel
theorem dX0_has_13 : decode cX0_has 13 = .ok (.goto 4, 3) := by decide +kernel
theorem dX0_has_16 : decode cX0_has 16 = .ok (.iconst 0, 1) := by decide +kernel
theorem dX0_has_17 : decode cX0_has 17 = .ok (.ireturn, 1) := by decide +kernel
theorem dX0_add_0 : decode cX0_add 0 = .ok (.aload_n 0, 1) := by decide +kernel
theorem dX0_add_1 : decode cX0_add 1 = .ok (.getfield 53, 3) := by decide +kernel
theorem dX0_add_4 : decode cX0_add 4 = .ok (.bipush 10, 2) := by decide +kernel
theorem dX0_add_6 : decode cX0_add 6 = .ok (.if_icmp .lt 4, 3) := by decide +kernel
theorem dX0_add_9 : decode cX0_add 9 = .ok (.return_, 1) := by decide +kernel
theorem dX0_add_10 : decode cX0_add 10 = .ok (.aload_n 0, 1) := by decide +kernel
theorem dX0_add_11 : decode cX0_add 11 = .ok (.getfield 9, 3) := by decide +kernel
theorem dX0_add_14 : decode cX0_add 14 = .ok (.aload_n 0, 1) := by decide +kernel
theorem dX0_add_15 : decode cX0_add 15 = .ok (.getfield 53, 3) := by decide +kernel
theorem dX0_add_18 : decode cX0_add 18 = .ok (.iload_n 1, 1) := by decide +kernel
theorem dX0_add_19 : decode cX0_add 19 = .ok (.iastore, 1) := by decide +kernel
theorem dX0_add_20 : decode cX0_add 20 = .ok (.aload_n 0, 1) := by decide +kernel
theorem dX0_add_21 : decode cX0_add 21 = .ok (.getfield 15, 3) := by decide +kernel
theorem dX0_add_24 : decode cX0_add 24 = .ok (.aload_n 0, 1) := by decide +kernel
theorem dX0_add_25 : decode cX0_add 25 = .ok (.getfield 53, 3) := by decide +kernel
theorem dX0_add_28 : decode cX0_add 28 = .ok (.iload_n 2, 1) := by decide +kernel
theorem dX0_add_29 : decode cX0_add 29 = .ok (.iastore, 1) := by decide +kernel
theorem dX0_add_30 : decode cX0_add 30 = .ok (.aload_n 0, 1) := by decide +kernel
theorem dX0_add_31 : decode cX0_add 31 = .ok (.getfield 18, 3) := by decide +kernel
theorem dX0_add_34 : decode cX0_add 34 = .ok (.aload_n 0, 1) := by decide +kernel
theorem dX0_add_35 : decode cX0_add 35 = .ok (.getfield 53, 3) := by decide +kernel
theorem dX0_add_38 : decode cX0_add 38 = .ok (.iload_n 3, 1) := by decide +kernel
theorem dX0_add_39 : decode cX0_add 39 = .ok (.iastore, 1) := by decide +kernel
theorem dX0_add_40 : decode cX0_add 40 = .ok (.aload_n 0, 1) := by decide +kernel
theorem dX0_add_41 : decode cX0_add 41 = .ok (.getfield 21, 3) := by decide +kernel
theorem dX0_add_44 : decode cX0_add 44 = .ok (.aload_n 0, 1) := by decide +kernel
theorem dX0_add_45 : decode cX0_add 45 = .ok (.getfield 53, 3) := by decide +kernel
theorem dX0_add_48 : decode cX0_add 48 = .ok (.iload 4, 2) := by decide +kernel
theorem dX0_add_50 : decode cX0_add 50 = .ok (.iastore, 1) := by decide +kernel
theorem dX0_add_51 : decode cX0_add 51 = .ok (.aload_n 0, 1) := by decide +kernel
theorem dX0_add_52 : decode cX0_add 52 = .ok (.getfield 24, 3) := by decide +kernel
theorem dX0_add_55 : decode cX0_add 55 = .ok (.aload_n 0, 1) := by decide +kernel
theorem dX0_add_56 : decode cX0_add 56 = .ok (.getfield 53, 3) := by decide +kernel
theorem dX0_add_59 : decode cX0_add 59 = .ok (.iconst 0, 1) := by decide +kernel
theorem dX0_add_60 : decode cX0_add 60 = .ok (.iastore, 1) := by decide +kernel
theorem dX0_add_61 : decode cX0_add 61 = .ok (.aload_n 0, 1) := by decide +kernel
theorem dX0_add_62 : decode cX0_add 62 = .ok (.dup, 1) := by decide +kernel
theorem dX0_add_63 : decode cX0_add 63 = .ok (.getfield 53, 3) := by decide +kernel
theorem dX0_add_66 : decode cX0_add 66 = .ok (.iconst 1, 1) := by decide +kernel
theorem dX0_add_67 : decode cX0_add 67 = .ok (.iadd, 1) := by decide +kernel
theorem dX0_add_68 : decode cX0_add 68 = .ok (.putfield 53, 3) := by decide +kernel
theorem dX0_add_71 : decode cX0_add 71 = .ok (.return_, 1) := by decide +kernel
theorem dX0_addByLot_0 : decode cX0_addByLot 0 = .ok (.aload_n 0, 1) := by decide +kernel
theorem dX0_addByLot_1 : decode cX0_addByLot 1 = .ok (.invokevirtual 68, 3) := by decide +kernel
theorem dX0_addByLot_4 : decode cX0_addByLot 4 = .ok (.bipush 6, 2) := by decide +kernel
theorem dX0_addByLot_6 : decode cX0_addByLot 6 = .ok (.irem, 1) := by decide +kernel
theorem dX0_addByLot_7 : decode cX0_addByLot 7 = .ok (.istore_n 1, 1) := by decide +kernel
theorem dX0_addByLot_8 : decode cX0_addByLot 8 = .ok (.aload_n 0, 1) := by decide +kernel
theorem dX0_addByLot_9 : decode cX0_addByLot 9 = .ok (.invokevirtual 68, 3) := by decide +kernel
theorem dX0_addByLot_12 : decode cX0_addByLot 12 = .ok (.iconst 2, 1) := by decide +kernel
theorem dX0_addByLot_13 : decode cX0_addByLot 13 = .ok (.irem, 1) := by decide +kernel
theorem dX0_addByLot_14 : decode cX0_addByLot 14 = .ok (.istore_n 2, 1) := by decide +kernel
theorem dX0_addByLot_15 : decode cX0_addByLot 15 = .ok (.aload_n 0, 1) := by decide +kernel
theorem dX0_addByLot_16 : decode cX0_addByLot 16 = .ok (.invokevirtual 68, 3) := by decide +kernel
theorem dX0_addByLot_19 : decode cX0_addByLot 19 = .ok (.sipush 256, 3) := by decide +kernel
theorem dX0_addByLot_22 : decode cX0_addByLot 22 = .ok (.irem, 1) := by decide +kernel
theorem dX0_addByLot_23 : decode cX0_addByLot 23 = .ok (.istore_n 3, 1) := by decide +kernel
theorem dX0_addByLot_24 : decode cX0_addByLot 24 = .ok (.aload_n 0, 1) := by decide +kernel
theorem dX0_addByLot_25 : decode cX0_addByLot 25 = .ok (.invokevirtual 68, 3) := by decide +kernel
theorem dX0_addByLot_28 : decode cX0_addByLot 28 = .ok (.bipush 30, 2) := by decide +kernel
theorem dX0_addByLot_30 : decode cX0_addByLot 30 = .ok (.irem, 1) := by decide +kernel
theorem dX0_addByLot_31 : decode cX0_addByLot 31 = .ok (.istore 4, 2) := by decide +kernel
theorem dX0_addByLot_33 : decode cX0_addByLot 33 = .ok (.aload_n 0, 1) := by decide +kernel
theorem dX0_addByLot_34 : decode cX0_addByLot 34 = .ok (.iload_n 1, 1) := by decide +kernel
theorem dX0_addByLot_35 : decode cX0_addByLot 35 = .ok (.iload_n 2, 1) := by decide +kernel
theorem dX0_addByLot_36 : decode cX0_addByLot 36 = .ok (.iload_n 3, 1) := by decide +kernel
theorem dX0_addByLot_37 : decode cX0_addByLot 37 = .ok (.iload 4, 2) := by decide +kernel
theorem dX0_addByLot_39 : decode cX0_addByLot 39 = .ok (.invokevirtual 72, 3) := by decide +kernel
theorem dX0_addByLot_42 : decode cX0_addByLot 42 = .ok (.return_, 1) := by decide +kernel
theorem dX0_draw_0 : decode cX0_draw 0 = .ok (.aload_n 0, 1) := by decide +kernel
theorem dX0_draw_1 : decode cX0_draw 1 = .ok (.aload_n 0, 1) := by decide +kernel
theorem dX0_draw_2 : decode cX0_draw 2 = .ok (.getfield 40, 3) := by decide +kernel
theorem dX0_draw_5 : decode cX0_draw 5 = .ok (.ldc 76, 2) := by decide +kernel
theorem dX0_draw_7 : decode cX0_draw 7 = .ok (.imul, 1) := by decide +kernel
theorem dX0_draw_8 : decode cX0_draw 8 = .ok (.sipush 12345, 3) := by decide +kernel
theorem dX0_draw_11 : decode cX0_draw 11 = .ok (.iadd, 1) := by decide +kernel
theorem dX0_draw_12 : decode cX0_draw 12 = .ok (.putfield 40, 3) := by decide +kernel
theorem dX0_draw_15 : decode cX0_draw 15 = .ok (.aload_n 0, 1) := by decide +kernel
theorem dX0_draw_16 : decode cX0_draw 16 = .ok (.getfield 40, 3) := by decide +kernel
theorem dX0_draw_19 : decode cX0_draw 19 = .ok (.bipush 8, 2) := by decide +kernel
theorem dX0_draw_21 : decode cX0_draw 21 = .ok (.iushr, 1) := by decide +kernel
theorem dX0_draw_22 : decode cX0_draw 22 = .ok (.ireturn, 1) := by decide +kernel
theorem dX0_comesOut_0 : decode cX0_comesOut 0 = .ok (.iconst 1, 1) := by decide +kernel
theorem dX0_comesOut_1 : decode cX0_comesOut 1 = .ok (.iload_n 1, 1) := by decide +kernel
theorem dX0_comesOut_2 : decode cX0_comesOut 2 = .ok (.ishl, 1) := by decide +kernel
theorem dX0_comesOut_3 : decode cX0_comesOut 3 = .ok (.istore_n 3, 1) := by decide +kernel
theorem dX0_comesOut_4 : decode cX0_comesOut 4 = .ok (.iconst 0, 1) := by decide +kernel
theorem dX0_comesOut_5 : decode cX0_comesOut 5 = .ok (.istore 4, 2) := by decide +kernel
theorem dX0_comesOut_7 : decode cX0_comesOut 7 = .ok (.iconst 0, 1) := by decide +kernel
theorem dX0_comesOut_8 : decode cX0_comesOut 8 = .ok (.istore 5, 2) := by decide +kernel
theorem dX0_comesOut_10 : decode cX0_comesOut 10 = .ok (.iload 5, 2) := by decide +kernel
theorem dX0_comesOut_12 : decode cX0_comesOut 12 = .ok (.aload_n 0, 1) := by decide +kernel
theorem dX0_comesOut_13 : decode cX0_comesOut 13 = .ok (.getfield 53, 3) := by decide +kernel
theorem dX0_comesOut_16 : decode cX0_comesOut 16 = .ok (.if_icmp .ge 46, 3) := by decide +kernel
theorem dX0_comesOut_19 : decode cX0_comesOut 19 = .ok (.aload_n 0, 1) := by decide +kernel
theorem dX0_comesOut_20 : decode cX0_comesOut 20 = .ok (.getfield 15, 3) := by decide +kernel
theorem dX0_comesOut_23 : decode cX0_comesOut 23 = .ok (.iload 5, 2) := by decide +kernel
theorem dX0_comesOut_25 : decode cX0_comesOut 25 = .ok (.iaload, 1) := by decide +kernel
theorem dX0_comesOut_26 : decode cX0_comesOut 26 = .ok (.iload_n 2, 1) := by decide +kernel
theorem dX0_comesOut_27 : decode cX0_comesOut 27 = .ok (.if_icmp .ne 29, 3) := by decide +kernel
theorem dX0_comesOut_30 : decode cX0_comesOut 30 = .ok (.aload_n 0, 1) := by decide +kernel
theorem dX0_comesOut_31 : decode cX0_comesOut 31 = .ok (.getfield 18, 3) := by decide +kernel
theorem dX0_comesOut_34 : decode cX0_comesOut 34 = .ok (.iload 5, 2) := by decide +kernel
theorem dX0_comesOut_36 : decode cX0_comesOut 36 = .ok (.iaload, 1) := by decide +kernel
theorem dX0_comesOut_37 : decode cX0_comesOut 37 = .ok (.iload_n 3, 1) := by decide +kernel
theorem dX0_comesOut_38 : decode cX0_comesOut 38 = .ok (.iand, 1) := by decide +kernel
theorem dX0_comesOut_39 : decode cX0_comesOut 39 = .ok (.ifCond .ne 17, 3) := by decide +kernel
theorem dX0_comesOut_42 : decode cX0_comesOut 42 = .ok (.aload_n 0, 1) := by decide +kernel
theorem dX0_comesOut_43 : decode cX0_comesOut 43 = .ok (.getfield 18, 3) := by decide +kernel
theorem dX0_comesOut_46 : decode cX0_comesOut 46 = .ok (.iload 5, 2) := by decide +kernel
theorem dX0_comesOut_48 : decode cX0_comesOut 48 = .ok (.dup2, 1) := by decide +kernel
theorem dX0_comesOut_49 : decode cX0_comesOut 49 = .ok (.iaload, 1) := by decide +kernel
theorem dX0_comesOut_50 : decode cX0_comesOut 50 = .ok (.iload_n 3, 1) := by decide +kernel
theorem dX0_comesOut_51 : decode cX0_comesOut 51 = .ok (.ior, 1) := by decide +kernel
theorem dX0_comesOut_52 : decode cX0_comesOut 52 = .ok (.iastore, 1) := by decide +kernel
theorem dX0_comesOut_53 : decode cX0_comesOut 53 = .ok (.iinc 4 1, 3) := by decide +kernel
theorem dX0_comesOut_56 : decode cX0_comesOut 56 = .ok (.iinc 5 1, 3) := by decide +kernel
theorem dX0_comesOut_59 : decode cX0_comesOut 59 = .ok (.goto (-49), 3) := by decide +kernel
theorem dX0_comesOut_62 : decode cX0_comesOut 62 = .ok (.iload 4, 2) := by decide +kernel
theorem dX0_comesOut_64 : decode cX0_comesOut 64 = .ok (.ireturn, 1) := by decide +kernel
theorem dX0_partner_0 : decode cX0_partner 0 = .ok (.aload_n 0, 1) := by decide +kernel
theorem dX0_partner_1 : decode cX0_partner 1 = .ok (.getfield 53, 3) := by decide +kernel
theorem dX0_partner_4 : decode cX0_partner 4 = .ok (.iconst 1, 1) := by decide +kernel
theorem dX0_partner_5 : decode cX0_partner 5 = .ok (.if_icmp .ge 7, 3) := by decide +kernel
theorem dX0_partner_8 : decode cX0_partner 8 = .ok (.iload_n 1, 1) := by decide +kernel
theorem dX0_partner_9 : decode cX0_partner 9 = .ok (.goto 21, 3) := by decide +kernel
theorem dX0_partner_12 : decode cX0_partner 12 = .ok (.aload_n 0, 1) := by decide +kernel
theorem dX0_partner_13 : decode cX0_partner 13 = .ok (.getfield 62, 3) := by decide +kernel
theorem dX0_partner_16 : decode cX0_partner 16 = .ok (.aload_n 0, 1) := by decide +kernel
theorem dX0_partner_17 : decode cX0_partner 17 = .ok (.getfield 56, 3) := by decide +kernel
theorem dX0_partner_20 : decode cX0_partner 20 = .ok (.iadd, 1) := by decide +kernel
theorem dX0_partner_21 : decode cX0_partner 21 = .ok (.iload_n 1, 1) := by decide +kernel
theorem dX0_partner_22 : decode cX0_partner 22 = .ok (.isub, 1) := by decide +kernel
theorem dX0_partner_23 : decode cX0_partner 23 = .ok (.aload_n 0, 1) := by decide +kernel
theorem dX0_partner_24 : decode cX0_partner 24 = .ok (.getfield 53, 3) := by decide +kernel
theorem dX0_partner_27 : decode cX0_partner 27 = .ok (.invokestatic 77, 3) := by decide +kernel
theorem dX0_partner_30 : decode cX0_partner 30 = .ok (.ireturn, 1) := by decide +kernel
theorem dX0_swaying_0 : decode cX0_swaying 0 = .ok (.iconst 0, 1) := by decide +kernel
theorem dX0_swaying_1 : decode cX0_swaying 1 = .ok (.istore_n 1, 1) := by decide +kernel
theorem dX0_swaying_2 : decode cX0_swaying 2 = .ok (.iconst 0, 1) := by decide +kernel
theorem dX0_swaying_3 : decode cX0_swaying 3 = .ok (.istore_n 2, 1) := by decide +kernel
theorem dX0_swaying_4 : decode cX0_swaying 4 = .ok (.iload_n 2, 1) := by decide +kernel
theorem dX0_swaying_5 : decode cX0_swaying 5 = .ok (.bipush 8, 2) := by decide +kernel
theorem dX0_swaying_7 : decode cX0_swaying 7 = .ok (.if_icmp .ge 24, 3) := by decide +kernel
theorem dX0_swaying_10 : decode cX0_swaying 10 = .ok (.aload_n 0, 1) := by decide +kernel
theorem dX0_swaying_11 : decode cX0_swaying 11 = .ok (.getfield 27, 3) := by decide +kernel
theorem dX0_swaying_14 : decode cX0_swaying 14 = .ok (.iload_n 2, 1) := by decide +kernel
theorem dX0_swaying_15 : decode cX0_swaying 15 = .ok (.iaload, 1) := by decide +kernel
theorem dX0_swaying_16 : decode cX0_swaying 16 = .ok (.ifCond .le 9, 3) := by decide +kernel
theorem dX0_swaying_19 : decode cX0_swaying 19 = .ok (.iload_n 1, 1) := by decide +kernel
theorem dX0_swaying_20 : decode cX0_swaying 20 = .ok (.iconst 1, 1) := by decide +kernel
theorem dX0_swaying_21 : decode cX0_swaying 21 = .ok (.iload_n 2, 1) := by decide +kernel
theorem dX0_swaying_22 : decode cX0_swaying 22 = .ok (.ishl, 1) := by decide +kernel
theorem dX0_swaying_23 : decode cX0_swaying 23 = .ok (.ior, 1) := by decide +kernel
theorem dX0_swaying_24 : decode cX0_swaying 24 = .ok (.istore_n 1, 1) := by decide +kernel
theorem dX0_swaying_25 : decode cX0_swaying 25 = .ok (.iinc 2 1, 3) := by decide +kernel
theorem dX0_swaying_28 : decode cX0_swaying 28 = .ok (.goto (-24), 3) := by decide +kernel
theorem dX0_swaying_31 : decode cX0_swaying 31 = .ok (.iload_n 1, 1) := by decide +kernel
theorem dX0_swaying_32 : decode cX0_swaying 32 = .ok (.ireturn, 1) := by decide +kernel
theorem dX0_pass_0 : decode cX0_pass 0 = .ok (.iconst 0, 1) := by decide +kernel
theorem dX0_pass_1 : decode cX0_pass 1 = .ok (.istore_n 3, 1) := by decide +kernel
theorem dX0_pass_2 : decode cX0_pass 2 = .ok (.iconst 0, 1) := by decide +kernel
theorem dX0_pass_3 : decode cX0_pass 3 = .ok (.istore 4, 2) := by decide +kernel
theorem dX0_pass_5 : decode cX0_pass 5 = .ok (.iload 4, 2) := by decide +kernel
theorem dX0_pass_7 : decode cX0_pass 7 = .ok (.iload_n 1, 1) := by decide +kernel
theorem dX0_pass_8 : decode cX0_pass 8 = .ok (.if_icmp .ge 17, 3) := by decide +kernel
theorem dX0_pass_11 : decode cX0_pass 11 = .ok (.iload_n 3, 1) := by decide +kernel
theorem dX0_pass_12 : decode cX0_pass 12 = .ok (.aload_n 0, 1) := by decide +kernel
theorem dX0_pass_13 : decode cX0_pass 13 = .ok (.iload_n 2, 1) := by decide +kernel
theorem dX0_pass_14 : decode cX0_pass 14 = .ok (.invokevirtual 83, 3) := by decide +kernel
theorem dX0_pass_17 : decode cX0_pass 17 = .ok (.iadd, 1) := by decide +kernel
theorem dX0_pass_18 : decode cX0_pass 18 = .ok (.istore_n 3, 1) := by decide +kernel
theorem dX0_pass_19 : decode cX0_pass 19 = .ok (.iinc 4 1, 3) := by decide +kernel
theorem dX0_pass_22 : decode cX0_pass 22 = .ok (.goto (-17), 3) := by decide +kernel
theorem dX0_pass_25 : decode cX0_pass 25 = .ok (.iload_n 3, 1) := by decide +kernel
theorem dX0_pass_26 : decode cX0_pass 26 = .ok (.ireturn, 1) := by decide +kernel
theorem dX0_anHour_0 : decode cX0_anHour 0 = .ok (.iconst 0, 1) := by decide +kernel
theorem dX0_anHour_1 : decode cX0_anHour 1 = .ok (.istore_n 2, 1) := by decide +kernel
theorem dX0_anHour_2 : decode cX0_anHour 2 = .ok (.iconst 0, 1) := by decide +kernel
theorem dX0_anHour_3 : decode cX0_anHour 3 = .ok (.istore_n 3, 1) := by decide +kernel
theorem dX0_anHour_4 : decode cX0_anHour 4 = .ok (.iload_n 3, 1) := by decide +kernel
theorem dX0_anHour_5 : decode cX0_anHour 5 = .ok (.aload_n 0, 1) := by decide +kernel
theorem dX0_anHour_6 : decode cX0_anHour 6 = .ok (.getfield 53, 3) := by decide +kernel
theorem dX0_anHour_9 : decode cX0_anHour 9 = .ok (.if_icmp .ge 60, 3) := by decide +kernel
theorem dX0_anHour_12 : decode cX0_anHour 12 = .ok (.aload_n 0, 1) := by decide +kernel
theorem dX0_anHour_13 : decode cX0_anHour 13 = .ok (.iload_n 3, 1) := by decide +kernel
theorem dX0_anHour_14 : decode cX0_anHour 14 = .ok (.invokevirtual 87, 3) := by decide +kernel
theorem dX0_anHour_17 : decode cX0_anHour 17 = .ok (.istore 4, 2) := by decide +kernel
theorem dX0_anHour_19 : decode cX0_anHour 19 = .ok (.iload 4, 2) := by decide +kernel
theorem dX0_anHour_21 : decode cX0_anHour 21 = .ok (.iload_n 3, 1) := by decide +kernel
theorem dX0_anHour_22 : decode cX0_anHour 22 = .ok (.if_icmp .le 41, 3) := by decide +kernel
theorem dX0_anHour_25 : decode cX0_anHour 25 = .ok (.aload_n 0, 1) := by decide +kernel
theorem dX0_anHour_26 : decode cX0_anHour 26 = .ok (.invokevirtual 68, 3) := by decide +kernel
theorem dX0_anHour_29 : decode cX0_anHour 29 = .ok (.bipush 100, 2) := by decide +kernel
theorem dX0_anHour_31 : decode cX0_anHour 31 = .ok (.irem, 1) := by decide +kernel
theorem dX0_anHour_32 : decode cX0_anHour 32 = .ok (.aload_n 0, 1) := by decide +kernel
theorem dX0_anHour_33 : decode cX0_anHour 33 = .ok (.getfield 37, 3) := by decide +kernel
theorem dX0_anHour_36 : decode cX0_anHour 36 = .ok (.if_icmp .ge 16, 3) := by decide +kernel
theorem dX0_anHour_39 : decode cX0_anHour 39 = .ok (.aload_n 0, 1) := by decide +kernel
theorem dX0_anHour_40 : decode cX0_anHour 40 = .ok (.dup, 1) := by decide +kernel
theorem dX0_anHour_41 : decode cX0_anHour 41 = .ok (.getfield 59, 3) := by decide +kernel
theorem dX0_anHour_44 : decode cX0_anHour 44 = .ok (.iconst 1, 1) := by decide +kernel
theorem dX0_anHour_45 : decode cX0_anHour 45 = .ok (.iadd, 1) := by decide +kernel
theorem dX0_anHour_46 : decode cX0_anHour 46 = .ok (.putfield 59, 3) := by decide +kernel
theorem dX0_anHour_49 : decode cX0_anHour 49 = .ok (.goto 14, 3) := by decide +kernel
theorem dX0_anHour_52 : decode cX0_anHour 52 = .ok (.iload_n 2, 1) := by decide +kernel
theorem dX0_anHour_53 : decode cX0_anHour 53 = .ok (.aload_n 0, 1) := by decide +kernel
theorem dX0_anHour_54 : decode cX0_anHour 54 = .ok (.iload_n 3, 1) := by decide +kernel
theorem dX0_anHour_55 : decode cX0_anHour 55 = .ok (.iload 4, 2) := by decide +kernel
theorem dX0_anHour_57 : decode cX0_anHour 57 = .ok (.iload_n 1, 1) := by decide +kernel
theorem dX0_anHour_58 : decode cX0_anHour 58 = .ok (.invokevirtual 90, 3) := by decide +kernel
theorem dX0_anHour_61 : decode cX0_anHour 61 = .ok (.iadd, 1) := by decide +kernel
theorem dX0_anHour_62 : decode cX0_anHour 62 = .ok (.istore_n 2, 1) := by decide +kernel
theorem dX0_anHour_63 : decode cX0_anHour 63 = .ok (.iinc 3 1, 3) := by decide +kernel
theorem dX0_anHour_66 : decode cX0_anHour 66 = .ok (.goto (-62), 3) := by decide +kernel
theorem dX0_anHour_69 : decode cX0_anHour 69 = .ok (.aload_n 0, 1) := by decide +kernel
theorem dX0_anHour_70 : decode cX0_anHour 70 = .ok (.dup, 1) := by decide +kernel
theorem dX0_anHour_71 : decode cX0_anHour 71 = .ok (.getfield 62, 3) := by decide +kernel
theorem dX0_anHour_74 : decode cX0_anHour 74 = .ok (.iconst 1, 1) := by decide +kernel
theorem dX0_anHour_75 : decode cX0_anHour 75 = .ok (.iadd, 1) := by decide +kernel
theorem dX0_anHour_76 : decode cX0_anHour 76 = .ok (.putfield 62, 3) := by decide +kernel
theorem dX0_anHour_79 : decode cX0_anHour 79 = .ok (.iload_n 2, 1) := by decide +kernel
theorem dX0_anHour_80 : decode cX0_anHour 80 = .ok (.ireturn, 1) := by decide +kernel
theorem dX0_palms_0 : decode cX0_palms 0 = .ok (.iload_n 1, 1) := by decide +kernel
theorem dX0_palms_1 : decode cX0_palms 1 = .ok (.iload_n 3, 1) := by decide +kernel
theorem dX0_palms_2 : decode cX0_palms 2 = .ok (.if_icmp .ne 7, 3) := by decide +kernel
theorem dX0_palms_5 : decode cX0_palms 5 = .ok (.iconst 0, 1) := by decide +kernel
theorem dX0_palms_6 : decode cX0_palms 6 = .ok (.goto 9, 3) := by decide +kernel
theorem dX0_palms_9 : decode cX0_palms 9 = .ok (.aload_n 0, 1) := by decide +kernel
theorem dX0_palms_10 : decode cX0_palms 10 = .ok (.iload_n 1, 1) := by decide +kernel
theorem dX0_palms_11 : decode cX0_palms 11 = .ok (.iload_n 2, 1) := by decide +kernel
theorem dX0_palms_12 : decode cX0_palms 12 = .ok (.invokestatic 94, 3) := by decide +kernel
theorem dX0_palms_15 : decode cX0_palms 15 = .ok (.istore 4, 2) := by decide +kernel
theorem dX0_palms_17 : decode cX0_palms 17 = .ok (.iload_n 2, 1) := by decide +kernel
theorem dX0_palms_18 : decode cX0_palms 18 = .ok (.iload_n 3, 1) := by decide +kernel
theorem dX0_palms_19 : decode cX0_palms 19 = .ok (.if_icmp .ne 7, 3) := by decide +kernel
theorem dX0_palms_22 : decode cX0_palms 22 = .ok (.iconst 0, 1) := by decide +kernel
theorem dX0_palms_23 : decode cX0_palms 23 = .ok (.goto 9, 3) := by decide +kernel
theorem dX0_palms_26 : decode cX0_palms 26 = .ok (.aload_n 0, 1) := by decide +kernel
theorem dX0_palms_27 : decode cX0_palms 27 = .ok (.iload_n 2, 1) := by decide +kernel
theorem dX0_palms_28 : decode cX0_palms 28 = .ok (.iload_n 1, 1) := by decide +kernel
theorem dX0_palms_29 : decode cX0_palms 29 = .ok (.invokestatic 94, 3) := by decide +kernel
theorem dX0_palms_32 : decode cX0_palms 32 = .ok (.istore 5, 2) := by decide +kernel
theorem dX0_palms_34 : decode cX0_palms 34 = .ok (.aload_n 0, 1) := by decide +kernel
theorem dX0_palms_35 : decode cX0_palms 35 = .ok (.getfield 18, 3) := by decide +kernel
theorem dX0_palms_38 : decode cX0_palms 38 = .ok (.iload_n 2, 1) := by decide +kernel
theorem dX0_palms_39 : decode cX0_palms 39 = .ok (.dup2, 1) := by decide +kernel
theorem dX0_palms_40 : decode cX0_palms 40 = .ok (.iaload, 1) := by decide +kernel
theorem dX0_palms_41 : decode cX0_palms 41 = .ok (.iload 4, 2) := by decide +kernel
theorem dX0_palms_43 : decode cX0_palms 43 = .ok (.ior, 1) := by decide +kernel
theorem dX0_palms_44 : decode cX0_palms 44 = .ok (.iastore, 1) := by decide +kernel
theorem dX0_palms_45 : decode cX0_palms 45 = .ok (.aload_n 0, 1) := by decide +kernel
theorem dX0_palms_46 : decode cX0_palms 46 = .ok (.getfield 18, 3) := by decide +kernel
theorem dX0_palms_49 : decode cX0_palms 49 = .ok (.iload_n 1, 1) := by decide +kernel
theorem dX0_palms_50 : decode cX0_palms 50 = .ok (.dup2, 1) := by decide +kernel
theorem dX0_palms_51 : decode cX0_palms 51 = .ok (.iaload, 1) := by decide +kernel
theorem dX0_palms_52 : decode cX0_palms 52 = .ok (.iload 5, 2) := by decide +kernel
theorem dX0_palms_54 : decode cX0_palms 54 = .ok (.ior, 1) := by decide +kernel
theorem dX0_palms_55 : decode cX0_palms 55 = .ok (.iastore, 1) := by decide +kernel
theorem dX0_palms_56 : decode cX0_palms 56 = .ok (.iload 4, 2) := by decide +kernel
theorem dX0_palms_58 : decode cX0_palms 58 = .ok (.ifCond .ne 7, 3) := by decide +kernel
theorem dX0_palms_61 : decode cX0_palms 61 = .ok (.iconst 0, 1) := by decide +kernel
theorem dX0_palms_62 : decode cX0_palms 62 = .ok (.goto 4, 3) := by decide +kernel
theorem dX0_palms_65 : decode cX0_palms 65 = .ok (.iconst 1, 1) := by decide +kernel
theorem dX0_palms_66 : decode cX0_palms 66 = .ok (.istore 6, 2) := by decide +kernel
theorem dX0_palms_68 : decode cX0_palms 68 = .ok (.iload 5, 2) := by decide +kernel
theorem dX0_palms_70 : decode cX0_palms 70 = .ok (.ifCond .ne 7, 3) := by decide +kernel
theorem dX0_palms_73 : decode cX0_palms 73 = .ok (.iconst 0, 1) := by decide +kernel
theorem dX0_palms_74 : decode cX0_palms 74 = .ok (.goto 4, 3) := by decide +kernel
theorem dX0_palms_77 : decode cX0_palms 77 = .ok (.iconst 1, 1) := by decide +kernel
theorem dX0_palms_78 : decode cX0_palms 78 = .ok (.istore 7, 2) := by decide +kernel
theorem dX0_palms_80 : decode cX0_palms 80 = .ok (.aload_n 0, 1) := by decide +kernel
theorem dX0_palms_81 : decode cX0_palms 81 = .ok (.getfield 24, 3) := by decide +kernel
theorem dX0_palms_84 : decode cX0_palms 84 = .ok (.iload_n 1, 1) := by decide +kernel
theorem dX0_palms_85 : decode cX0_palms 85 = .ok (.dup2, 1) := by decide +kernel
theorem dX0_palms_86 : decode cX0_palms 86 = .ok (.iaload, 1) := by decide +kernel
theorem dX0_palms_87 : decode cX0_palms 87 = .ok (.iload 6, 2) := by decide +kernel
theorem dX0_palms_89 : decode cX0_palms 89 = .ok (.iadd, 1) := by decide +kernel
theorem dX0_palms_90 : decode cX0_palms 90 = .ok (.iastore, 1) := by decide +kernel
theorem dX0_palms_91 : decode cX0_palms 91 = .ok (.aload_n 0, 1) := by decide +kernel
theorem dX0_palms_92 : decode cX0_palms 92 = .ok (.getfield 24, 3) := by decide +kernel
theorem dX0_palms_95 : decode cX0_palms 95 = .ok (.iload_n 2, 1) := by decide +kernel
theorem dX0_palms_96 : decode cX0_palms 96 = .ok (.dup2, 1) := by decide +kernel
theorem dX0_palms_97 : decode cX0_palms 97 = .ok (.iaload, 1) := by decide +kernel
theorem dX0_palms_98 : decode cX0_palms 98 = .ok (.iload 7, 2) := by decide +kernel
theorem dX0_palms_100 : decode cX0_palms 100 = .ok (.iadd, 1) := by decide +kernel
theorem dX0_palms_101 : decode cX0_palms 101 = .ok (.iastore, 1) := by decide +kernel
theorem dX0_palms_102 : decode cX0_palms 102 = .ok (.iload 6, 2) := by decide +kernel
theorem dX0_palms_104 : decode cX0_palms 104 = .ok (.iload 7, 2) := by decide +kernel
theorem dX0_palms_106 : decode cX0_palms 106 = .ok (.iadd, 1) := by decide +kernel
theorem dX0_palms_107 : decode cX0_palms 107 = .ok (.ireturn, 1) := by decide +kernel
theorem dX0_believes_0 : decode cX0_believes 0 = .ok (.aload_n 0, 1) := by decide +kernel
theorem dX0_believes_1 : decode cX0_believes 1 = .ok (.getfield 9, 3) := by decide +kernel
theorem dX0_believes_4 : decode cX0_believes 4 = .ok (.iload_n 1, 1) := by decide +kernel
theorem dX0_believes_5 : decode cX0_believes 5 = .ok (.iaload, 1) := by decide +kernel
theorem dX0_believes_6 : decode cX0_believes 6 = .ok (.aload_n 0, 1) := by decide +kernel
theorem dX0_believes_7 : decode cX0_believes 7 = .ok (.iload_n 1, 1) := by decide +kernel
theorem dX0_believes_8 : decode cX0_believes 8 = .ok (.invokevirtual 100, 3) := by decide +kernel
theorem dX0_believes_11 : decode cX0_believes 11 = .ok (.aload_n 0, 1) := by decide +kernel
theorem dX0_believes_12 : decode cX0_believes 12 = .ok (.getfield 21, 3) := by decide +kernel
theorem dX0_believes_15 : decode cX0_believes 15 = .ok (.iload_n 1, 1) := by decide +kernel
theorem dX0_believes_16 : decode cX0_believes 16 = .ok (.iaload, 1) := by decide +kernel
theorem dX0_believes_17 : decode cX0_believes 17 = .ok (.invokestatic 103, 3) := by decide +kernel
theorem dX0_believes_20 : decode cX0_believes 20 = .ok (.ireturn, 1) := by decide +kernel
theorem dX0_trusts_0 : decode cX0_trusts 0 = .ok (.iconst 0, 1) := by decide +kernel
theorem dX0_trusts_1 : decode cX0_trusts 1 = .ok (.istore_n 2, 1) := by decide +kernel
theorem dX0_trusts_2 : decode cX0_trusts 2 = .ok (.iconst 0, 1) := by decide +kernel
theorem dX0_trusts_3 : decode cX0_trusts 3 = .ok (.istore_n 3, 1) := by decide +kernel
theorem dX0_trusts_4 : decode cX0_trusts 4 = .ok (.iload_n 3, 1) := by decide +kernel
theorem dX0_trusts_5 : decode cX0_trusts 5 = .ok (.bipush 8, 2) := by decide +kernel
theorem dX0_trusts_7 : decode cX0_trusts 7 = .ok (.if_icmp .ge 31, 3) := by decide +kernel
theorem dX0_trusts_10 : decode cX0_trusts 10 = .ok (.aload_n 0, 1) := by decide +kernel
theorem dX0_trusts_11 : decode cX0_trusts 11 = .ok (.getfield 18, 3) := by decide +kernel
theorem dX0_trusts_14 : decode cX0_trusts 14 = .ok (.iload_n 1, 1) := by decide +kernel
theorem dX0_trusts_15 : decode cX0_trusts 15 = .ok (.iaload, 1) := by decide +kernel
theorem dX0_trusts_16 : decode cX0_trusts 16 = .ok (.iload_n 3, 1) := by decide +kernel
theorem dX0_trusts_17 : decode cX0_trusts 17 = .ok (.ishr, 1) := by decide +kernel
theorem dX0_trusts_18 : decode cX0_trusts 18 = .ok (.iconst 1, 1) := by decide +kernel
theorem dX0_trusts_19 : decode cX0_trusts 19 = .ok (.iand, 1) := by decide +kernel
theorem dX0_trusts_20 : decode cX0_trusts 20 = .ok (.ifCond .eq 12, 3) := by decide +kernel
theorem dX0_trusts_23 : decode cX0_trusts 23 = .ok (.iload_n 2, 1) := by decide +kernel
theorem dX0_trusts_24 : decode cX0_trusts 24 = .ok (.aload_n 0, 1) := by decide +kernel
theorem dX0_trusts_25 : decode cX0_trusts 25 = .ok (.getfield 27, 3) := by decide +kernel
theorem dX0_trusts_28 : decode cX0_trusts 28 = .ok (.iload_n 3, 1) := by decide +kernel
theorem dX0_trusts_29 : decode cX0_trusts 29 = .ok (.iaload, 1) := by decide +kernel
theorem dX0_trusts_30 : decode cX0_trusts 30 = .ok (.iadd, 1) := by decide +kernel
theorem dX0_trusts_31 : decode cX0_trusts 31 = .ok (.istore_n 2, 1) := by decide +kernel
theorem dX0_trusts_32 : decode cX0_trusts 32 = .ok (.iinc 3 1, 3) := by decide +kernel
theorem dX0_trusts_35 : decode cX0_trusts 35 = .ok (.goto (-31), 3) := by decide +kernel
theorem dX0_trusts_38 : decode cX0_trusts 38 = .ok (.aload_n 0, 1) := by decide +kernel
theorem dX0_trusts_39 : decode cX0_trusts 39 = .ok (.getfield 30, 3) := by decide +kernel
theorem dX0_trusts_42 : decode cX0_trusts 42 = .ok (.iconst 0, 1) := by decide +kernel
theorem dX0_trusts_43 : decode cX0_trusts 43 = .ok (.iaload, 1) := by decide +kernel
theorem dX0_trusts_44 : decode cX0_trusts 44 = .ok (.istore_n 3, 1) := by decide +kernel
theorem dX0_trusts_45 : decode cX0_trusts 45 = .ok (.iload_n 3, 1) := by decide +kernel
theorem dX0_trusts_46 : decode cX0_trusts 46 = .ok (.ifCond .ge 10, 3) := by decide +kernel
theorem dX0_trusts_49 : decode cX0_trusts 49 = .ok (.bipush 50, 2) := by decide +kernel
theorem dX0_trusts_51 : decode cX0_trusts 51 = .ok (.iload_n 2, 1) := by decide +kernel
theorem dX0_trusts_52 : decode cX0_trusts 52 = .ok (.iadd, 1) := by decide +kernel
theorem dX0_trusts_53 : decode cX0_trusts 53 = .ok (.goto 27, 3) := by decide +kernel
theorem dX0_trusts_56 : decode cX0_trusts 56 = .ok (.aload_n 0, 1) := by decide +kernel
theorem dX0_trusts_57 : decode cX0_trusts 57 = .ok (.getfield 43, 3) := by decide +kernel
theorem dX0_trusts_60 : decode cX0_trusts 60 = .ok (.iload_n 3, 1) := by decide +kernel
theorem dX0_trusts_61 : decode cX0_trusts 61 = .ok (.aload_n 0, 1) := by decide +kernel
theorem dX0_trusts_62 : decode cX0_trusts 62 = .ok (.getfield 18, 3) := by decide +kernel
theorem dX0_trusts_65 : decode cX0_trusts 65 = .ok (.iload_n 1, 1) := by decide +kernel
theorem dX0_trusts_66 : decode cX0_trusts 66 = .ok (.iaload, 1) := by decide +kernel
theorem dX0_trusts_67 : decode cX0_trusts 67 = .ok (.invokestatic 106, 3) := by decide +kernel
theorem dX0_trusts_70 : decode cX0_trusts 70 = .ok (.iload_n 2, 1) := by decide +kernel
theorem dX0_trusts_71 : decode cX0_trusts 71 = .ok (.aload_n 0, 1) := by decide +kernel
theorem dX0_trusts_72 : decode cX0_trusts 72 = .ok (.getfield 21, 3) := by decide +kernel
theorem dX0_trusts_75 : decode cX0_trusts 75 = .ok (.iload_n 1, 1) := by decide +kernel
theorem dX0_trusts_76 : decode cX0_trusts 76 = .ok (.iaload, 1) := by decide +kernel
theorem dX0_trusts_77 : decode cX0_trusts 77 = .ok (.invokevirtual 111, 3) := by decide +kernel
theorem dX0_trusts_80 : decode cX0_trusts 80 = .ok (.istore 4, 2) := by decide +kernel
theorem dX0_trusts_82 : decode cX0_trusts 82 = .ok (.iload 4, 2) := by decide +kernel
theorem dX0_trusts_84 : decode cX0_trusts 84 = .ok (.iconst 0, 1) := by decide +kernel
theorem dX0_trusts_85 : decode cX0_trusts 85 = .ok (.bipush 100, 2) := by decide +kernel
theorem dX0_trusts_87 : decode cX0_trusts 87 = .ok (.invokestatic 117, 3) := by decide +kernel
theorem dX0_trusts_90 : decode cX0_trusts 90 = .ok (.ireturn, 1) := by decide +kernel
theorem dX0_verdict_0 : decode cX0_verdict 0 = .ok (.aload_n 0, 1) := by decide +kernel
theorem dX0_verdict_1 : decode cX0_verdict 1 = .ok (.iload_n 1, 1) := by decide +kernel
theorem dX0_verdict_2 : decode cX0_verdict 2 = .ok (.invokevirtual 120, 3) := by decide +kernel
theorem dX0_verdict_5 : decode cX0_verdict 5 = .ok (.aload_n 0, 1) := by decide +kernel
theorem dX0_verdict_6 : decode cX0_verdict 6 = .ok (.getfield 33, 3) := by decide +kernel
theorem dX0_verdict_9 : decode cX0_verdict 9 = .ok (.if_icmp .lt 7, 3) := by decide +kernel
theorem dX0_verdict_12 : decode cX0_verdict 12 = .ok (.iconst 1, 1) := by decide +kernel
theorem dX0_verdict_13 : decode cX0_verdict 13 = .ok (.goto 4, 3) := by decide +kernel
theorem dX0_verdict_16 : decode cX0_verdict 16 = .ok (.iconst 0, 1) := by decide +kernel
theorem dX0_verdict_17 : decode cX0_verdict 17 = .ok (.ireturn, 1) := by decide +kernel
theorem dX0_votes_0 : decode cX0_votes 0 = .ok (.iconst 0, 1) := by decide +kernel
theorem dX0_votes_1 : decode cX0_votes 1 = .ok (.istore_n 1, 1) := by decide +kernel
theorem dX0_votes_2 : decode cX0_votes 2 = .ok (.iconst 0, 1) := by decide +kernel
theorem dX0_votes_3 : decode cX0_votes 3 = .ok (.istore_n 2, 1) := by decide +kernel
theorem dX0_votes_4 : decode cX0_votes 4 = .ok (.iload_n 2, 1) := by decide +kernel
theorem dX0_votes_5 : decode cX0_votes 5 = .ok (.aload_n 0, 1) := by decide +kernel
theorem dX0_votes_6 : decode cX0_votes 6 = .ok (.getfield 53, 3) := by decide +kernel
theorem dX0_votes_9 : decode cX0_votes 9 = .ok (.if_icmp .ge 24, 3) := by decide +kernel
theorem dX0_votes_12 : decode cX0_votes 12 = .ok (.aload_n 0, 1) := by decide +kernel
theorem dX0_votes_13 : decode cX0_votes 13 = .ok (.iload_n 2, 1) := by decide +kernel
theorem dX0_votes_14 : decode cX0_votes 14 = .ok (.invokevirtual 120, 3) := by decide +kernel
theorem dX0_votes_17 : decode cX0_votes 17 = .ok (.aload_n 0, 1) := by decide +kernel
theorem dX0_votes_18 : decode cX0_votes 18 = .ok (.getfield 33, 3) := by decide +kernel
theorem dX0_votes_21 : decode cX0_votes 21 = .ok (.if_icmp .lt 6, 3) := by decide +kernel
theorem dX0_votes_24 : decode cX0_votes 24 = .ok (.iinc 1 1, 3) := by decide +kernel
theorem dX0_votes_27 : decode cX0_votes 27 = .ok (.iinc 2 1, 3) := by decide +kernel
theorem dX0_votes_30 : decode cX0_votes 30 = .ok (.goto (-26), 3) := by decide +kernel
theorem dX0_votes_33 : decode cX0_votes 33 = .ok (.iload_n 1, 1) := by decide +kernel
theorem dX0_votes_34 : decode cX0_votes 34 = .ok (.ireturn, 1) := by decide +kernel
theorem dX0_common_0 : decode cX0_common 0 = .ok (.sipush 255, 3) := by decide +kernel
theorem dX0_common_3 : decode cX0_common 3 = .ok (.istore_n 1, 1) := by decide +kernel
theorem dX0_common_4 : decode cX0_common 4 = .ok (.iconst 0, 1) := by decide +kernel
theorem dX0_common_5 : decode cX0_common 5 = .ok (.istore_n 2, 1) := by decide +kernel
theorem dX0_common_6 : decode cX0_common 6 = .ok (.iload_n 2, 1) := by decide +kernel
theorem dX0_common_7 : decode cX0_common 7 = .ok (.aload_n 0, 1) := by decide +kernel
theorem dX0_common_8 : decode cX0_common 8 = .ok (.getfield 53, 3) := by decide +kernel
theorem dX0_common_11 : decode cX0_common 11 = .ok (.if_icmp .ge 18, 3) := by decide +kernel
theorem dX0_common_14 : decode cX0_common 14 = .ok (.iload_n 1, 1) := by decide +kernel
theorem dX0_common_15 : decode cX0_common 15 = .ok (.aload_n 0, 1) := by decide +kernel
theorem dX0_common_16 : decode cX0_common 16 = .ok (.getfield 18, 3) := by decide +kernel
theorem dX0_common_19 : decode cX0_common 19 = .ok (.iload_n 2, 1) := by decide +kernel
theorem dX0_common_20 : decode cX0_common 20 = .ok (.iaload, 1) := by decide +kernel
theorem dX0_common_21 : decode cX0_common 21 = .ok (.iand, 1) := by decide +kernel
theorem dX0_common_22 : decode cX0_common 22 = .ok (.istore_n 1, 1) := by decide +kernel
theorem dX0_common_23 : decode cX0_common 23 = .ok (.iinc 2 1, 3) := by decide +kernel
theorem dX0_common_26 : decode cX0_common 26 = .ok (.goto (-20), 3) := by decide +kernel
theorem dX0_common_29 : decode cX0_common 29 = .ok (.iload_n 1, 1) := by decide +kernel
theorem dX0_common_30 : decode cX0_common 30 = .ok (.ireturn, 1) := by decide +kernel
theorem dX0_any_0 : decode cX0_any 0 = .ok (.iconst 0, 1) := by decide +kernel
theorem dX0_any_1 : decode cX0_any 1 = .ok (.istore_n 1, 1) := by decide +kernel
theorem dX0_any_2 : decode cX0_any 2 = .ok (.iconst 0, 1) := by decide +kernel
theorem dX0_any_3 : decode cX0_any 3 = .ok (.istore_n 2, 1) := by decide +kernel
theorem dX0_any_4 : decode cX0_any 4 = .ok (.iload_n 2, 1) := by decide +kernel
theorem dX0_any_5 : decode cX0_any 5 = .ok (.aload_n 0, 1) := by decide +kernel
theorem dX0_any_6 : decode cX0_any 6 = .ok (.getfield 53, 3) := by decide +kernel
theorem dX0_any_9 : decode cX0_any 9 = .ok (.if_icmp .ge 18, 3) := by decide +kernel
theorem dX0_any_12 : decode cX0_any 12 = .ok (.iload_n 1, 1) := by decide +kernel
theorem dX0_any_13 : decode cX0_any 13 = .ok (.aload_n 0, 1) := by decide +kernel
theorem dX0_any_14 : decode cX0_any 14 = .ok (.getfield 18, 3) := by decide +kernel
theorem dX0_any_17 : decode cX0_any 17 = .ok (.iload_n 2, 1) := by decide +kernel
theorem dX0_any_18 : decode cX0_any 18 = .ok (.iaload, 1) := by decide +kernel
theorem dX0_any_19 : decode cX0_any 19 = .ok (.ior, 1) := by decide +kernel
theorem dX0_any_20 : decode cX0_any 20 = .ok (.istore_n 1, 1) := by decide +kernel
theorem dX0_any_21 : decode cX0_any 21 = .ok (.iinc 2 1, 3) := by decide +kernel
theorem dX0_any_24 : decode cX0_any 24 = .ok (.goto (-20), 3) := by decide +kernel
theorem dX0_any_27 : decode cX0_any 27 = .ok (.iload_n 1, 1) := by decide +kernel
theorem dX0_any_28 : decode cX0_any 28 = .ok (.ireturn, 1) := by decide +kernel
theorem dX0_known_0 : decode cX0_known 0 = .ok (.iconst 0, 1) := by decide +kernel
theorem dX0_known_1 : decode cX0_known 1 = .ok (.istore_n 1, 1) := by decide +kernel
theorem dX0_known_2 : decode cX0_known 2 = .ok (.iconst 0, 1) := by decide +kernel
theorem dX0_known_3 : decode cX0_known 3 = .ok (.istore_n 2, 1) := by decide +kernel
theorem dX0_known_4 : decode cX0_known 4 = .ok (.iload_n 2, 1) := by decide +kernel
theorem dX0_known_5 : decode cX0_known 5 = .ok (.aload_n 0, 1) := by decide +kernel
theorem dX0_known_6 : decode cX0_known 6 = .ok (.getfield 53, 3) := by decide +kernel
theorem dX0_known_9 : decode cX0_known 9 = .ok (.if_icmp .ge 21, 3) := by decide +kernel
theorem dX0_known_12 : decode cX0_known 12 = .ok (.iload_n 1, 1) := by decide +kernel
theorem dX0_known_13 : decode cX0_known 13 = .ok (.aload_n 0, 1) := by decide +kernel
theorem dX0_known_14 : decode cX0_known 14 = .ok (.getfield 18, 3) := by decide +kernel
theorem dX0_known_17 : decode cX0_known 17 = .ok (.iload_n 2, 1) := by decide +kernel
theorem dX0_known_18 : decode cX0_known 18 = .ok (.iaload, 1) := by decide +kernel
theorem dX0_known_19 : decode cX0_known 19 = .ok (.invokestatic 106, 3) := by decide +kernel
theorem dX0_known_22 : decode cX0_known 22 = .ok (.iadd, 1) := by decide +kernel
theorem dX0_known_23 : decode cX0_known 23 = .ok (.istore_n 1, 1) := by decide +kernel
theorem dX0_known_24 : decode cX0_known 24 = .ok (.iinc 2 1, 3) := by decide +kernel
theorem dX0_known_27 : decode cX0_known 27 = .ok (.goto (-23), 3) := by decide +kernel
theorem dX0_known_30 : decode cX0_known 30 = .ok (.iload_n 1, 1) := by decide +kernel
theorem dX0_known_31 : decode cX0_known 31 = .ok (.ireturn, 1) := by decide +kernel
theorem dX1_above_0 : decode cX1_above 0 = .ok (.iload_n 0, 1) := by decide +kernel
theorem dX1_above_1 : decode cX1_above 1 = .ok (.lookupswitch 31 #[(3, 27), (4, 29)], 27) := by decide +kernel
theorem dX1_above_28 : decode cX1_above 28 = .ok (.iconst 1, 1) := by decide +kernel
theorem dX1_above_29 : decode cX1_above 29 = .ok (.ireturn, 1) := by decide +kernel
theorem dX1_above_30 : decode cX1_above 30 = .ok (.iconst 2, 1) := by decide +kernel
theorem dX1_above_31 : decode cX1_above 31 = .ok (.ireturn, 1) := by decide +kernel
theorem dX1_above_32 : decode cX1_above 32 = .ok (.iconst 0, 1) := by decide +kernel
theorem dX1_above_33 : decode cX1_above 33 = .ok (.ireturn, 1) := by decide +kernel
theorem dX1_isOf_0 : decode cX1_isOf 0 = .ok (.iload_n 0, 1) := by decide +kernel
theorem dX1_isOf_1 : decode cX1_isOf 1 = .ok (.iload_n 1, 1) := by decide +kernel
theorem dX1_isOf_2 : decode cX1_isOf 2 = .ok (.if_icmp .eq 15, 3) := by decide +kernel
theorem dX1_isOf_5 : decode cX1_isOf 5 = .ok (.iload_n 0, 1) := by decide +kernel
theorem dX1_isOf_6 : decode cX1_isOf 6 = .ok (.invokestatic 9, 3) := by decide +kernel
theorem dX1_isOf_9 : decode cX1_isOf 9 = .ok (.iload_n 1, 1) := by decide +kernel
theorem dX1_isOf_10 : decode cX1_isOf 10 = .ok (.if_icmp .eq 7, 3) := by decide +kernel
theorem dX1_isOf_13 : decode cX1_isOf 13 = .ok (.iload_n 1, 1) := by decide +kernel
theorem dX1_isOf_14 : decode cX1_isOf 14 = .ok (.ifCond .ne 7, 3) := by decide +kernel
theorem dX1_isOf_17 : decode cX1_isOf 17 = .ok (.iconst 1, 1) := by decide +kernel
theorem dX1_isOf_18 : decode cX1_isOf 18 = .ok (.goto 4, 3) := by decide +kernel
theorem dX1_isOf_21 : decode cX1_isOf 21 = .ok (.iconst 0, 1) := by decide +kernel
theorem dX1_isOf_22 : decode cX1_isOf 22 = .ok (.ireturn, 1) := by decide +kernel
theorem dX1_worth_0 : decode cX1_worth 0 = .ok (.iload_n 0, 1) := by decide +kernel
theorem dX1_worth_1 : decode cX1_worth 1 = .ok (.tableswitch 62 1 5 #[35, 47, 40, 52, 60], 35) := by decide +kernel
theorem dX1_worth_36 : decode cX1_worth 36 = .ok (.iload_n 1, 1) := by decide +kernel
theorem dX1_worth_37 : decode cX1_worth 37 = .ok (.invokestatic 15, 3) := by decide +kernel
theorem dX1_worth_40 : decode cX1_worth 40 = .ok (.ireturn, 1) := by decide +kernel
theorem dX1_worth_41 : decode cX1_worth 41 = .ok (.iconst 2, 1) := by decide +kernel
theorem dX1_worth_42 : decode cX1_worth 42 = .ok (.iload_n 1, 1) := by decide +kernel
theorem dX1_worth_43 : decode cX1_worth 43 = .ok (.invokestatic 15, 3) := by decide +kernel
theorem dX1_worth_46 : decode cX1_worth 46 = .ok (.imul, 1) := by decide +kernel
theorem dX1_worth_47 : decode cX1_worth 47 = .ok (.ireturn, 1) := by decide +kernel
theorem dX1_worth_48 : decode cX1_worth 48 = .ok (.iload_n 1, 1) := by decide +kernel
theorem dX1_worth_49 : decode cX1_worth 49 = .ok (.invokestatic 18, 3) := by decide +kernel
theorem dX1_worth_52 : decode cX1_worth 52 = .ok (.ireturn, 1) := by decide +kernel
theorem dX1_worth_53 : decode cX1_worth 53 = .ok (.iload_n 1, 1) := by decide +kernel
theorem dX1_worth_54 : decode cX1_worth 54 = .ok (.invokestatic 18, 3) := by decide +kernel
theorem dX1_worth_57 : decode cX1_worth 57 = .ok (.bipush 7, 2) := by decide +kernel
theorem dX1_worth_59 : decode cX1_worth 59 = .ok (.isub, 1) := by decide +kernel
theorem dX1_worth_60 : decode cX1_worth 60 = .ok (.ireturn, 1) := by decide +kernel
theorem dX1_worth_61 : decode cX1_worth 61 = .ok (.iconst 2, 1) := by decide +kernel
theorem dX1_worth_62 : decode cX1_worth 62 = .ok (.ireturn, 1) := by decide +kernel
theorem dX1_worth_63 : decode cX1_worth 63 = .ok (.iload_n 1, 1) := by decide +kernel
theorem dX1_worth_64 : decode cX1_worth 64 = .ok (.ireturn, 1) := by decide +kernel
theorem dX1_doubtingWorth_0 : decode cX1_doubtingWorth 0 = .ok (.iload_n 0, 1) := by decide +kernel
theorem dX1_doubtingWorth_1 : decode cX1_doubtingWorth 1 = .ok (.iconst 5, 1) := by decide +kernel
theorem dX1_doubtingWorth_2 : decode cX1_doubtingWorth 2 = .ok (.iadd, 1) := by decide +kernel
theorem dX1_doubtingWorth_3 : decode cX1_doubtingWorth 3 = .ok (.ireturn, 1) := by decide +kernel
theorem dX1_swayedWorth_0 : decode cX1_swayedWorth 0 = .ok (.bipush 99, 2) := by decide +kernel
theorem dX1_swayedWorth_2 : decode cX1_swayedWorth 2 = .ok (.iload_n 0, 1) := by decide +kernel
theorem dX1_swayedWorth_3 : decode cX1_swayedWorth 3 = .ok (.isub, 1) := by decide +kernel
theorem dX1_swayedWorth_4 : decode cX1_swayedWorth 4 = .ok (.ireturn, 1) := by decide +kernel
theorem dX1_belief_0 : decode cX1_belief 0 = .ok (.iload_n 0, 1) := by decide +kernel
theorem dX1_belief_1 : decode cX1_belief 1 = .ok (.tableswitch 61 1 4 #[31, 48, 37, 53], 31) := by decide +kernel
theorem dX1_belief_32 : decode cX1_belief 32 = .ok (.iload_n 1, 1) := by decide +kernel
theorem dX1_belief_33 : decode cX1_belief 33 = .ok (.iload_n 2, 1) := by decide +kernel
theorem dX1_belief_34 : decode cX1_belief 34 = .ok (.invokestatic 21, 3) := by decide +kernel
theorem dX1_belief_37 : decode cX1_belief 37 = .ok (.ireturn, 1) := by decide +kernel
theorem dX1_belief_38 : decode cX1_belief 38 = .ok (.iload_n 1, 1) := by decide +kernel
theorem dX1_belief_39 : decode cX1_belief 39 = .ok (.iload_n 2, 1) := by decide +kernel
theorem dX1_belief_40 : decode cX1_belief 40 = .ok (.invokestatic 21, 3) := by decide +kernel
theorem dX1_belief_43 : decode cX1_belief 43 = .ok (.bipush 50, 2) := by decide +kernel
theorem dX1_belief_45 : decode cX1_belief 45 = .ok (.iadd, 1) := by decide +kernel
theorem dX1_belief_46 : decode cX1_belief 46 = .ok (.iconst 2, 1) := by decide +kernel
theorem dX1_belief_47 : decode cX1_belief 47 = .ok (.idiv, 1) := by decide +kernel
theorem dX1_belief_48 : decode cX1_belief 48 = .ok (.ireturn, 1) := by decide +kernel
theorem dX1_belief_49 : decode cX1_belief 49 = .ok (.iload_n 1, 1) := by decide +kernel
theorem dX1_belief_50 : decode cX1_belief 50 = .ok (.invokestatic 25, 3) := by decide +kernel
theorem dX1_belief_53 : decode cX1_belief 53 = .ok (.ireturn, 1) := by decide +kernel
theorem dX1_belief_54 : decode cX1_belief 54 = .ok (.bipush 100, 2) := by decide +kernel
theorem dX1_belief_56 : decode cX1_belief 56 = .ok (.iload_n 1, 1) := by decide +kernel
theorem dX1_belief_57 : decode cX1_belief 57 = .ok (.invokestatic 25, 3) := by decide +kernel
theorem dX1_belief_60 : decode cX1_belief 60 = .ok (.isub, 1) := by decide +kernel
theorem dX1_belief_61 : decode cX1_belief 61 = .ok (.ireturn, 1) := by decide +kernel
theorem dX1_belief_62 : decode cX1_belief 62 = .ok (.iload_n 1, 1) := by decide +kernel
theorem dX1_belief_63 : decode cX1_belief 63 = .ok (.ireturn, 1) := by decide +kernel
theorem dX1_doubtingBelief_0 : decode cX1_doubtingBelief 0 = .ok (.iconst 0, 1) := by decide +kernel
theorem dX1_doubtingBelief_1 : decode cX1_doubtingBelief 1 = .ok (.iload_n 0, 1) := by decide +kernel
theorem dX1_doubtingBelief_2 : decode cX1_doubtingBelief 2 = .ok (.iload_n 1, 1) := by decide +kernel
theorem dX1_doubtingBelief_3 : decode cX1_doubtingBelief 3 = .ok (.isub, 1) := by decide +kernel
theorem dX1_doubtingBelief_4 : decode cX1_doubtingBelief 4 = .ok (.invokestatic 28, 3) := by decide +kernel
theorem dX1_doubtingBelief_7 : decode cX1_doubtingBelief 7 = .ok (.ireturn, 1) := by decide +kernel
theorem dX1_swayedBelief_0 : decode cX1_swayedBelief 0 = .ok (.iload_n 0, 1) := by decide +kernel
theorem dX1_swayedBelief_1 : decode cX1_swayedBelief 1 = .ok (.bipush 50, 2) := by decide +kernel
theorem dX1_swayedBelief_3 : decode cX1_swayedBelief 3 = .ok (.if_icmp .le 8, 3) := by decide +kernel
theorem dX1_swayedBelief_6 : decode cX1_swayedBelief 6 = .ok (.bipush 10, 2) := by decide +kernel
theorem dX1_swayedBelief_8 : decode cX1_swayedBelief 8 = .ok (.goto 15, 3) := by decide +kernel
theorem dX1_swayedBelief_11 : decode cX1_swayedBelief 11 = .ok (.iload_n 0, 1) := by decide +kernel
theorem dX1_swayedBelief_12 : decode cX1_swayedBelief 12 = .ok (.bipush 50, 2) := by decide +kernel
theorem dX1_swayedBelief_14 : decode cX1_swayedBelief 14 = .ok (.if_icmp .ge 8, 3) := by decide +kernel
theorem dX1_swayedBelief_17 : decode cX1_swayedBelief 17 = .ok (.bipush (-10), 2) := by decide +kernel
theorem dX1_swayedBelief_19 : decode cX1_swayedBelief 19 = .ok (.goto 4, 3) := by decide +kernel
theorem dX1_swayedBelief_22 : decode cX1_swayedBelief 22 = .ok (.iconst 0, 1) := by decide +kernel
theorem dX1_swayedBelief_23 : decode cX1_swayedBelief 23 = .ok (.istore_n 1, 1) := by decide +kernel
theorem dX1_swayedBelief_24 : decode cX1_swayedBelief 24 = .ok (.iload_n 0, 1) := by decide +kernel
theorem dX1_swayedBelief_25 : decode cX1_swayedBelief 25 = .ok (.iload_n 1, 1) := by decide +kernel
theorem dX1_swayedBelief_26 : decode cX1_swayedBelief 26 = .ok (.iadd, 1) := by decide +kernel
theorem dX1_swayedBelief_27 : decode cX1_swayedBelief 27 = .ok (.iconst 0, 1) := by decide +kernel
theorem dX1_swayedBelief_28 : decode cX1_swayedBelief 28 = .ok (.bipush 100, 2) := by decide +kernel
theorem dX1_swayedBelief_30 : decode cX1_swayedBelief 30 = .ok (.invokestatic 33, 3) := by decide +kernel
theorem dX1_swayedBelief_33 : decode cX1_swayedBelief 33 = .ok (.ireturn, 1) := by decide +kernel
theorem dX1_passes_0 : decode cX1_passes 0 = .ok (.aload_n 0, 1) := by decide +kernel
theorem dX1_passes_1 : decode cX1_passes 1 = .ok (.getfield 37, 3) := by decide +kernel
theorem dX1_passes_4 : decode cX1_passes 4 = .ok (.iload_n 1, 1) := by decide +kernel
theorem dX1_passes_5 : decode cX1_passes 5 = .ok (.iaload, 1) := by decide +kernel
theorem dX1_passes_6 : decode cX1_passes 6 = .ok (.aload_n 0, 1) := by decide +kernel
theorem dX1_passes_7 : decode cX1_passes 7 = .ok (.getfield 37, 3) := by decide +kernel
theorem dX1_passes_10 : decode cX1_passes 10 = .ok (.iload_n 2, 1) := by decide +kernel
theorem dX1_passes_11 : decode cX1_passes 11 = .ok (.iaload, 1) := by decide +kernel
theorem dX1_passes_12 : decode cX1_passes 12 = .ok (.iconst (-1), 1) := by decide +kernel
theorem dX1_passes_13 : decode cX1_passes 13 = .ok (.ixor, 1) := by decide +kernel
theorem dX1_passes_14 : decode cX1_passes 14 = .ok (.iand, 1) := by decide +kernel
theorem dX1_passes_15 : decode cX1_passes 15 = .ok (.istore_n 3, 1) := by decide +kernel
theorem dX1_passes_16 : decode cX1_passes 16 = .ok (.aload_n 0, 1) := by decide +kernel
theorem dX1_passes_17 : decode cX1_passes 17 = .ok (.getfield 43, 3) := by decide +kernel
theorem dX1_passes_20 : decode cX1_passes 20 = .ok (.iload_n 1, 1) := by decide +kernel
theorem dX1_passes_21 : decode cX1_passes 21 = .ok (.iaload, 1) := by decide +kernel
theorem dX1_passes_22 : decode cX1_passes 22 = .ok (.tableswitch 51 1 5 #[34, 39, 34, 39, 49], 34) := by decide +kernel
theorem dX1_passes_56 : decode cX1_passes 56 = .ok (.iload_n 3, 1) := by decide +kernel
theorem dX1_passes_57 : decode cX1_passes 57 = .ok (.invokestatic 46, 3) := by decide +kernel
theorem dX1_passes_60 : decode cX1_passes 60 = .ok (.ireturn, 1) := by decide +kernel
theorem dX1_passes_61 : decode cX1_passes 61 = .ok (.iload_n 3, 1) := by decide +kernel
theorem dX1_passes_62 : decode cX1_passes 62 = .ok (.aload_n 0, 1) := by decide +kernel
theorem dX1_passes_63 : decode cX1_passes 63 = .ok (.invokevirtual 49, 3) := by decide +kernel
theorem dX1_passes_66 : decode cX1_passes 66 = .ok (.iand, 1) := by decide +kernel
theorem dX1_passes_67 : decode cX1_passes 67 = .ok (.invokestatic 53, 3) := by decide +kernel
theorem dX1_passes_70 : decode cX1_passes 70 = .ok (.ireturn, 1) := by decide +kernel
theorem dX1_passes_71 : decode cX1_passes 71 = .ok (.iconst 0, 1) := by decide +kernel
theorem dX1_passes_72 : decode cX1_passes 72 = .ok (.ireturn, 1) := by decide +kernel
theorem dX1_passes_73 : decode cX1_passes 73 = .ok (.iload_n 3, 1) := by decide +kernel
theorem dX1_passes_74 : decode cX1_passes 74 = .ok (.invokestatic 53, 3) := by decide +kernel
theorem dX1_passes_77 : decode cX1_passes 77 = .ok (.ireturn, 1) := by decide +kernel
theorem dX1_least_0 : decode cX1_least 0 = .ok (.iload_n 0, 1) := by decide +kernel
theorem dX1_least_1 : decode cX1_least 1 = .ok (.iload_n 0, 1) := by decide +kernel
theorem dX1_least_2 : decode cX1_least 2 = .ok (.ineg, 1) := by decide +kernel
theorem dX1_least_3 : decode cX1_least 3 = .ok (.iand, 1) := by decide +kernel
theorem dX1_least_4 : decode cX1_least 4 = .ok (.ireturn, 1) := by decide +kernel
theorem dX1_greatest_0 : decode cX1_greatest 0 = .ok (.bipush 7, 2) := by decide +kernel
theorem dX1_greatest_2 : decode cX1_greatest 2 = .ok (.istore_n 1, 1) := by decide +kernel
theorem dX1_greatest_3 : decode cX1_greatest 3 = .ok (.iload_n 1, 1) := by decide +kernel
theorem dX1_greatest_4 : decode cX1_greatest 4 = .ok (.ifCond .lt 21, 3) := by decide +kernel
theorem dX1_greatest_7 : decode cX1_greatest 7 = .ok (.iload_n 0, 1) := by decide +kernel
theorem dX1_greatest_8 : decode cX1_greatest 8 = .ok (.iload_n 1, 1) := by decide +kernel
theorem dX1_greatest_9 : decode cX1_greatest 9 = .ok (.ishr, 1) := by decide +kernel
theorem dX1_greatest_10 : decode cX1_greatest 10 = .ok (.iconst 1, 1) := by decide +kernel
theorem dX1_greatest_11 : decode cX1_greatest 11 = .ok (.iand, 1) := by decide +kernel
theorem dX1_greatest_12 : decode cX1_greatest 12 = .ok (.ifCond .eq 7, 3) := by decide +kernel
theorem dX1_greatest_15 : decode cX1_greatest 15 = .ok (.iconst 1, 1) := by decide +kernel
theorem dX1_greatest_16 : decode cX1_greatest 16 = .ok (.iload_n 1, 1) := by decide +kernel
theorem dX1_greatest_17 : decode cX1_greatest 17 = .ok (.ishl, 1) := by decide +kernel
theorem dX1_greatest_18 : decode cX1_greatest 18 = .ok (.ireturn, 1) := by decide +kernel
theorem dX1_greatest_19 : decode cX1_greatest 19 = .ok (.iinc 1 (-1), 3) := by decide +kernel
theorem dX1_greatest_22 : decode cX1_greatest 22 = .ok (.goto (-19), 3) := by decide +kernel
theorem dX1_greatest_25 : decode cX1_greatest 25 = .ok (.iconst 0, 1) := by decide +kernel
theorem dX1_greatest_26 : decode cX1_greatest 26 = .ok (.ireturn, 1) := by decide +kernel
theorem dX2_init_0 : decode cX2_init 0 = .ok (.aload_n 0, 1) := by decide +kernel
theorem dX2_init_1 : decode cX2_init 1 = .ok (.invokespecial 3, 3) := by decide +kernel
theorem dX2_init_4 : decode cX2_init 4 = .ok (.aload_n 0, 1) := by decide +kernel
theorem dX2_init_5 : decode cX2_init 5 = .ok (.bipush 96, 2) := by decide +kernel
theorem dX2_init_7 : decode cX2_init 7 = .ok (.newarray .int, 2) := by decide +kernel
theorem dX2_init_9 : decode cX2_init 9 = .ok (.putfield 9, 3) := by decide +kernel
theorem dX2_init_12 : decode cX2_init 12 = .ok (.return_, 1) := by decide +kernel
theorem dX2_begin_0 : decode cX2_begin 0 = .ok (.aload_n 0, 1) := by decide +kernel
theorem dX2_begin_1 : decode cX2_begin 1 = .ok (.iload_n 1, 1) := by decide +kernel
theorem dX2_begin_2 : decode cX2_begin 2 = .ok (.putfield 15, 3) := by decide +kernel
theorem dX2_begin_5 : decode cX2_begin 5 = .ok (.aload_n 0, 1) := by decide +kernel
theorem dX2_begin_6 : decode cX2_begin 6 = .ok (.iconst 0, 1) := by decide +kernel
theorem dX2_begin_7 : decode cX2_begin 7 = .ok (.putfield 19, 3) := by decide +kernel
theorem dX2_begin_10 : decode cX2_begin 10 = .ok (.aload_n 0, 1) := by decide +kernel
theorem dX2_begin_11 : decode cX2_begin 11 = .ok (.iconst 0, 1) := by decide +kernel
theorem dX2_begin_12 : decode cX2_begin 12 = .ok (.putfield 22, 3) := by decide +kernel
theorem dX2_begin_15 : decode cX2_begin 15 = .ok (.return_, 1) := by decide +kernel
theorem dX2_become_0 : decode cX2_become 0 = .ok (.aload_n 0, 1) := by decide +kernel
theorem dX2_become_1 : decode cX2_become 1 = .ok (.aload_n 1, 1) := by decide +kernel
theorem dX2_become_2 : decode cX2_become 2 = .ok (.getfield 15, 3) := by decide +kernel
theorem dX2_become_5 : decode cX2_become 5 = .ok (.putfield 15, 3) := by decide +kernel
theorem dX2_become_8 : decode cX2_become 8 = .ok (.aload_n 0, 1) := by decide +kernel
theorem dX2_become_9 : decode cX2_become 9 = .ok (.aload_n 1, 1) := by decide +kernel
theorem dX2_become_10 : decode cX2_become 10 = .ok (.getfield 19, 3) := by decide +kernel
theorem dX2_become_13 : decode cX2_become 13 = .ok (.putfield 19, 3) := by decide +kernel
theorem dX2_become_16 : decode cX2_become 16 = .ok (.aload_n 0, 1) := by decide +kernel
theorem dX2_become_17 : decode cX2_become 17 = .ok (.aload_n 1, 1) := by decide +kernel
theorem dX2_become_18 : decode cX2_become 18 = .ok (.getfield 22, 3) := by decide +kernel
theorem dX2_become_21 : decode cX2_become 21 = .ok (.putfield 22, 3) := by decide +kernel
theorem dX2_become_24 : decode cX2_become 24 = .ok (.aload_n 1, 1) := by decide +kernel
theorem dX2_become_25 : decode cX2_become 25 = .ok (.getfield 9, 3) := by decide +kernel
theorem dX2_become_28 : decode cX2_become 28 = .ok (.iconst 0, 1) := by decide +kernel
theorem dX2_become_29 : decode cX2_become 29 = .ok (.aload_n 0, 1) := by decide +kernel
theorem dX2_become_30 : decode cX2_become 30 = .ok (.getfield 9, 3) := by decide +kernel
theorem dX2_become_33 : decode cX2_become 33 = .ok (.iconst 0, 1) := by decide +kernel
theorem dX2_become_34 : decode cX2_become 34 = .ok (.bipush 96, 2) := by decide +kernel
theorem dX2_become_36 : decode cX2_become 36 = .ok (.invokestatic 25, 3) := by decide +kernel
theorem dX2_become_39 : decode cX2_become 39 = .ok (.return_, 1) := by decide +kernel
theorem dX2_addNumber_0 : decode cX2_addNumber 0 = .ok (.aload_n 0, 1) := by decide +kernel
theorem dX2_addNumber_1 : decode cX2_addNumber 1 = .ok (.dup, 1) := by decide +kernel
theorem dX2_addNumber_2 : decode cX2_addNumber 2 = .ok (.getfield 19, 3) := by decide +kernel
theorem dX2_addNumber_5 : decode cX2_addNumber 5 = .ok (.iconst 1, 1) := by decide +kernel
theorem dX2_addNumber_6 : decode cX2_addNumber 6 = .ok (.iadd, 1) := by decide +kernel
theorem dX2_addNumber_7 : decode cX2_addNumber 7 = .ok (.putfield 19, 3) := by decide +kernel
theorem dX2_addNumber_10 : decode cX2_addNumber 10 = .ok (.aload_n 0, 1) := by decide +kernel
theorem dX2_addNumber_11 : decode cX2_addNumber 11 = .ok (.iload_n 1, 1) := by decide +kernel
theorem dX2_addNumber_12 : decode cX2_addNumber 12 = .ok (.invokevirtual 31, 3) := by decide +kernel
theorem dX2_addNumber_15 : decode cX2_addNumber 15 = .ok (.return_, 1) := by decide +kernel
theorem dX2_addName_0 : decode cX2_addName 0 = .ok (.aload_n 0, 1) := by decide +kernel
theorem dX2_addName_1 : decode cX2_addName 1 = .ok (.dup, 1) := by decide +kernel
theorem dX2_addName_2 : decode cX2_addName 2 = .ok (.getfield 19, 3) := by decide +kernel
theorem dX2_addName_5 : decode cX2_addName 5 = .ok (.iconst 1, 1) := by decide +kernel
theorem dX2_addName_6 : decode cX2_addName 6 = .ok (.iadd, 1) := by decide +kernel
theorem dX2_addName_7 : decode cX2_addName 7 = .ok (.putfield 19, 3) := by decide +kernel
theorem dX2_addName_10 : decode cX2_addName 10 = .ok (.aload_n 0, 1) := by decide +kernel
theorem dX2_addName_11 : decode cX2_addName 11 = .ok (.iconst (-1), 1) := by decide +kernel
theorem dX2_addName_12 : decode cX2_addName 12 = .ok (.iload_n 1, 1) := by decide +kernel
theorem dX2_addName_13 : decode cX2_addName 13 = .ok (.isub, 1) := by decide +kernel
theorem dX2_addName_14 : decode cX2_addName 14 = .ok (.invokevirtual 31, 3) := by decide +kernel
theorem dX2_addName_17 : decode cX2_addName 17 = .ok (.return_, 1) := by decide +kernel
theorem dX2_addSign_0 : decode cX2_addSign 0 = .ok (.aload_n 0, 1) := by decide +kernel
theorem dX2_addSign_1 : decode cX2_addSign 1 = .ok (.iload_n 1, 1) := by decide +kernel
theorem dX2_addSign_2 : decode cX2_addSign 2 = .ok (.ineg, 1) := by decide +kernel
theorem dX2_addSign_3 : decode cX2_addSign 3 = .ok (.invokevirtual 31, 3) := by decide +kernel
theorem dX2_addSign_6 : decode cX2_addSign 6 = .ok (.return_, 1) := by decide +kernel
theorem dX2_add_0 : decode cX2_add 0 = .ok (.aload_n 0, 1) := by decide +kernel
theorem dX2_add_1 : decode cX2_add 1 = .ok (.getfield 22, 3) := by decide +kernel
theorem dX2_add_4 : decode cX2_add 4 = .ok (.bipush 96, 2) := by decide +kernel
theorem dX2_add_6 : decode cX2_add 6 = .ok (.if_icmp .ge 23, 3) := by decide +kernel
theorem dX2_add_9 : decode cX2_add 9 = .ok (.aload_n 0, 1) := by decide +kernel
theorem dX2_add_10 : decode cX2_add 10 = .ok (.getfield 9, 3) := by decide +kernel
theorem dX2_add_13 : decode cX2_add 13 = .ok (.aload_n 0, 1) := by decide +kernel
theorem dX2_add_14 : decode cX2_add 14 = .ok (.getfield 22, 3) := by decide +kernel
theorem dX2_add_17 : decode cX2_add 17 = .ok (.iload_n 1, 1) := by decide +kernel
theorem dX2_add_18 : decode cX2_add 18 = .ok (.iastore, 1) := by decide +kernel
theorem dX2_add_19 : decode cX2_add 19 = .ok (.aload_n 0, 1) := by decide +kernel
theorem dX2_add_20 : decode cX2_add 20 = .ok (.dup, 1) := by decide +kernel
theorem dX2_add_21 : decode cX2_add 21 = .ok (.getfield 22, 3) := by decide +kernel
theorem dX2_add_24 : decode cX2_add 24 = .ok (.iconst 1, 1) := by decide +kernel
theorem dX2_add_25 : decode cX2_add 25 = .ok (.iadd, 1) := by decide +kernel
theorem dX2_add_26 : decode cX2_add 26 = .ok (.putfield 22, 3) := by decide +kernel
theorem dX2_add_29 : decode cX2_add 29 = .ok (.return_, 1) := by decide +kernel
theorem dX2_work_0 : decode cX2_work 0 = .ok (.iconst 0, 1) := by decide +kernel
theorem dX2_work_1 : decode cX2_work 1 = .ok (.istore 5, 2) := by decide +kernel
theorem dX2_work_3 : decode cX2_work 3 = .ok (.iconst 0, 1) := by decide +kernel
theorem dX2_work_4 : decode cX2_work 4 = .ok (.istore 6, 2) := by decide +kernel
theorem dX2_work_6 : decode cX2_work 6 = .ok (.iload 6, 2) := by decide +kernel
theorem dX2_work_8 : decode cX2_work 8 = .ok (.aload_n 0, 1) := by decide +kernel
theorem dX2_work_9 : decode cX2_work 9 = .ok (.getfield 22, 3) := by decide +kernel
theorem dX2_work_12 : decode cX2_work 12 = .ok (.if_icmp .ge 134, 3) := by decide +kernel
theorem dX2_work_15 : decode cX2_work 15 = .ok (.aload_n 0, 1) := by decide +kernel
theorem dX2_work_16 : decode cX2_work 16 = .ok (.getfield 9, 3) := by decide +kernel
theorem dX2_work_19 : decode cX2_work 19 = .ok (.iload 6, 2) := by decide +kernel
theorem dX2_work_21 : decode cX2_work 21 = .ok (.iaload, 1) := by decide +kernel
theorem dX2_work_22 : decode cX2_work 22 = .ok (.istore 7, 2) := by decide +kernel
theorem dX2_work_24 : decode cX2_work 24 = .ok (.iload 7, 2) := by decide +kernel
theorem dX2_work_26 : decode cX2_work 26 = .ok (.bipush (-3), 2) := by decide +kernel
theorem dX2_work_28 : decode cX2_work 28 = .ok (.if_icmp .lt 41, 3) := by decide +kernel
theorem dX2_work_31 : decode cX2_work 31 = .ok (.iload 5, 2) := by decide +kernel
theorem dX2_work_33 : decode cX2_work 33 = .ok (.aload_n 1, 1) := by decide +kernel
theorem dX2_work_34 : decode cX2_work 34 = .ok (.arraylength, 1) := by decide +kernel
theorem dX2_work_35 : decode cX2_work 35 = .ok (.if_icmp .lt 5, 3) := by decide +kernel
theorem dX2_work_38 : decode cX2_work 38 = .ok (.iconst 0, 1) := by decide +kernel
theorem dX2_work_39 : decode cX2_work 39 = .ok (.ireturn, 1) := by decide +kernel
theorem dX2_work_40 : decode cX2_work 40 = .ok (.aload_n 1, 1) := by decide +kernel
theorem dX2_work_41 : decode cX2_work 41 = .ok (.iload 5, 2) := by decide +kernel
theorem dX2_work_43 : decode cX2_work 43 = .ok (.iload 7, 2) := by decide +kernel
theorem dX2_work_45 : decode cX2_work 45 = .ok (.ifCond .lt 8, 3) := by decide +kernel
theorem dX2_work_48 : decode cX2_work 48 = .ok (.iload 7, 2) := by decide +kernel
theorem dX2_work_50 : decode cX2_work 50 = .ok (.goto 12, 3) := by decide +kernel
theorem dX2_work_53 : decode cX2_work 53 = .ok (.iload 7, 2) := by decide +kernel
theorem dX2_work_55 : decode cX2_work 55 = .ok (.iload_n 2, 1) := by decide +kernel
theorem dX2_work_56 : decode cX2_work 56 = .ok (.iload_n 3, 1) := by decide +kernel
theorem dX2_work_57 : decode cX2_work 57 = .ok (.iload 4, 2) := by decide +kernel
theorem dX2_work_59 : decode cX2_work 59 = .ok (.invokestatic 35, 3) := by decide +kernel
theorem dX2_work_62 : decode cX2_work 62 = .ok (.iastore, 1) := by decide +kernel
theorem dX2_work_63 : decode cX2_work 63 = .ok (.iinc 5 1, 3) := by decide +kernel
theorem dX2_work_66 : decode cX2_work 66 = .ok (.goto 74, 3) := by decide +kernel
theorem dX2_work_69 : decode cX2_work 69 = .ok (.iload 7, 2) := by decide +kernel
theorem dX2_work_71 : decode cX2_work 71 = .ok (.bipush (-33), 2) := by decide +kernel
theorem dX2_work_73 : decode cX2_work 73 = .ok (.if_icmp .ne 34, 3) := by decide +kernel
theorem dX2_work_76 : decode cX2_work 76 = .ok (.iload 5, 2) := by decide +kernel
theorem dX2_work_78 : decode cX2_work 78 = .ok (.iconst 1, 1) := by decide +kernel
theorem dX2_work_79 : decode cX2_work 79 = .ok (.if_icmp .ge 5, 3) := by decide +kernel
theorem dX2_work_82 : decode cX2_work 82 = .ok (.iconst 0, 1) := by decide +kernel
theorem dX2_work_83 : decode cX2_work 83 = .ok (.ireturn, 1) := by decide +kernel
theorem dX2_work_84 : decode cX2_work 84 = .ok (.aload_n 1, 1) := by decide +kernel
theorem dX2_work_85 : decode cX2_work 85 = .ok (.iload 5, 2) := by decide +kernel
theorem dX2_work_87 : decode cX2_work 87 = .ok (.iconst 1, 1) := by decide +kernel
theorem dX2_work_88 : decode cX2_work 88 = .ok (.isub, 1) := by decide +kernel
theorem dX2_work_89 : decode cX2_work 89 = .ok (.aload_n 1, 1) := by decide +kernel
theorem dX2_work_90 : decode cX2_work 90 = .ok (.iload 5, 2) := by decide +kernel
theorem dX2_work_92 : decode cX2_work 92 = .ok (.iconst 1, 1) := by decide +kernel
theorem dX2_work_93 : decode cX2_work 93 = .ok (.isub, 1) := by decide +kernel
theorem dX2_work_94 : decode cX2_work 94 = .ok (.iaload, 1) := by decide +kernel
theorem dX2_work_95 : decode cX2_work 95 = .ok (.ifCond .ne 7, 3) := by decide +kernel
theorem dX2_work_98 : decode cX2_work 98 = .ok (.iconst 1, 1) := by decide +kernel
theorem dX2_work_99 : decode cX2_work 99 = .ok (.goto 4, 3) := by decide +kernel
theorem dX2_work_102 : decode cX2_work 102 = .ok (.iconst 0, 1) := by decide +kernel
theorem dX2_work_103 : decode cX2_work 103 = .ok (.iastore, 1) := by decide +kernel
theorem dX2_work_104 : decode cX2_work 104 = .ok (.goto 36, 3) := by decide +kernel
theorem dX2_work_107 : decode cX2_work 107 = .ok (.iload 5, 2) := by decide +kernel
theorem dX2_work_109 : decode cX2_work 109 = .ok (.iconst 2, 1) := by decide +kernel
theorem dX2_work_110 : decode cX2_work 110 = .ok (.if_icmp .ge 5, 3) := by decide +kernel
theorem dX2_work_113 : decode cX2_work 113 = .ok (.iconst 0, 1) := by decide +kernel
theorem dX2_work_114 : decode cX2_work 114 = .ok (.ireturn, 1) := by decide +kernel
theorem dX2_work_115 : decode cX2_work 115 = .ok (.iinc 5 (-1), 3) := by decide +kernel
theorem dX2_work_118 : decode cX2_work 118 = .ok (.aload_n 1, 1) := by decide +kernel
theorem dX2_work_119 : decode cX2_work 119 = .ok (.iload 5, 2) := by decide +kernel
theorem dX2_work_121 : decode cX2_work 121 = .ok (.iconst 1, 1) := by decide +kernel
theorem dX2_work_122 : decode cX2_work 122 = .ok (.isub, 1) := by decide +kernel
theorem dX2_work_123 : decode cX2_work 123 = .ok (.iload 7, 2) := by decide +kernel
theorem dX2_work_125 : decode cX2_work 125 = .ok (.ineg, 1) := by decide +kernel
theorem dX2_work_126 : decode cX2_work 126 = .ok (.aload_n 1, 1) := by decide +kernel
theorem dX2_work_127 : decode cX2_work 127 = .ok (.iload 5, 2) := by decide +kernel
theorem dX2_work_129 : decode cX2_work 129 = .ok (.iconst 1, 1) := by decide +kernel
theorem dX2_work_130 : decode cX2_work 130 = .ok (.isub, 1) := by decide +kernel
theorem dX2_work_131 : decode cX2_work 131 = .ok (.iaload, 1) := by decide +kernel
theorem dX2_work_132 : decode cX2_work 132 = .ok (.aload_n 1, 1) := by decide +kernel
theorem dX2_work_133 : decode cX2_work 133 = .ok (.iload 5, 2) := by decide +kernel
theorem dX2_work_135 : decode cX2_work 135 = .ok (.iaload, 1) := by decide +kernel
theorem dX2_work_136 : decode cX2_work 136 = .ok (.invokestatic 39, 3) := by decide +kernel
theorem dX2_work_139 : decode cX2_work 139 = .ok (.iastore, 1) := by decide +kernel
theorem dX2_work_140 : decode cX2_work 140 = .ok (.iinc 6 1, 3) := by decide +kernel
theorem dX2_work_143 : decode cX2_work 143 = .ok (.goto (-137), 3) := by decide +kernel
theorem dX2_work_146 : decode cX2_work 146 = .ok (.iload 5, 2) := by decide +kernel
theorem dX2_work_148 : decode cX2_work 148 = .ok (.iconst 1, 1) := by decide +kernel
theorem dX2_work_149 : decode cX2_work 149 = .ok (.if_icmp .ge 7, 3) := by decide +kernel
theorem dX2_work_152 : decode cX2_work 152 = .ok (.iconst 0, 1) := by decide +kernel
theorem dX2_work_153 : decode cX2_work 153 = .ok (.goto 6, 3) := by decide +kernel
theorem dX2_work_156 : decode cX2_work 156 = .ok (.aload_n 1, 1) := by decide +kernel
theorem dX2_work_157 : decode cX2_work 157 = .ok (.iconst 0, 1) := by decide +kernel
theorem dX2_work_158 : decode cX2_work 158 = .ok (.iaload, 1) := by decide +kernel
theorem dX2_work_159 : decode cX2_work 159 = .ok (.ireturn, 1) := by decide +kernel
theorem dX2_named_0 : decode cX2_named 0 = .ok (.iload_n 0, 1) := by decide +kernel
theorem dX2_named_1 : decode cX2_named 1 = .ok (.lookupswitch 31 #[(-2, 29), (-1, 27)], 27) := by decide +kernel
theorem dX2_named_28 : decode cX2_named 28 = .ok (.iload_n 1, 1) := by decide +kernel
theorem dX2_named_29 : decode cX2_named 29 = .ok (.ireturn, 1) := by decide +kernel
theorem dX2_named_30 : decode cX2_named 30 = .ok (.iload_n 2, 1) := by decide +kernel
theorem dX2_named_31 : decode cX2_named 31 = .ok (.ireturn, 1) := by decide +kernel
theorem dX2_named_32 : decode cX2_named 32 = .ok (.iload_n 3, 1) := by decide +kernel
theorem dX2_named_33 : decode cX2_named 33 = .ok (.ireturn, 1) := by decide +kernel
theorem dX2_joined_0 : decode cX2_joined 0 = .ok (.iload_n 0, 1) := by decide +kernel
theorem dX2_joined_1 : decode cX2_joined 1 = .ok (.tableswitch 186 38 62 #[172, 186, 186, 186, 123, 115, 186, 119, 186, 127, 186, 186, 186, 186, 186, 186, 186, 186, 186, 186, 186, 186, 139, 150, 161], 115) := by decide +kernel
theorem dX2_joined_116 : decode cX2_joined 116 = .ok (.iload_n 1, 1) := by decide +kernel
theorem dX2_joined_117 : decode cX2_joined 117 = .ok (.iload_n 2, 1) := by decide +kernel
theorem dX2_joined_118 : decode cX2_joined 118 = .ok (.iadd, 1) := by decide +kernel
theorem dX2_joined_119 : decode cX2_joined 119 = .ok (.ireturn, 1) := by decide +kernel
theorem dX2_joined_120 : decode cX2_joined 120 = .ok (.iload_n 1, 1) := by decide +kernel
theorem dX2_joined_121 : decode cX2_joined 121 = .ok (.iload_n 2, 1) := by decide +kernel
theorem dX2_joined_122 : decode cX2_joined 122 = .ok (.isub, 1) := by decide +kernel
theorem dX2_joined_123 : decode cX2_joined 123 = .ok (.ireturn, 1) := by decide +kernel
theorem dX2_joined_124 : decode cX2_joined 124 = .ok (.iload_n 1, 1) := by decide +kernel
theorem dX2_joined_125 : decode cX2_joined 125 = .ok (.iload_n 2, 1) := by decide +kernel
theorem dX2_joined_126 : decode cX2_joined 126 = .ok (.imul, 1) := by decide +kernel
theorem dX2_joined_127 : decode cX2_joined 127 = .ok (.ireturn, 1) := by decide +kernel
theorem dX2_joined_128 : decode cX2_joined 128 = .ok (.iload_n 2, 1) := by decide +kernel
theorem dX2_joined_129 : decode cX2_joined 129 = .ok (.ifCond .ne 7, 3) := by decide +kernel
theorem dX2_joined_132 : decode cX2_joined 132 = .ok (.iconst 0, 1) := by decide +kernel
theorem dX2_joined_133 : decode cX2_joined 133 = .ok (.goto 6, 3) := by decide +kernel
theorem dX2_joined_136 : decode cX2_joined 136 = .ok (.iload_n 1, 1) := by decide +kernel
theorem dX2_joined_137 : decode cX2_joined 137 = .ok (.iload_n 2, 1) := by decide +kernel
theorem dX2_joined_138 : decode cX2_joined 138 = .ok (.idiv, 1) := by decide +kernel
theorem dX2_joined_139 : decode cX2_joined 139 = .ok (.ireturn, 1) := by decide +kernel
theorem dX2_joined_140 : decode cX2_joined 140 = .ok (.iload_n 1, 1) := by decide +kernel
theorem dX2_joined_141 : decode cX2_joined 141 = .ok (.iload_n 2, 1) := by decide +kernel
theorem dX2_joined_142 : decode cX2_joined 142 = .ok (.if_icmp .ge 7, 3) := by decide +kernel
theorem dX2_joined_145 : decode cX2_joined 145 = .ok (.iconst 1, 1) := by decide +kernel
theorem dX2_joined_146 : decode cX2_joined 146 = .ok (.goto 4, 3) := by decide +kernel
theorem dX2_joined_149 : decode cX2_joined 149 = .ok (.iconst 0, 1) := by decide +kernel
theorem dX2_joined_150 : decode cX2_joined 150 = .ok (.ireturn, 1) := by decide +kernel
theorem dX2_joined_151 : decode cX2_joined 151 = .ok (.iload_n 1, 1) := by decide +kernel
theorem dX2_joined_152 : decode cX2_joined 152 = .ok (.iload_n 2, 1) := by decide +kernel
theorem dX2_joined_153 : decode cX2_joined 153 = .ok (.if_icmp .ne 7, 3) := by decide +kernel
theorem dX2_joined_156 : decode cX2_joined 156 = .ok (.iconst 1, 1) := by decide +kernel
theorem dX2_joined_157 : decode cX2_joined 157 = .ok (.goto 4, 3) := by decide +kernel
theorem dX2_joined_160 : decode cX2_joined 160 = .ok (.iconst 0, 1) := by decide +kernel
theorem dX2_joined_161 : decode cX2_joined 161 = .ok (.ireturn, 1) := by decide +kernel
theorem dX2_joined_162 : decode cX2_joined 162 = .ok (.iload_n 1, 1) := by decide +kernel
theorem dX2_joined_163 : decode cX2_joined 163 = .ok (.iload_n 2, 1) := by decide +kernel
theorem dX2_joined_164 : decode cX2_joined 164 = .ok (.if_icmp .le 7, 3) := by decide +kernel
theorem dX2_joined_167 : decode cX2_joined 167 = .ok (.iconst 1, 1) := by decide +kernel
theorem dX2_joined_168 : decode cX2_joined 168 = .ok (.goto 4, 3) := by decide +kernel
theorem dX2_joined_171 : decode cX2_joined 171 = .ok (.iconst 0, 1) := by decide +kernel
theorem dX2_joined_172 : decode cX2_joined 172 = .ok (.ireturn, 1) := by decide +kernel
theorem dX2_joined_173 : decode cX2_joined 173 = .ok (.iload_n 1, 1) := by decide +kernel
theorem dX2_joined_174 : decode cX2_joined 174 = .ok (.ifCond .eq 11, 3) := by decide +kernel
theorem dX2_joined_177 : decode cX2_joined 177 = .ok (.iload_n 2, 1) := by decide +kernel
theorem dX2_joined_178 : decode cX2_joined 178 = .ok (.ifCond .eq 7, 3) := by decide +kernel
theorem dX2_joined_181 : decode cX2_joined 181 = .ok (.iconst 1, 1) := by decide +kernel
theorem dX2_joined_182 : decode cX2_joined 182 = .ok (.goto 4, 3) := by decide +kernel
theorem dX2_joined_185 : decode cX2_joined 185 = .ok (.iconst 0, 1) := by decide +kernel
theorem dX2_joined_186 : decode cX2_joined 186 = .ok (.ireturn, 1) := by decide +kernel
theorem dX2_joined_187 : decode cX2_joined 187 = .ok (.iload_n 1, 1) := by decide +kernel
theorem dX2_joined_188 : decode cX2_joined 188 = .ok (.ifCond .ne 7, 3) := by decide +kernel
theorem dX2_joined_191 : decode cX2_joined 191 = .ok (.iload_n 2, 1) := by decide +kernel
theorem dX2_joined_192 : decode cX2_joined 192 = .ok (.ifCond .eq 7, 3) := by decide +kernel
theorem dX2_joined_195 : decode cX2_joined 195 = .ok (.iconst 1, 1) := by decide +kernel
theorem dX2_joined_196 : decode cX2_joined 196 = .ok (.goto 4, 3) := by decide +kernel
theorem dX2_joined_199 : decode cX2_joined 199 = .ok (.iconst 0, 1) := by decide +kernel
theorem dX2_joined_200 : decode cX2_joined 200 = .ok (.ireturn, 1) := by decide +kernel
theorem dX3_init_0 : decode cX3_init 0 = .ok (.aload_n 0, 1) := by decide +kernel
theorem dX3_init_1 : decode cX3_init 1 = .ok (.invokespecial 3, 3) := by decide +kernel
theorem dX3_init_4 : decode cX3_init 4 = .ok (.aload_n 0, 1) := by decide +kernel
theorem dX3_init_5 : decode cX3_init 5 = .ok (.bipush 96, 2) := by decide +kernel
theorem dX3_init_7 : decode cX3_init 7 = .ok (.newarray .int, 2) := by decide +kernel
theorem dX3_init_9 : decode cX3_init 9 = .ok (.putfield 9, 3) := by decide +kernel
theorem dX3_init_12 : decode cX3_init 12 = .ok (.aload_n 0, 1) := by decide +kernel
theorem dX3_init_13 : decode cX3_init 13 = .ok (.bipush 14, 2) := by decide +kernel
theorem dX3_init_15 : decode cX3_init 15 = .ok (.anewarray 15, 3) := by decide +kernel
theorem dX3_init_18 : decode cX3_init 18 = .ok (.putfield 17, 3) := by decide +kernel
theorem dX3_init_21 : decode cX3_init 21 = .ok (.iconst 0, 1) := by decide +kernel
theorem dX3_init_22 : decode cX3_init 22 = .ok (.istore_n 1, 1) := by decide +kernel
theorem dX3_init_23 : decode cX3_init 23 = .ok (.iload_n 1, 1) := by decide +kernel
theorem dX3_init_24 : decode cX3_init 24 = .ok (.bipush 14, 2) := by decide +kernel
theorem dX3_init_26 : decode cX3_init 26 = .ok (.if_icmp .ge 22, 3) := by decide +kernel
theorem dX3_init_29 : decode cX3_init 29 = .ok (.aload_n 0, 1) := by decide +kernel
theorem dX3_init_30 : decode cX3_init 30 = .ok (.getfield 17, 3) := by decide +kernel
theorem dX3_init_33 : decode cX3_init 33 = .ok (.iload_n 1, 1) := by decide +kernel
theorem dX3_init_34 : decode cX3_init 34 = .ok (.new 15, 3) := by decide +kernel
theorem dX3_init_37 : decode cX3_init 37 = .ok (.dup, 1) := by decide +kernel
theorem dX3_init_38 : decode cX3_init 38 = .ok (.invokespecial 21, 3) := by decide +kernel
theorem dX3_init_41 : decode cX3_init 41 = .ok (.aastore, 1) := by decide +kernel
theorem dX3_init_42 : decode cX3_init 42 = .ok (.iinc 1 1, 3) := by decide +kernel
theorem dX3_init_45 : decode cX3_init 45 = .ok (.goto (-22), 3) := by decide +kernel
theorem dX3_init_48 : decode cX3_init 48 = .ok (.return_, 1) := by decide +kernel
theorem dX3_at_0 : decode cX3_at 0 = .ok (.aload_n 0, 1) := by decide +kernel
theorem dX3_at_1 : decode cX3_at 1 = .ok (.getfield 17, 3) := by decide +kernel
theorem dX3_at_4 : decode cX3_at 4 = .ok (.iload_n 1, 1) := by decide +kernel
theorem dX3_at_5 : decode cX3_at 5 = .ok (.ifCond .lt 13, 3) := by decide +kernel
theorem dX3_at_8 : decode cX3_at 8 = .ok (.iload_n 1, 1) := by decide +kernel
theorem dX3_at_9 : decode cX3_at 9 = .ok (.bipush 14, 2) := by decide +kernel
theorem dX3_at_11 : decode cX3_at 11 = .ok (.if_icmp .ge 7, 3) := by decide +kernel
theorem dX3_at_14 : decode cX3_at 14 = .ok (.iload_n 1, 1) := by decide +kernel
theorem dX3_at_15 : decode cX3_at 15 = .ok (.goto 4, 3) := by decide +kernel
theorem dX3_at_18 : decode cX3_at 18 = .ok (.iconst 0, 1) := by decide +kernel
theorem dX3_at_19 : decode cX3_at 19 = .ok (.aaload, 1) := by decide +kernel
theorem dX3_at_20 : decode cX3_at 20 = .ok (.areturn, 1) := by decide +kernel
theorem dX3_gives_0 : decode cX3_gives 0 = .ok (.aload_n 0, 1) := by decide +kernel
theorem dX3_gives_1 : decode cX3_gives 1 = .ok (.iload_n 1, 1) := by decide +kernel
theorem dX3_gives_2 : decode cX3_gives 2 = .ok (.invokevirtual 22, 3) := by decide +kernel
theorem dX3_gives_5 : decode cX3_gives 5 = .ok (.aload_n 0, 1) := by decide +kernel
theorem dX3_gives_6 : decode cX3_gives 6 = .ok (.getfield 9, 3) := by decide +kernel
theorem dX3_gives_9 : decode cX3_gives 9 = .ok (.iload_n 2, 1) := by decide +kernel
theorem dX3_gives_10 : decode cX3_gives 10 = .ok (.iload_n 3, 1) := by decide +kernel
theorem dX3_gives_11 : decode cX3_gives 11 = .ok (.iload 4, 2) := by decide +kernel
theorem dX3_gives_13 : decode cX3_gives 13 = .ok (.invokevirtual 26, 3) := by decide +kernel
theorem dX3_gives_16 : decode cX3_gives 16 = .ok (.ireturn, 1) := by decide +kernel
theorem dX4_init_0 : decode cX4_init 0 = .ok (.aload_n 0, 1) := by decide +kernel
theorem dX4_init_1 : decode cX4_init 1 = .ok (.invokespecial 3, 3) := by decide +kernel
theorem dX4_init_4 : decode cX4_init 4 = .ok (.aload_n 0, 1) := by decide +kernel
theorem dX4_init_5 : decode cX4_init 5 = .ok (.iconst (-1), 1) := by decide +kernel
theorem dX4_init_6 : decode cX4_init 6 = .ok (.putfield 9, 3) := by decide +kernel
theorem dX4_init_9 : decode cX4_init 9 = .ok (.aload_n 0, 1) := by decide +kernel
theorem dX4_init_10 : decode cX4_init 10 = .ok (.bipush 24, 2) := by decide +kernel
theorem dX4_init_12 : decode cX4_init 12 = .ok (.newarray .int, 2) := by decide +kernel
theorem dX4_init_14 : decode cX4_init 14 = .ok (.putfield 15, 3) := by decide +kernel
theorem dX4_init_17 : decode cX4_init 17 = .ok (.return_, 1) := by decide +kernel
theorem dX4_begin_0 : decode cX4_begin 0 = .ok (.aload_n 0, 1) := by decide +kernel
theorem dX4_begin_1 : decode cX4_begin 1 = .ok (.iload_n 1, 1) := by decide +kernel
theorem dX4_begin_2 : decode cX4_begin 2 = .ok (.putfield 9, 3) := by decide +kernel
theorem dX4_begin_5 : decode cX4_begin 5 = .ok (.aload_n 0, 1) := by decide +kernel
theorem dX4_begin_6 : decode cX4_begin 6 = .ok (.iload_n 2, 1) := by decide +kernel
theorem dX4_begin_7 : decode cX4_begin 7 = .ok (.iconst 0, 1) := by decide +kernel
theorem dX4_begin_8 : decode cX4_begin 8 = .ok (.bipush 24, 2) := by decide +kernel
theorem dX4_begin_10 : decode cX4_begin 10 = .ok (.invokestatic 19, 3) := by decide +kernel
theorem dX4_begin_13 : decode cX4_begin 13 = .ok (.putfield 23, 3) := by decide +kernel
theorem dX4_begin_16 : decode cX4_begin 16 = .ok (.iconst 0, 1) := by decide +kernel
theorem dX4_begin_17 : decode cX4_begin 17 = .ok (.istore_n 3, 1) := by decide +kernel
theorem dX4_begin_18 : decode cX4_begin 18 = .ok (.iload_n 3, 1) := by decide +kernel
theorem dX4_begin_19 : decode cX4_begin 19 = .ok (.bipush 24, 2) := by decide +kernel
theorem dX4_begin_21 : decode cX4_begin 21 = .ok (.if_icmp .ge 16, 3) := by decide +kernel
theorem dX4_begin_24 : decode cX4_begin 24 = .ok (.aload_n 0, 1) := by decide +kernel
theorem dX4_begin_25 : decode cX4_begin 25 = .ok (.getfield 15, 3) := by decide +kernel
theorem dX4_begin_28 : decode cX4_begin 28 = .ok (.iload_n 3, 1) := by decide +kernel
theorem dX4_begin_29 : decode cX4_begin 29 = .ok (.iconst 0, 1) := by decide +kernel
theorem dX4_begin_30 : decode cX4_begin 30 = .ok (.iastore, 1) := by decide +kernel
theorem dX4_begin_31 : decode cX4_begin 31 = .ok (.iinc 3 1, 3) := by decide +kernel
theorem dX4_begin_34 : decode cX4_begin 34 = .ok (.goto (-16), 3) := by decide +kernel
theorem dX4_begin_37 : decode cX4_begin 37 = .ok (.return_, 1) := by decide +kernel
theorem dX4_become_0 : decode cX4_become 0 = .ok (.aload_n 0, 1) := by decide +kernel
theorem dX4_become_1 : decode cX4_become 1 = .ok (.aload_n 1, 1) := by decide +kernel
theorem dX4_become_2 : decode cX4_become 2 = .ok (.getfield 9, 3) := by decide +kernel
theorem dX4_become_5 : decode cX4_become 5 = .ok (.putfield 9, 3) := by decide +kernel
theorem dX4_become_8 : decode cX4_become 8 = .ok (.aload_n 0, 1) := by decide +kernel
theorem dX4_become_9 : decode cX4_become 9 = .ok (.aload_n 1, 1) := by decide +kernel
theorem dX4_become_10 : decode cX4_become 10 = .ok (.getfield 23, 3) := by decide +kernel
theorem dX4_become_13 : decode cX4_become 13 = .ok (.putfield 23, 3) := by decide +kernel
theorem dX4_become_16 : decode cX4_become 16 = .ok (.aload_n 1, 1) := by decide +kernel
theorem dX4_become_17 : decode cX4_become 17 = .ok (.getfield 15, 3) := by decide +kernel
theorem dX4_become_20 : decode cX4_become 20 = .ok (.iconst 0, 1) := by decide +kernel
theorem dX4_become_21 : decode cX4_become 21 = .ok (.aload_n 0, 1) := by decide +kernel
theorem dX4_become_22 : decode cX4_become 22 = .ok (.getfield 15, 3) := by decide +kernel
theorem dX4_become_25 : decode cX4_become 25 = .ok (.iconst 0, 1) := by decide +kernel
theorem dX4_become_26 : decode cX4_become 26 = .ok (.bipush 24, 2) := by decide +kernel
theorem dX4_become_28 : decode cX4_become 28 = .ok (.invokestatic 26, 3) := by decide +kernel
theorem dX4_become_31 : decode cX4_become 31 = .ok (.return_, 1) := by decide +kernel
theorem dX4_has_0 : decode cX4_has 0 = .ok (.iload_n 1, 1) := by decide +kernel
theorem dX4_has_1 : decode cX4_has 1 = .ok (.ifCond .lt 15, 3) := by decide +kernel
theorem dX4_has_4 : decode cX4_has 4 = .ok (.iload_n 1, 1) := by decide +kernel
theorem dX4_has_5 : decode cX4_has 5 = .ok (.aload_n 0, 1) := by decide +kernel
theorem dX4_has_6 : decode cX4_has 6 = .ok (.getfield 23, 3) := by decide +kernel
theorem dX4_has_9 : decode cX4_has 9 = .ok (.if_icmp .ge 7, 3) := by decide +kernel
theorem dX4_has_12 : decode cX4_has 12 = .ok (.iconst 1, 1) := by decide +kernel
theorem dX4_has_13 : decode cX4_has 13 = .ok (.goto 4, 3) := by decide +kernel
theorem dX4_has_16 : decode cX4_has 16 = .ok (.iconst 0, 1) := by decide +kernel
theorem dX4_has_17 : decode cX4_has 17 = .ok (.ireturn, 1) := by decide +kernel
theorem dX4_hasNumber_0 : decode cX4_hasNumber 0 = .ok (.aload_n 0, 1) := by decide +kernel
theorem dX4_hasNumber_1 : decode cX4_hasNumber 1 = .ok (.iload_n 1, 1) := by decide +kernel
theorem dX4_hasNumber_2 : decode cX4_hasNumber 2 = .ok (.invokevirtual 32, 3) := by decide +kernel
theorem dX4_hasNumber_5 : decode cX4_hasNumber 5 = .ok (.ifCond .eq 18, 3) := by decide +kernel
theorem dX4_hasNumber_8 : decode cX4_hasNumber 8 = .ok (.aload_n 0, 1) := by decide +kernel
theorem dX4_hasNumber_9 : decode cX4_hasNumber 9 = .ok (.getfield 15, 3) := by decide +kernel
theorem dX4_hasNumber_12 : decode cX4_hasNumber 12 = .ok (.iload_n 1, 1) := by decide +kernel
theorem dX4_hasNumber_13 : decode cX4_hasNumber 13 = .ok (.iaload, 1) := by decide +kernel
theorem dX4_hasNumber_14 : decode cX4_hasNumber 14 = .ok (.ldc 36, 2) := by decide +kernel
theorem dX4_hasNumber_16 : decode cX4_hasNumber 16 = .ok (.if_icmp .eq 7, 3) := by decide +kernel
theorem dX4_hasNumber_19 : decode cX4_hasNumber 19 = .ok (.iconst 1, 1) := by decide +kernel
theorem dX4_hasNumber_20 : decode cX4_hasNumber 20 = .ok (.goto 4, 3) := by decide +kernel
theorem dX4_hasNumber_23 : decode cX4_hasNumber 23 = .ok (.iconst 0, 1) := by decide +kernel
theorem dX4_hasNumber_24 : decode cX4_hasNumber 24 = .ok (.ireturn, 1) := by decide +kernel
theorem dX4_hasStretch_0 : decode cX4_hasStretch 0 = .ok (.iload_n 1, 1) := by decide +kernel
theorem dX4_hasStretch_1 : decode cX4_hasStretch 1 = .ok (.ifCond .lt 29, 3) := by decide +kernel
theorem dX4_hasStretch_4 : decode cX4_hasStretch 4 = .ok (.iload_n 2, 1) := by decide +kernel
theorem dX4_hasStretch_5 : decode cX4_hasStretch 5 = .ok (.ifCond .lt 25, 3) := by decide +kernel
theorem dX4_hasStretch_8 : decode cX4_hasStretch 8 = .ok (.iload_n 2, 1) := by decide +kernel
theorem dX4_hasStretch_9 : decode cX4_hasStretch 9 = .ok (.aload_n 0, 1) := by decide +kernel
theorem dX4_hasStretch_10 : decode cX4_hasStretch 10 = .ok (.getfield 23, 3) := by decide +kernel
theorem dX4_hasStretch_13 : decode cX4_hasStretch 13 = .ok (.if_icmp .gt 17, 3) := by decide +kernel
theorem dX4_hasStretch_16 : decode cX4_hasStretch 16 = .ok (.iload_n 1, 1) := by decide +kernel
theorem dX4_hasStretch_17 : decode cX4_hasStretch 17 = .ok (.aload_n 0, 1) := by decide +kernel
theorem dX4_hasStretch_18 : decode cX4_hasStretch 18 = .ok (.getfield 23, 3) := by decide +kernel
theorem dX4_hasStretch_21 : decode cX4_hasStretch 21 = .ok (.iload_n 2, 1) := by decide +kernel
theorem dX4_hasStretch_22 : decode cX4_hasStretch 22 = .ok (.isub, 1) := by decide +kernel
theorem dX4_hasStretch_23 : decode cX4_hasStretch 23 = .ok (.if_icmp .gt 7, 3) := by decide +kernel
theorem dX4_hasStretch_26 : decode cX4_hasStretch 26 = .ok (.iconst 1, 1) := by decide +kernel
theorem dX4_hasStretch_27 : decode cX4_hasStretch 27 = .ok (.goto 4, 3) := by decide +kernel
theorem dX4_hasStretch_30 : decode cX4_hasStretch 30 = .ok (.iconst 0, 1) := by decide +kernel
theorem dX4_hasStretch_31 : decode cX4_hasStretch 31 = .ok (.ireturn, 1) := by decide +kernel
theorem dX5_init_0 : decode cX5_init 0 = .ok (.aload_n 0, 1) := by decide +kernel
theorem dX5_init_1 : decode cX5_init 1 = .ok (.invokespecial 3, 3) := by decide +kernel
theorem dX5_init_4 : decode cX5_init 4 = .ok (.aload_n 0, 1) := by decide +kernel
theorem dX5_init_5 : decode cX5_init 5 = .ok (.iconst 0, 1) := by decide +kernel
theorem dX5_init_6 : decode cX5_init 6 = .ok (.putfield 9, 3) := by decide +kernel
theorem dX5_init_9 : decode cX5_init 9 = .ok (.aload_n 0, 1) := by decide +kernel
theorem dX5_init_10 : decode cX5_init 10 = .ok (.new 15, 3) := by decide +kernel
theorem dX5_init_13 : decode cX5_init 13 = .ok (.dup, 1) := by decide +kernel
theorem dX5_init_14 : decode cX5_init 14 = .ok (.invokespecial 17, 3) := by decide +kernel
theorem dX5_init_17 : decode cX5_init 17 = .ok (.putfield 18, 3) := by decide +kernel
theorem dX5_init_20 : decode cX5_init 20 = .ok (.return_, 1) := by decide +kernel
theorem dX6_init_0 : decode cX6_init 0 = .ok (.aload_n 0, 1) := by decide +kernel
theorem dX6_init_1 : decode cX6_init 1 = .ok (.invokespecial 3, 3) := by decide +kernel
theorem dX6_init_4 : decode cX6_init 4 = .ok (.aload_n 0, 1) := by decide +kernel
theorem dX6_init_5 : decode cX6_init 5 = .ok (.bipush 96, 2) := by decide +kernel
theorem dX6_init_7 : decode cX6_init 7 = .ok (.newarray .int, 2) := by decide +kernel
theorem dX6_init_9 : decode cX6_init 9 = .ok (.putfield 9, 3) := by decide +kernel
theorem dX6_init_12 : decode cX6_init 12 = .ok (.aload_n 0, 1) := by decide +kernel
theorem dX6_init_13 : decode cX6_init 13 = .ok (.new 15, 3) := by decide +kernel
theorem dX6_init_16 : decode cX6_init 16 = .ok (.dup, 1) := by decide +kernel
theorem dX6_init_17 : decode cX6_init 17 = .ok (.invokespecial 17, 3) := by decide +kernel
theorem dX6_init_20 : decode cX6_init 20 = .ok (.putfield 18, 3) := by decide +kernel
theorem dX6_init_23 : decode cX6_init 23 = .ok (.return_, 1) := by decide +kernel
theorem dX6_takes_0 : decode cX6_takes 0 = .ok (.bipush 24, 2) := by decide +kernel
theorem dX6_takes_2 : decode cX6_takes 2 = .ok (.istore_n 2, 1) := by decide +kernel
theorem dX6_takes_3 : decode cX6_takes 3 = .ok (.iload_n 2, 1) := by decide +kernel
theorem dX6_takes_4 : decode cX6_takes 4 = .ok (.ifCond .lt 44, 3) := by decide +kernel
theorem dX6_takes_7 : decode cX6_takes 7 = .ok (.aload_n 0, 1) := by decide +kernel
theorem dX6_takes_8 : decode cX6_takes 8 = .ok (.getfield 22, 3) := by decide +kernel
theorem dX6_takes_11 : decode cX6_takes 11 = .ok (.bipush 96, 2) := by decide +kernel
theorem dX6_takes_13 : decode cX6_takes 13 = .ok (.if_icmp .ge 29, 3) := by decide +kernel
theorem dX6_takes_16 : decode cX6_takes 16 = .ok (.aload_n 0, 1) := by decide +kernel
theorem dX6_takes_17 : decode cX6_takes 17 = .ok (.getfield 9, 3) := by decide +kernel
theorem dX6_takes_20 : decode cX6_takes 20 = .ok (.aload_n 0, 1) := by decide +kernel
theorem dX6_takes_21 : decode cX6_takes 21 = .ok (.getfield 22, 3) := by decide +kernel
theorem dX6_takes_24 : decode cX6_takes 24 = .ok (.iload_n 1, 1) := by decide +kernel
theorem dX6_takes_25 : decode cX6_takes 25 = .ok (.iload_n 2, 1) := by decide +kernel
theorem dX6_takes_26 : decode cX6_takes 26 = .ok (.iushr, 1) := by decide +kernel
theorem dX6_takes_27 : decode cX6_takes 27 = .ok (.sipush 255, 3) := by decide +kernel
theorem dX6_takes_30 : decode cX6_takes 30 = .ok (.iand, 1) := by decide +kernel
theorem dX6_takes_31 : decode cX6_takes 31 = .ok (.iastore, 1) := by decide +kernel
theorem dX6_takes_32 : decode cX6_takes 32 = .ok (.aload_n 0, 1) := by decide +kernel
theorem dX6_takes_33 : decode cX6_takes 33 = .ok (.dup, 1) := by decide +kernel
theorem dX6_takes_34 : decode cX6_takes 34 = .ok (.getfield 22, 3) := by decide +kernel
theorem dX6_takes_37 : decode cX6_takes 37 = .ok (.iconst 1, 1) := by decide +kernel
theorem dX6_takes_38 : decode cX6_takes 38 = .ok (.iadd, 1) := by decide +kernel
theorem dX6_takes_39 : decode cX6_takes 39 = .ok (.putfield 22, 3) := by decide +kernel
theorem dX6_takes_42 : decode cX6_takes 42 = .ok (.iinc 2 (-8), 3) := by decide +kernel
theorem dX6_takes_45 : decode cX6_takes 45 = .ok (.goto (-42), 3) := by decide +kernel
theorem dX6_takes_48 : decode cX6_takes 48 = .ok (.return_, 1) := by decide +kernel
theorem dX6_faultOfText_0 : decode cX6_faultOfText 0 = .ok (.aload_n 0, 1) := by decide +kernel
theorem dX6_faultOfText_1 : decode cX6_faultOfText 1 = .ok (.iconst 0, 1) := by decide +kernel
theorem dX6_faultOfText_2 : decode cX6_faultOfText 2 = .ok (.putfield 26, 3) := by decide +kernel
theorem dX6_faultOfText_5 : decode cX6_faultOfText 5 = .ok (.aload_n 0, 1) := by decide +kernel
theorem dX6_faultOfText_6 : decode cX6_faultOfText 6 = .ok (.iconst 3, 1) := by decide +kernel
theorem dX6_faultOfText_7 : decode cX6_faultOfText 7 = .ok (.putfield 29, 3) := by decide +kernel
theorem dX6_faultOfText_10 : decode cX6_faultOfText 10 = .ok (.aload_n 0, 1) := by decide +kernel
theorem dX6_faultOfText_11 : decode cX6_faultOfText 11 = .ok (.invokevirtual 32, 3) := by decide +kernel
theorem dX6_faultOfText_14 : decode cX6_faultOfText 14 = .ok (.aload_n 0, 1) := by decide +kernel
theorem dX6_faultOfText_15 : decode cX6_faultOfText 15 = .ok (.invokevirtual 35, 3) := by decide +kernel
theorem dX6_faultOfText_18 : decode cX6_faultOfText 18 = .ok (.istore_n 1, 1) := by decide +kernel
theorem dX6_faultOfText_19 : decode cX6_faultOfText 19 = .ok (.iload_n 1, 1) := by decide +kernel
theorem dX6_faultOfText_20 : decode cX6_faultOfText 20 = .ok (.ifCond .ge 8, 3) := by decide +kernel
theorem dX6_faultOfText_23 : decode cX6_faultOfText 23 = .ok (.aload_n 0, 1) := by decide +kernel
theorem dX6_faultOfText_24 : decode cX6_faultOfText 24 = .ok (.getfield 39, 3) := by decide +kernel
theorem dX6_faultOfText_27 : decode cX6_faultOfText 27 = .ok (.ireturn, 1) := by decide +kernel
theorem dX6_faultOfText_28 : decode cX6_faultOfText 28 = .ok (.aload_n 0, 1) := by decide +kernel
theorem dX6_faultOfText_29 : decode cX6_faultOfText 29 = .ok (.getfield 18, 3) := by decide +kernel
theorem dX6_faultOfText_32 : decode cX6_faultOfText 32 = .ok (.iload_n 1, 1) := by decide +kernel
theorem dX6_faultOfText_33 : decode cX6_faultOfText 33 = .ok (.invokevirtual 42, 3) := by decide +kernel
theorem dX6_faultOfText_36 : decode cX6_faultOfText 36 = .ok (.aload_n 0, 1) := by decide +kernel
theorem dX6_faultOfText_37 : decode cX6_faultOfText 37 = .ok (.invokevirtual 32, 3) := by decide +kernel
theorem dX6_faultOfText_40 : decode cX6_faultOfText 40 = .ok (.aload_n 0, 1) := by decide +kernel
theorem dX6_faultOfText_41 : decode cX6_faultOfText 41 = .ok (.iconst 0, 1) := by decide +kernel
theorem dX6_faultOfText_42 : decode cX6_faultOfText 42 = .ok (.iconst 0, 1) := by decide +kernel
theorem dX6_faultOfText_43 : decode cX6_faultOfText 43 = .ok (.iconst 0, 1) := by decide +kernel
theorem dX6_faultOfText_44 : decode cX6_faultOfText 44 = .ok (.invokevirtual 46, 3) := by decide +kernel
theorem dX6_faultOfText_47 : decode cX6_faultOfText 47 = .ok (.ifCond .eq 14, 3) := by decide +kernel
theorem dX6_faultOfText_50 : decode cX6_faultOfText 50 = .ok (.aload_n 0, 1) := by decide +kernel
theorem dX6_faultOfText_51 : decode cX6_faultOfText 51 = .ok (.getfield 29, 3) := by decide +kernel
theorem dX6_faultOfText_54 : decode cX6_faultOfText 54 = .ok (.ifCond .ne 7, 3) := by decide +kernel
theorem dX6_faultOfText_57 : decode cX6_faultOfText 57 = .ok (.iconst (-1), 1) := by decide +kernel
theorem dX6_faultOfText_58 : decode cX6_faultOfText 58 = .ok (.goto 7, 3) := by decide +kernel
theorem dX6_faultOfText_61 : decode cX6_faultOfText 61 = .ok (.aload_n 0, 1) := by decide +kernel
theorem dX6_faultOfText_62 : decode cX6_faultOfText 62 = .ok (.getfield 39, 3) := by decide +kernel
theorem dX6_faultOfText_65 : decode cX6_faultOfText 65 = .ok (.ireturn, 1) := by decide +kernel
theorem dX6_byteAt_0 : decode cX6_byteAt 0 = .ok (.iload_n 1, 1) := by decide +kernel
theorem dX6_byteAt_1 : decode cX6_byteAt 1 = .ok (.ifCond .lt 26, 3) := by decide +kernel
theorem dX6_byteAt_4 : decode cX6_byteAt 4 = .ok (.iload_n 1, 1) := by decide +kernel
theorem dX6_byteAt_5 : decode cX6_byteAt 5 = .ok (.aload_n 0, 1) := by decide +kernel
theorem dX6_byteAt_6 : decode cX6_byteAt 6 = .ok (.getfield 22, 3) := by decide +kernel
theorem dX6_byteAt_9 : decode cX6_byteAt 9 = .ok (.if_icmp .ge 18, 3) := by decide +kernel
theorem dX6_byteAt_12 : decode cX6_byteAt 12 = .ok (.iload_n 1, 1) := by decide +kernel
theorem dX6_byteAt_13 : decode cX6_byteAt 13 = .ok (.bipush 96, 2) := by decide +kernel
theorem dX6_byteAt_15 : decode cX6_byteAt 15 = .ok (.if_icmp .ge 12, 3) := by decide +kernel
theorem dX6_byteAt_18 : decode cX6_byteAt 18 = .ok (.aload_n 0, 1) := by decide +kernel
theorem dX6_byteAt_19 : decode cX6_byteAt 19 = .ok (.getfield 9, 3) := by decide +kernel
theorem dX6_byteAt_22 : decode cX6_byteAt 22 = .ok (.iload_n 1, 1) := by decide +kernel
theorem dX6_byteAt_23 : decode cX6_byteAt 23 = .ok (.iaload, 1) := by decide +kernel
theorem dX6_byteAt_24 : decode cX6_byteAt 24 = .ok (.goto 4, 3) := by decide +kernel
theorem dX6_byteAt_27 : decode cX6_byteAt 27 = .ok (.iconst (-1), 1) := by decide +kernel
theorem dX6_byteAt_28 : decode cX6_byteAt 28 = .ok (.ireturn, 1) := by decide +kernel
theorem dX6_sortOf_0 : decode cX6_sortOf 0 = .ok (.iload_n 0, 1) := by decide +kernel
theorem dX6_sortOf_1 : decode cX6_sortOf 1 = .ok (.ifCond .ge 5, 3) := by decide +kernel
theorem dX6_sortOf_4 : decode cX6_sortOf 4 = .ok (.iconst 0, 1) := by decide +kernel
theorem dX6_sortOf_5 : decode cX6_sortOf 5 = .ok (.ireturn, 1) := by decide +kernel
theorem dX6_sortOf_6 : decode cX6_sortOf 6 = .ok (.iload_n 0, 1) := by decide +kernel
theorem dX6_sortOf_7 : decode cX6_sortOf 7 = .ok (.bipush 97, 2) := by decide +kernel
theorem dX6_sortOf_9 : decode cX6_sortOf 9 = .ok (.if_icmp .lt 11, 3) := by decide +kernel
theorem dX6_sortOf_12 : decode cX6_sortOf 12 = .ok (.iload_n 0, 1) := by decide +kernel
theorem dX6_sortOf_13 : decode cX6_sortOf 13 = .ok (.bipush 122, 2) := by decide +kernel
theorem dX6_sortOf_15 : decode cX6_sortOf 15 = .ok (.if_icmp .gt 5, 3) := by decide +kernel
theorem dX6_sortOf_18 : decode cX6_sortOf 18 = .ok (.iconst 1, 1) := by decide +kernel
theorem dX6_sortOf_19 : decode cX6_sortOf 19 = .ok (.ireturn, 1) := by decide +kernel
theorem dX6_sortOf_20 : decode cX6_sortOf 20 = .ok (.iload_n 0, 1) := by decide +kernel
theorem dX6_sortOf_21 : decode cX6_sortOf 21 = .ok (.bipush 48, 2) := by decide +kernel
theorem dX6_sortOf_23 : decode cX6_sortOf 23 = .ok (.if_icmp .lt 13, 3) := by decide +kernel
theorem dX6_sortOf_26 : decode cX6_sortOf 26 = .ok (.iload_n 0, 1) := by decide +kernel
theorem dX6_sortOf_27 : decode cX6_sortOf 27 = .ok (.bipush 57, 2) := by decide +kernel
theorem dX6_sortOf_29 : decode cX6_sortOf 29 = .ok (.if_icmp .gt 7, 3) := by decide +kernel
theorem dX6_sortOf_32 : decode cX6_sortOf 32 = .ok (.iconst 2, 1) := by decide +kernel
theorem dX6_sortOf_33 : decode cX6_sortOf 33 = .ok (.goto 4, 3) := by decide +kernel
theorem dX6_sortOf_36 : decode cX6_sortOf 36 = .ok (.iconst 3, 1) := by decide +kernel
theorem dX6_sortOf_37 : decode cX6_sortOf 37 = .ok (.ireturn, 1) := by decide +kernel
theorem dX6_step_0 : decode cX6_step 0 = .ok (.aload_n 0, 1) := by decide +kernel
theorem dX6_step_1 : decode cX6_step 1 = .ok (.getfield 26, 3) := by decide +kernel
theorem dX6_step_4 : decode cX6_step 4 = .ok (.istore_n 1, 1) := by decide +kernel
theorem dX6_step_5 : decode cX6_step 5 = .ok (.aload_n 0, 1) := by decide +kernel
theorem dX6_step_6 : decode cX6_step 6 = .ok (.getfield 29, 3) := by decide +kernel
theorem dX6_step_9 : decode cX6_step 9 = .ok (.iconst 1, 1) := by decide +kernel
theorem dX6_step_10 : decode cX6_step 10 = .ok (.if_icmp .eq 11, 3) := by decide +kernel
theorem dX6_step_13 : decode cX6_step 13 = .ok (.aload_n 0, 1) := by decide +kernel
theorem dX6_step_14 : decode cX6_step 14 = .ok (.getfield 29, 3) := by decide +kernel
theorem dX6_step_17 : decode cX6_step 17 = .ok (.iconst 2, 1) := by decide +kernel
theorem dX6_step_18 : decode cX6_step 18 = .ok (.if_icmp .ne 7, 3) := by decide +kernel
theorem dX6_step_21 : decode cX6_step 21 = .ok (.iconst 1, 1) := by decide +kernel
theorem dX6_step_22 : decode cX6_step 22 = .ok (.goto 4, 3) := by decide +kernel
theorem dX6_step_25 : decode cX6_step 25 = .ok (.iconst 0, 1) := by decide +kernel
theorem dX6_step_26 : decode cX6_step 26 = .ok (.istore_n 2, 1) := by decide +kernel
theorem dX6_step_27 : decode cX6_step 27 = .ok (.aload_n 0, 1) := by decide +kernel
theorem dX6_step_28 : decode cX6_step 28 = .ok (.aload_n 0, 1) := by decide +kernel
theorem dX6_step_29 : decode cX6_step 29 = .ok (.getfield 26, 3) := by decide +kernel
theorem dX6_step_32 : decode cX6_step 32 = .ok (.putfield 39, 3) := by decide +kernel
theorem dX6_step_35 : decode cX6_step 35 = .ok (.aload_n 0, 1) := by decide +kernel
theorem dX6_step_36 : decode cX6_step 36 = .ok (.getfield 39, 3) := by decide +kernel
theorem dX6_step_39 : decode cX6_step 39 = .ok (.aload_n 0, 1) := by decide +kernel
theorem dX6_step_40 : decode cX6_step 40 = .ok (.getfield 22, 3) := by decide +kernel
theorem dX6_step_43 : decode cX6_step 43 = .ok (.if_icmp .ge 29, 3) := by decide +kernel
theorem dX6_step_46 : decode cX6_step 46 = .ok (.aload_n 0, 1) := by decide +kernel
theorem dX6_step_47 : decode cX6_step 47 = .ok (.aload_n 0, 1) := by decide +kernel
theorem dX6_step_48 : decode cX6_step 48 = .ok (.getfield 39, 3) := by decide +kernel
theorem dX6_step_51 : decode cX6_step 51 = .ok (.invokevirtual 50, 3) := by decide +kernel
theorem dX6_step_54 : decode cX6_step 54 = .ok (.bipush 32, 2) := by decide +kernel
theorem dX6_step_56 : decode cX6_step 56 = .ok (.if_icmp .ne 16, 3) := by decide +kernel
theorem dX6_step_59 : decode cX6_step 59 = .ok (.aload_n 0, 1) := by decide +kernel
theorem dX6_step_60 : decode cX6_step 60 = .ok (.dup, 1) := by decide +kernel
theorem dX6_step_61 : decode cX6_step 61 = .ok (.getfield 39, 3) := by decide +kernel
theorem dX6_step_64 : decode cX6_step 64 = .ok (.iconst 1, 1) := by decide +kernel
theorem dX6_step_65 : decode cX6_step 65 = .ok (.iadd, 1) := by decide +kernel
theorem dX6_step_66 : decode cX6_step 66 = .ok (.putfield 39, 3) := by decide +kernel
theorem dX6_step_69 : decode cX6_step 69 = .ok (.goto (-34), 3) := by decide +kernel
theorem dX6_step_72 : decode cX6_step 72 = .ok (.aload_n 0, 1) := by decide +kernel
theorem dX6_step_73 : decode cX6_step 73 = .ok (.aload_n 0, 1) := by decide +kernel
theorem dX6_step_74 : decode cX6_step 74 = .ok (.aload_n 0, 1) := by decide +kernel
theorem dX6_step_75 : decode cX6_step 75 = .ok (.getfield 39, 3) := by decide +kernel
theorem dX6_step_78 : decode cX6_step 78 = .ok (.invokevirtual 50, 3) := by decide +kernel
theorem dX6_step_81 : decode cX6_step 81 = .ok (.invokestatic 54, 3) := by decide +kernel
theorem dX6_step_84 : decode cX6_step 84 = .ok (.putfield 29, 3) := by decide +kernel
theorem dX6_step_87 : decode cX6_step 87 = .ok (.aload_n 0, 1) := by decide +kernel
theorem dX6_step_88 : decode cX6_step 88 = .ok (.iload_n 2, 1) := by decide +kernel
theorem dX6_step_89 : decode cX6_step 89 = .ok (.ifCond .eq 31, 3) := by decide +kernel
theorem dX6_step_92 : decode cX6_step 92 = .ok (.aload_n 0, 1) := by decide +kernel
theorem dX6_step_93 : decode cX6_step 93 = .ok (.getfield 39, 3) := by decide +kernel
theorem dX6_step_96 : decode cX6_step 96 = .ok (.iload_n 1, 1) := by decide +kernel
theorem dX6_step_97 : decode cX6_step 97 = .ok (.if_icmp .ne 23, 3) := by decide +kernel
theorem dX6_step_100 : decode cX6_step 100 = .ok (.aload_n 0, 1) := by decide +kernel
theorem dX6_step_101 : decode cX6_step 101 = .ok (.getfield 29, 3) := by decide +kernel
theorem dX6_step_104 : decode cX6_step 104 = .ok (.iconst 1, 1) := by decide +kernel
theorem dX6_step_105 : decode cX6_step 105 = .ok (.if_icmp .eq 11, 3) := by decide +kernel
theorem dX6_step_108 : decode cX6_step 108 = .ok (.aload_n 0, 1) := by decide +kernel
theorem dX6_step_109 : decode cX6_step 109 = .ok (.getfield 29, 3) := by decide +kernel
theorem dX6_step_112 : decode cX6_step 112 = .ok (.iconst 2, 1) := by decide +kernel
theorem dX6_step_113 : decode cX6_step 113 = .ok (.if_icmp .ne 7, 3) := by decide +kernel
theorem dX6_step_116 : decode cX6_step 116 = .ok (.iconst 1, 1) := by decide +kernel
theorem dX6_step_117 : decode cX6_step 117 = .ok (.goto 4, 3) := by decide +kernel
theorem dX6_step_120 : decode cX6_step 120 = .ok (.iconst 0, 1) := by decide +kernel
theorem dX6_step_121 : decode cX6_step 121 = .ok (.putfield 57, 3) := by decide +kernel
theorem dX6_step_124 : decode cX6_step 124 = .ok (.aload_n 0, 1) := by decide +kernel
theorem dX6_step_125 : decode cX6_step 125 = .ok (.getfield 29, 3) := by decide +kernel
theorem dX6_step_128 : decode cX6_step 128 = .ok (.ifCond .ne 12, 3) := by decide +kernel
theorem dX6_step_131 : decode cX6_step 131 = .ok (.aload_n 0, 1) := by decide +kernel
theorem dX6_step_132 : decode cX6_step 132 = .ok (.aload_n 0, 1) := by decide +kernel
theorem dX6_step_133 : decode cX6_step 133 = .ok (.getfield 39, 3) := by decide +kernel
theorem dX6_step_136 : decode cX6_step 136 = .ok (.putfield 26, 3) := by decide +kernel
theorem dX6_step_139 : decode cX6_step 139 = .ok (.return_, 1) := by decide +kernel
theorem dX6_step_140 : decode cX6_step 140 = .ok (.aload_n 0, 1) := by decide +kernel
theorem dX6_step_141 : decode cX6_step 141 = .ok (.aload_n 0, 1) := by decide +kernel
theorem dX6_step_142 : decode cX6_step 142 = .ok (.getfield 39, 3) := by decide +kernel
theorem dX6_step_145 : decode cX6_step 145 = .ok (.iconst 1, 1) := by decide +kernel
theorem dX6_step_146 : decode cX6_step 146 = .ok (.iadd, 1) := by decide +kernel
theorem dX6_step_147 : decode cX6_step 147 = .ok (.putfield 26, 3) := by decide +kernel
theorem dX6_step_150 : decode cX6_step 150 = .ok (.aload_n 0, 1) := by decide +kernel
theorem dX6_step_151 : decode cX6_step 151 = .ok (.getfield 29, 3) := by decide +kernel
theorem dX6_step_154 : decode cX6_step 154 = .ok (.iconst 3, 1) := by decide +kernel
theorem dX6_step_155 : decode cX6_step 155 = .ok (.if_icmp .eq 45, 3) := by decide +kernel
theorem dX6_step_158 : decode cX6_step 158 = .ok (.aload_n 0, 1) := by decide +kernel
theorem dX6_step_159 : decode cX6_step 159 = .ok (.getfield 26, 3) := by decide +kernel
theorem dX6_step_162 : decode cX6_step 162 = .ok (.aload_n 0, 1) := by decide +kernel
theorem dX6_step_163 : decode cX6_step 163 = .ok (.getfield 22, 3) := by decide +kernel
theorem dX6_step_166 : decode cX6_step 166 = .ok (.if_icmp .ge 34, 3) := by decide +kernel
theorem dX6_step_169 : decode cX6_step 169 = .ok (.aload_n 0, 1) := by decide +kernel
theorem dX6_step_170 : decode cX6_step 170 = .ok (.aload_n 0, 1) := by decide +kernel
theorem dX6_step_171 : decode cX6_step 171 = .ok (.getfield 26, 3) := by decide +kernel
theorem dX6_step_174 : decode cX6_step 174 = .ok (.invokevirtual 50, 3) := by decide +kernel
theorem dX6_step_177 : decode cX6_step 177 = .ok (.invokestatic 54, 3) := by decide +kernel
theorem dX6_step_180 : decode cX6_step 180 = .ok (.aload_n 0, 1) := by decide +kernel
theorem dX6_step_181 : decode cX6_step 181 = .ok (.getfield 29, 3) := by decide +kernel
theorem dX6_step_184 : decode cX6_step 184 = .ok (.if_icmp .ne 16, 3) := by decide +kernel
theorem dX6_step_187 : decode cX6_step 187 = .ok (.aload_n 0, 1) := by decide +kernel
theorem dX6_step_188 : decode cX6_step 188 = .ok (.dup, 1) := by decide +kernel
theorem dX6_step_189 : decode cX6_step 189 = .ok (.getfield 26, 3) := by decide +kernel
theorem dX6_step_192 : decode cX6_step 192 = .ok (.iconst 1, 1) := by decide +kernel
theorem dX6_step_193 : decode cX6_step 193 = .ok (.iadd, 1) := by decide +kernel
theorem dX6_step_194 : decode cX6_step 194 = .ok (.putfield 26, 3) := by decide +kernel
theorem dX6_step_197 : decode cX6_step 197 = .ok (.goto (-47), 3) := by decide +kernel
theorem dX6_step_200 : decode cX6_step 200 = .ok (.return_, 1) := by decide +kernel
theorem dX6_keyAtHand_0 : decode cX6_keyAtHand 0 = .ok (.iconst 0, 1) := by decide +kernel
theorem dX6_keyAtHand_1 : decode cX6_keyAtHand 1 = .ok (.istore_n 1, 1) := by decide +kernel
theorem dX6_keyAtHand_2 : decode cX6_keyAtHand 2 = .ok (.iload_n 1, 1) := by decide +kernel
theorem dX6_keyAtHand_3 : decode cX6_keyAtHand 3 = .ok (.iconst 2, 1) := by decide +kernel
theorem dX6_keyAtHand_4 : decode cX6_keyAtHand 4 = .ok (.if_icmp .gt 22, 3) := by decide +kernel
theorem dX6_keyAtHand_7 : decode cX6_keyAtHand 7 = .ok (.aload_n 0, 1) := by decide +kernel
theorem dX6_keyAtHand_8 : decode cX6_keyAtHand 8 = .ok (.iload_n 1, 1) := by decide +kernel
theorem dX6_keyAtHand_9 : decode cX6_keyAtHand 9 = .ok (.invokestatic 61, 3) := by decide +kernel
theorem dX6_keyAtHand_12 : decode cX6_keyAtHand 12 = .ok (.invokevirtual 65, 3) := by decide +kernel
theorem dX6_keyAtHand_15 : decode cX6_keyAtHand 15 = .ok (.ifCond .eq 5, 3) := by decide +kernel
theorem dX6_keyAtHand_18 : decode cX6_keyAtHand 18 = .ok (.iload_n 1, 1) := by decide +kernel
theorem dX6_keyAtHand_19 : decode cX6_keyAtHand 19 = .ok (.ireturn, 1) := by decide +kernel
theorem dX6_keyAtHand_20 : decode cX6_keyAtHand 20 = .ok (.iinc 1 1, 3) := by decide +kernel
theorem dX6_keyAtHand_23 : decode cX6_keyAtHand 23 = .ok (.goto (-21), 3) := by decide +kernel
theorem dX6_keyAtHand_26 : decode cX6_keyAtHand 26 = .ok (.iconst (-1), 1) := by decide +kernel
theorem dX6_keyAtHand_27 : decode cX6_keyAtHand 27 = .ok (.ireturn, 1) := by decide +kernel
theorem dX6_isWord_0 : decode cX6_isWord 0 = .ok (.aload_n 0, 1) := by decide +kernel
theorem dX6_isWord_1 : decode cX6_isWord 1 = .ok (.getfield 26, 3) := by decide +kernel
theorem dX6_isWord_4 : decode cX6_isWord 4 = .ok (.aload_n 0, 1) := by decide +kernel
theorem dX6_isWord_5 : decode cX6_isWord 5 = .ok (.getfield 39, 3) := by decide +kernel
theorem dX6_isWord_8 : decode cX6_isWord 8 = .ok (.isub, 1) := by decide +kernel
theorem dX6_isWord_9 : decode cX6_isWord 9 = .ok (.aload_n 1, 1) := by decide +kernel
theorem dX6_isWord_10 : decode cX6_isWord 10 = .ok (.invokevirtual 69, 3) := by decide +kernel
theorem dX6_isWord_13 : decode cX6_isWord 13 = .ok (.if_icmp .eq 5, 3) := by decide +kernel
theorem dX6_isWord_16 : decode cX6_isWord 16 = .ok (.iconst 0, 1) := by decide +kernel
theorem dX6_isWord_17 : decode cX6_isWord 17 = .ok (.ireturn, 1) := by decide +kernel
theorem dX6_isWord_18 : decode cX6_isWord 18 = .ok (.iconst 0, 1) := by decide +kernel
theorem dX6_isWord_19 : decode cX6_isWord 19 = .ok (.istore_n 2, 1) := by decide +kernel
theorem dX6_isWord_20 : decode cX6_isWord 20 = .ok (.iload_n 2, 1) := by decide +kernel
theorem dX6_isWord_21 : decode cX6_isWord 21 = .ok (.aload_n 1, 1) := by decide +kernel
theorem dX6_isWord_22 : decode cX6_isWord 22 = .ok (.invokevirtual 69, 3) := by decide +kernel
theorem dX6_isWord_25 : decode cX6_isWord 25 = .ok (.if_icmp .ge 29, 3) := by decide +kernel
theorem dX6_isWord_28 : decode cX6_isWord 28 = .ok (.aload_n 0, 1) := by decide +kernel
theorem dX6_isWord_29 : decode cX6_isWord 29 = .ok (.aload_n 0, 1) := by decide +kernel
theorem dX6_isWord_30 : decode cX6_isWord 30 = .ok (.getfield 39, 3) := by decide +kernel
theorem dX6_isWord_33 : decode cX6_isWord 33 = .ok (.iload_n 2, 1) := by decide +kernel
theorem dX6_isWord_34 : decode cX6_isWord 34 = .ok (.iadd, 1) := by decide +kernel
theorem dX6_isWord_35 : decode cX6_isWord 35 = .ok (.invokevirtual 50, 3) := by decide +kernel
theorem dX6_isWord_38 : decode cX6_isWord 38 = .ok (.aload_n 1, 1) := by decide +kernel
theorem dX6_isWord_39 : decode cX6_isWord 39 = .ok (.iload_n 2, 1) := by decide +kernel
theorem dX6_isWord_40 : decode cX6_isWord 40 = .ok (.invokevirtual 73, 3) := by decide +kernel
theorem dX6_isWord_43 : decode cX6_isWord 43 = .ok (.if_icmp .eq 5, 3) := by decide +kernel
theorem dX6_isWord_46 : decode cX6_isWord 46 = .ok (.iconst 0, 1) := by decide +kernel
theorem dX6_isWord_47 : decode cX6_isWord 47 = .ok (.ireturn, 1) := by decide +kernel
theorem dX6_isWord_48 : decode cX6_isWord 48 = .ok (.iinc 2 1, 3) := by decide +kernel
theorem dX6_isWord_51 : decode cX6_isWord 51 = .ok (.goto (-31), 3) := by decide +kernel
theorem dX6_isWord_54 : decode cX6_isWord 54 = .ok (.iconst 1, 1) := by decide +kernel
theorem dX6_isWord_55 : decode cX6_isWord 55 = .ok (.ireturn, 1) := by decide +kernel
theorem dX6_wordOf_0 : decode cX6_wordOf 0 = .ok (.iload_n 0, 1) := by decide +kernel
theorem dX6_wordOf_1 : decode cX6_wordOf 1 = .ok (.ifCond .ne 8, 3) := by decide +kernel
theorem dX6_wordOf_4 : decode cX6_wordOf 4 = .ok (.ldc 77, 2) := by decide +kernel
theorem dX6_wordOf_6 : decode cX6_wordOf 6 = .ok (.goto 15, 3) := by decide +kernel
theorem dX6_wordOf_9 : decode cX6_wordOf 9 = .ok (.iload_n 0, 1) := by decide +kernel
theorem dX6_wordOf_10 : decode cX6_wordOf 10 = .ok (.iconst 1, 1) := by decide +kernel
theorem dX6_wordOf_11 : decode cX6_wordOf 11 = .ok (.if_icmp .ne 8, 3) := by decide +kernel
theorem dX6_wordOf_14 : decode cX6_wordOf 14 = .ok (.ldc 79, 2) := by decide +kernel
theorem dX6_wordOf_16 : decode cX6_wordOf 16 = .ok (.goto 5, 3) := by decide +kernel
theorem dX6_wordOf_19 : decode cX6_wordOf 19 = .ok (.ldc 81, 2) := by decide +kernel
theorem dX6_wordOf_21 : decode cX6_wordOf 21 = .ok (.areturn, 1) := by decide +kernel
theorem dX6_namesOf_0 : decode cX6_namesOf 0 = .ok (.iload_n 0, 1) := by decide +kernel
theorem dX6_namesOf_1 : decode cX6_namesOf 1 = .ok (.ifCond .ne 8, 3) := by decide +kernel
theorem dX6_namesOf_4 : decode cX6_namesOf 4 = .ok (.ldc 83, 2) := by decide +kernel
theorem dX6_namesOf_6 : decode cX6_namesOf 6 = .ok (.goto 15, 3) := by decide +kernel
theorem dX6_namesOf_9 : decode cX6_namesOf 9 = .ok (.iload_n 0, 1) := by decide +kernel
theorem dX6_namesOf_10 : decode cX6_namesOf 10 = .ok (.iconst 1, 1) := by decide +kernel
theorem dX6_namesOf_11 : decode cX6_namesOf 11 = .ok (.if_icmp .ne 8, 3) := by decide +kernel
theorem dX6_namesOf_14 : decode cX6_namesOf 14 = .ok (.ldc 85, 2) := by decide +kernel
theorem dX6_namesOf_16 : decode cX6_namesOf 16 = .ok (.goto 5, 3) := by decide +kernel
theorem dX6_namesOf_19 : decode cX6_namesOf 19 = .ok (.ldc 87, 2) := by decide +kernel
theorem dX6_namesOf_21 : decode cX6_namesOf 21 = .ok (.areturn, 1) := by decide +kernel
theorem dX6_signsOf_0 : decode cX6_signsOf 0 = .ok (.iload_n 0, 1) := by decide +kernel
theorem dX6_signsOf_1 : decode cX6_signsOf 1 = .ok (.tableswitch 43 0 3 #[31, 34, 37, 40], 31) := by decide +kernel
theorem dX6_signsOf_32 : decode cX6_signsOf 32 = .ok (.ldc 89, 2) := by decide +kernel
theorem dX6_signsOf_34 : decode cX6_signsOf 34 = .ok (.areturn, 1) := by decide +kernel
theorem dX6_signsOf_35 : decode cX6_signsOf 35 = .ok (.ldc 91, 2) := by decide +kernel
theorem dX6_signsOf_37 : decode cX6_signsOf 37 = .ok (.areturn, 1) := by decide +kernel
theorem dX6_signsOf_38 : decode cX6_signsOf 38 = .ok (.ldc 93, 2) := by decide +kernel
theorem dX6_signsOf_40 : decode cX6_signsOf 40 = .ok (.areturn, 1) := by decide +kernel
theorem dX6_signsOf_41 : decode cX6_signsOf 41 = .ok (.ldc 95, 2) := by decide +kernel
theorem dX6_signsOf_43 : decode cX6_signsOf 43 = .ok (.areturn, 1) := by decide +kernel
theorem dX6_signsOf_44 : decode cX6_signsOf 44 = .ok (.ldc 97, 2) := by decide +kernel
theorem dX6_signsOf_46 : decode cX6_signsOf 46 = .ok (.areturn, 1) := by decide +kernel
theorem dX6_isSignOf_0 : decode cX6_isSignOf 0 = .ok (.aload_n 0, 1) := by decide +kernel
theorem dX6_isSignOf_1 : decode cX6_isSignOf 1 = .ok (.getfield 29, 3) := by decide +kernel
theorem dX6_isSignOf_4 : decode cX6_isSignOf 4 = .ok (.iconst 3, 1) := by decide +kernel
theorem dX6_isSignOf_5 : decode cX6_isSignOf 5 = .ok (.if_icmp .ne 23, 3) := by decide +kernel
theorem dX6_isSignOf_8 : decode cX6_isSignOf 8 = .ok (.aload_n 1, 1) := by decide +kernel
theorem dX6_isSignOf_9 : decode cX6_isSignOf 9 = .ok (.aload_n 0, 1) := by decide +kernel
theorem dX6_isSignOf_10 : decode cX6_isSignOf 10 = .ok (.aload_n 0, 1) := by decide +kernel
theorem dX6_isSignOf_11 : decode cX6_isSignOf 11 = .ok (.getfield 39, 3) := by decide +kernel
theorem dX6_isSignOf_14 : decode cX6_isSignOf 14 = .ok (.invokevirtual 50, 3) := by decide +kernel
theorem dX6_isSignOf_17 : decode cX6_isSignOf 17 = .ok (.i2c, 1) := by decide +kernel
theorem dX6_isSignOf_18 : decode cX6_isSignOf 18 = .ok (.invokevirtual 99, 3) := by decide +kernel
theorem dX6_isSignOf_21 : decode cX6_isSignOf 21 = .ok (.ifCond .lt 7, 3) := by decide +kernel
theorem dX6_isSignOf_24 : decode cX6_isSignOf 24 = .ok (.iconst 1, 1) := by decide +kernel
theorem dX6_isSignOf_25 : decode cX6_isSignOf 25 = .ok (.goto 4, 3) := by decide +kernel
theorem dX6_isSignOf_28 : decode cX6_isSignOf 28 = .ok (.iconst 0, 1) := by decide +kernel
theorem dX6_isSignOf_29 : decode cX6_isSignOf 29 = .ok (.ireturn, 1) := by decide +kernel
theorem dX6_level_0 : decode cX6_level 0 = .ok (.iload_n 1, 1) := by decide +kernel
theorem dX6_level_1 : decode cX6_level 1 = .ok (.iconst 5, 1) := by decide +kernel
theorem dX6_level_2 : decode cX6_level 2 = .ok (.if_icmp .lt 10, 3) := by decide +kernel
theorem dX6_level_5 : decode cX6_level 5 = .ok (.aload_n 0, 1) := by decide +kernel
theorem dX6_level_6 : decode cX6_level 6 = .ok (.iload_n 2, 1) := by decide +kernel
theorem dX6_level_7 : decode cX6_level 7 = .ok (.iload_n 3, 1) := by decide +kernel
theorem dX6_level_8 : decode cX6_level 8 = .ok (.invokevirtual 102, 3) := by decide +kernel
theorem dX6_level_11 : decode cX6_level 11 = .ok (.ireturn, 1) := by decide +kernel
theorem dX6_level_12 : decode cX6_level 12 = .ok (.aload_n 0, 1) := by decide +kernel
theorem dX6_level_13 : decode cX6_level 13 = .ok (.iload_n 1, 1) := by decide +kernel
theorem dX6_level_14 : decode cX6_level 14 = .ok (.iconst 1, 1) := by decide +kernel
theorem dX6_level_15 : decode cX6_level 15 = .ok (.iadd, 1) := by decide +kernel
theorem dX6_level_16 : decode cX6_level 16 = .ok (.iload_n 2, 1) := by decide +kernel
theorem dX6_level_17 : decode cX6_level 17 = .ok (.iload_n 3, 1) := by decide +kernel
theorem dX6_level_18 : decode cX6_level 18 = .ok (.invokevirtual 46, 3) := by decide +kernel
theorem dX6_level_21 : decode cX6_level 21 = .ok (.ifCond .ne 5, 3) := by decide +kernel
theorem dX6_level_24 : decode cX6_level 24 = .ok (.iconst 0, 1) := by decide +kernel
theorem dX6_level_25 : decode cX6_level 25 = .ok (.ireturn, 1) := by decide +kernel
theorem dX6_level_26 : decode cX6_level 26 = .ok (.iconst 0, 1) := by decide +kernel
theorem dX6_level_27 : decode cX6_level 27 = .ok (.istore 4, 2) := by decide +kernel
theorem dX6_level_29 : decode cX6_level 29 = .ok (.iload 4, 2) := by decide +kernel
theorem dX6_level_31 : decode cX6_level 31 = .ok (.bipush 96, 2) := by decide +kernel
theorem dX6_level_33 : decode cX6_level 33 = .ok (.if_icmp .ge 64, 3) := by decide +kernel
theorem dX6_level_36 : decode cX6_level 36 = .ok (.aload_n 0, 1) := by decide +kernel
theorem dX6_level_37 : decode cX6_level 37 = .ok (.iload_n 1, 1) := by decide +kernel
theorem dX6_level_38 : decode cX6_level 38 = .ok (.invokestatic 106, 3) := by decide +kernel
theorem dX6_level_41 : decode cX6_level 41 = .ok (.invokevirtual 109, 3) := by decide +kernel
theorem dX6_level_44 : decode cX6_level 44 = .ok (.ifCond .eq 53, 3) := by decide +kernel
theorem dX6_level_47 : decode cX6_level 47 = .ok (.aload_n 0, 1) := by decide +kernel
theorem dX6_level_48 : decode cX6_level 48 = .ok (.aload_n 0, 1) := by decide +kernel
theorem dX6_level_49 : decode cX6_level 49 = .ok (.getfield 39, 3) := by decide +kernel
theorem dX6_level_52 : decode cX6_level 52 = .ok (.invokevirtual 50, 3) := by decide +kernel
theorem dX6_level_55 : decode cX6_level 55 = .ok (.istore 5, 2) := by decide +kernel
theorem dX6_level_57 : decode cX6_level 57 = .ok (.aload_n 0, 1) := by decide +kernel
theorem dX6_level_58 : decode cX6_level 58 = .ok (.invokevirtual 32, 3) := by decide +kernel
theorem dX6_level_61 : decode cX6_level 61 = .ok (.aload_n 0, 1) := by decide +kernel
theorem dX6_level_62 : decode cX6_level 62 = .ok (.iload_n 1, 1) := by decide +kernel
theorem dX6_level_63 : decode cX6_level 63 = .ok (.iconst 1, 1) := by decide +kernel
theorem dX6_level_64 : decode cX6_level 64 = .ok (.iadd, 1) := by decide +kernel
theorem dX6_level_65 : decode cX6_level 65 = .ok (.iload_n 2, 1) := by decide +kernel
theorem dX6_level_66 : decode cX6_level 66 = .ok (.iload_n 3, 1) := by decide +kernel
theorem dX6_level_67 : decode cX6_level 67 = .ok (.invokevirtual 46, 3) := by decide +kernel
theorem dX6_level_70 : decode cX6_level 70 = .ok (.ifCond .ne 5, 3) := by decide +kernel
theorem dX6_level_73 : decode cX6_level 73 = .ok (.iconst 0, 1) := by decide +kernel
theorem dX6_level_74 : decode cX6_level 74 = .ok (.ireturn, 1) := by decide +kernel
theorem dX6_level_75 : decode cX6_level 75 = .ok (.aload_n 0, 1) := by decide +kernel
theorem dX6_level_76 : decode cX6_level 76 = .ok (.getfield 18, 3) := by decide +kernel
theorem dX6_level_79 : decode cX6_level 79 = .ok (.iload 5, 2) := by decide +kernel
theorem dX6_level_81 : decode cX6_level 81 = .ok (.invokevirtual 112, 3) := by decide +kernel
theorem dX6_level_84 : decode cX6_level 84 = .ok (.iload_n 1, 1) := by decide +kernel
theorem dX6_level_85 : decode cX6_level 85 = .ok (.iconst 2, 1) := by decide +kernel
theorem dX6_level_86 : decode cX6_level 86 = .ok (.if_icmp .ne 5, 3) := by decide +kernel
theorem dX6_level_89 : decode cX6_level 89 = .ok (.iconst 1, 1) := by decide +kernel
theorem dX6_level_90 : decode cX6_level 90 = .ok (.ireturn, 1) := by decide +kernel
theorem dX6_level_91 : decode cX6_level 91 = .ok (.iinc 4 1, 3) := by decide +kernel
theorem dX6_level_94 : decode cX6_level 94 = .ok (.goto (-65), 3) := by decide +kernel
theorem dX6_level_97 : decode cX6_level 97 = .ok (.iconst 1, 1) := by decide +kernel
theorem dX6_level_98 : decode cX6_level 98 = .ok (.ireturn, 1) := by decide +kernel
theorem dX6_piece_0 : decode cX6_piece 0 = .ok (.aload_n 0, 1) := by decide +kernel
theorem dX6_piece_1 : decode cX6_piece 1 = .ok (.getfield 57, 3) := by decide +kernel
theorem dX6_piece_4 : decode cX6_piece 4 = .ok (.ifCond .eq 5, 3) := by decide +kernel
theorem dX6_piece_7 : decode cX6_piece 7 = .ok (.iconst 0, 1) := by decide +kernel
theorem dX6_piece_8 : decode cX6_piece 8 = .ok (.ireturn, 1) := by decide +kernel
theorem dX6_piece_9 : decode cX6_piece 9 = .ok (.aload_n 0, 1) := by decide +kernel
theorem dX6_piece_10 : decode cX6_piece 10 = .ok (.getfield 29, 3) := by decide +kernel
theorem dX6_piece_13 : decode cX6_piece 13 = .ok (.iconst 2, 1) := by decide +kernel
theorem dX6_piece_14 : decode cX6_piece 14 = .ok (.if_icmp .ne 8, 3) := by decide +kernel
theorem dX6_piece_17 : decode cX6_piece 17 = .ok (.aload_n 0, 1) := by decide +kernel
theorem dX6_piece_18 : decode cX6_piece 18 = .ok (.invokevirtual 115, 3) := by decide +kernel
theorem dX6_piece_21 : decode cX6_piece 21 = .ok (.ireturn, 1) := by decide +kernel
theorem dX6_piece_22 : decode cX6_piece 22 = .ok (.aload_n 0, 1) := by decide +kernel
theorem dX6_piece_23 : decode cX6_piece 23 = .ok (.getfield 29, 3) := by decide +kernel
theorem dX6_piece_26 : decode cX6_piece 26 = .ok (.iconst 1, 1) := by decide +kernel
theorem dX6_piece_27 : decode cX6_piece 27 = .ok (.if_icmp .ne 8, 3) := by decide +kernel
theorem dX6_piece_30 : decode cX6_piece 30 = .ok (.aload_n 0, 1) := by decide +kernel
theorem dX6_piece_31 : decode cX6_piece 31 = .ok (.invokevirtual 119, 3) := by decide +kernel
theorem dX6_piece_34 : decode cX6_piece 34 = .ok (.ireturn, 1) := by decide +kernel
theorem dX6_piece_35 : decode cX6_piece 35 = .ok (.iload_n 2, 1) := by decide +kernel
theorem dX6_piece_36 : decode cX6_piece 36 = .ok (.bipush 8, 2) := by decide +kernel
theorem dX6_piece_38 : decode cX6_piece 38 = .ok (.if_icmp .ge 40, 3) := by decide +kernel
theorem dX6_piece_41 : decode cX6_piece 41 = .ok (.aload_n 0, 1) := by decide +kernel
theorem dX6_piece_42 : decode cX6_piece 42 = .ok (.ldc 122, 2) := by decide +kernel
theorem dX6_piece_44 : decode cX6_piece 44 = .ok (.invokevirtual 109, 3) := by decide +kernel
theorem dX6_piece_47 : decode cX6_piece 47 = .ok (.ifCond .eq 31, 3) := by decide +kernel
theorem dX6_piece_50 : decode cX6_piece 50 = .ok (.aload_n 0, 1) := by decide +kernel
theorem dX6_piece_51 : decode cX6_piece 51 = .ok (.invokevirtual 32, 3) := by decide +kernel
theorem dX6_piece_54 : decode cX6_piece 54 = .ok (.aload_n 0, 1) := by decide +kernel
theorem dX6_piece_55 : decode cX6_piece 55 = .ok (.iload_n 1, 1) := by decide +kernel
theorem dX6_piece_56 : decode cX6_piece 56 = .ok (.iload_n 2, 1) := by decide +kernel
theorem dX6_piece_57 : decode cX6_piece 57 = .ok (.iconst 1, 1) := by decide +kernel
theorem dX6_piece_58 : decode cX6_piece 58 = .ok (.iadd, 1) := by decide +kernel
theorem dX6_piece_59 : decode cX6_piece 59 = .ok (.invokevirtual 102, 3) := by decide +kernel
theorem dX6_piece_62 : decode cX6_piece 62 = .ok (.ifCond .ne 5, 3) := by decide +kernel
theorem dX6_piece_65 : decode cX6_piece 65 = .ok (.iconst 0, 1) := by decide +kernel
theorem dX6_piece_66 : decode cX6_piece 66 = .ok (.ireturn, 1) := by decide +kernel
theorem dX6_piece_67 : decode cX6_piece 67 = .ok (.aload_n 0, 1) := by decide +kernel
theorem dX6_piece_68 : decode cX6_piece 68 = .ok (.getfield 18, 3) := by decide +kernel
theorem dX6_piece_71 : decode cX6_piece 71 = .ok (.bipush 33, 2) := by decide +kernel
theorem dX6_piece_73 : decode cX6_piece 73 = .ok (.invokevirtual 112, 3) := by decide +kernel
theorem dX6_piece_76 : decode cX6_piece 76 = .ok (.iconst 1, 1) := by decide +kernel
theorem dX6_piece_77 : decode cX6_piece 77 = .ok (.ireturn, 1) := by decide +kernel
theorem dX6_piece_78 : decode cX6_piece 78 = .ok (.iload_n 1, 1) := by decide +kernel
theorem dX6_piece_79 : decode cX6_piece 79 = .ok (.bipush 8, 2) := by decide +kernel
theorem dX6_piece_81 : decode cX6_piece 81 = .ok (.if_icmp .ge 45, 3) := by decide +kernel
theorem dX6_piece_84 : decode cX6_piece 84 = .ok (.aload_n 0, 1) := by decide +kernel
theorem dX6_piece_85 : decode cX6_piece 85 = .ok (.ldc 124, 2) := by decide +kernel
theorem dX6_piece_87 : decode cX6_piece 87 = .ok (.invokevirtual 109, 3) := by decide +kernel
theorem dX6_piece_90 : decode cX6_piece 90 = .ok (.ifCond .eq 36, 3) := by decide +kernel
theorem dX6_piece_93 : decode cX6_piece 93 = .ok (.aload_n 0, 1) := by decide +kernel
theorem dX6_piece_94 : decode cX6_piece 94 = .ok (.invokevirtual 32, 3) := by decide +kernel
theorem dX6_piece_97 : decode cX6_piece 97 = .ok (.aload_n 0, 1) := by decide +kernel
theorem dX6_piece_98 : decode cX6_piece 98 = .ok (.iconst 0, 1) := by decide +kernel
theorem dX6_piece_99 : decode cX6_piece 99 = .ok (.iload_n 1, 1) := by decide +kernel
theorem dX6_piece_100 : decode cX6_piece 100 = .ok (.iconst 1, 1) := by decide +kernel
theorem dX6_piece_101 : decode cX6_piece 101 = .ok (.iadd, 1) := by decide +kernel
theorem dX6_piece_102 : decode cX6_piece 102 = .ok (.iload_n 2, 1) := by decide +kernel
theorem dX6_piece_103 : decode cX6_piece 103 = .ok (.invokevirtual 46, 3) := by decide +kernel
theorem dX6_piece_106 : decode cX6_piece 106 = .ok (.ifCond .eq 12, 3) := by decide +kernel
theorem dX6_piece_109 : decode cX6_piece 109 = .ok (.aload_n 0, 1) := by decide +kernel
theorem dX6_piece_110 : decode cX6_piece 110 = .ok (.ldc 126, 2) := by decide +kernel
theorem dX6_piece_112 : decode cX6_piece 112 = .ok (.invokevirtual 109, 3) := by decide +kernel
theorem dX6_piece_115 : decode cX6_piece 115 = .ok (.ifCond .ne 5, 3) := by decide +kernel
theorem dX6_piece_118 : decode cX6_piece 118 = .ok (.iconst 0, 1) := by decide +kernel
theorem dX6_piece_119 : decode cX6_piece 119 = .ok (.ireturn, 1) := by decide +kernel
theorem dX6_piece_120 : decode cX6_piece 120 = .ok (.aload_n 0, 1) := by decide +kernel
theorem dX6_piece_121 : decode cX6_piece 121 = .ok (.invokevirtual 32, 3) := by decide +kernel
theorem dX6_piece_124 : decode cX6_piece 124 = .ok (.iconst 1, 1) := by decide +kernel
theorem dX6_piece_125 : decode cX6_piece 125 = .ok (.ireturn, 1) := by decide +kernel
theorem dX6_piece_126 : decode cX6_piece 126 = .ok (.iconst 0, 1) := by decide +kernel
theorem dX6_piece_127 : decode cX6_piece 127 = .ok (.ireturn, 1) := by decide +kernel
theorem dX6_number_0 : decode cX6_number 0 = .ok (.aload_n 0, 1) := by decide +kernel
theorem dX6_number_1 : decode cX6_number 1 = .ok (.getfield 26, 3) := by decide +kernel
theorem dX6_number_4 : decode cX6_number 4 = .ok (.aload_n 0, 1) := by decide +kernel
theorem dX6_number_5 : decode cX6_number 5 = .ok (.getfield 39, 3) := by decide +kernel
theorem dX6_number_8 : decode cX6_number 8 = .ok (.isub, 1) := by decide +kernel
theorem dX6_number_9 : decode cX6_number 9 = .ok (.iconst 4, 1) := by decide +kernel
theorem dX6_number_10 : decode cX6_number 10 = .ok (.if_icmp .le 5, 3) := by decide +kernel
theorem dX6_number_13 : decode cX6_number 13 = .ok (.iconst 0, 1) := by decide +kernel
theorem dX6_number_14 : decode cX6_number 14 = .ok (.ireturn, 1) := by decide +kernel
theorem dX6_number_15 : decode cX6_number 15 = .ok (.iconst 0, 1) := by decide +kernel
theorem dX6_number_16 : decode cX6_number 16 = .ok (.istore_n 1, 1) := by decide +kernel
theorem dX6_number_17 : decode cX6_number 17 = .ok (.aload_n 0, 1) := by decide +kernel
theorem dX6_number_18 : decode cX6_number 18 = .ok (.getfield 39, 3) := by decide +kernel
theorem dX6_number_21 : decode cX6_number 21 = .ok (.istore_n 2, 1) := by decide +kernel
theorem dX6_number_22 : decode cX6_number 22 = .ok (.iload_n 2, 1) := by decide +kernel
theorem dX6_number_23 : decode cX6_number 23 = .ok (.aload_n 0, 1) := by decide +kernel
theorem dX6_number_24 : decode cX6_number 24 = .ok (.getfield 26, 3) := by decide +kernel
theorem dX6_number_27 : decode cX6_number 27 = .ok (.if_icmp .ge 23, 3) := by decide +kernel
theorem dX6_number_30 : decode cX6_number 30 = .ok (.iload_n 1, 1) := by decide +kernel
theorem dX6_number_31 : decode cX6_number 31 = .ok (.bipush 10, 2) := by decide +kernel
theorem dX6_number_33 : decode cX6_number 33 = .ok (.imul, 1) := by decide +kernel
theorem dX6_number_34 : decode cX6_number 34 = .ok (.aload_n 0, 1) := by decide +kernel
theorem dX6_number_35 : decode cX6_number 35 = .ok (.iload_n 2, 1) := by decide +kernel
theorem dX6_number_36 : decode cX6_number 36 = .ok (.invokevirtual 50, 3) := by decide +kernel
theorem dX6_number_39 : decode cX6_number 39 = .ok (.iadd, 1) := by decide +kernel
theorem dX6_number_40 : decode cX6_number 40 = .ok (.bipush 48, 2) := by decide +kernel
theorem dX6_number_42 : decode cX6_number 42 = .ok (.isub, 1) := by decide +kernel
theorem dX6_number_43 : decode cX6_number 43 = .ok (.istore_n 1, 1) := by decide +kernel
theorem dX6_number_44 : decode cX6_number 44 = .ok (.iinc 2 1, 3) := by decide +kernel
theorem dX6_number_47 : decode cX6_number 47 = .ok (.goto (-25), 3) := by decide +kernel
theorem dX6_number_50 : decode cX6_number 50 = .ok (.aload_n 0, 1) := by decide +kernel
theorem dX6_number_51 : decode cX6_number 51 = .ok (.getfield 18, 3) := by decide +kernel
theorem dX6_number_54 : decode cX6_number 54 = .ok (.iload_n 1, 1) := by decide +kernel
theorem dX6_number_55 : decode cX6_number 55 = .ok (.invokevirtual 128, 3) := by decide +kernel
theorem dX6_number_58 : decode cX6_number 58 = .ok (.aload_n 0, 1) := by decide +kernel
theorem dX6_number_59 : decode cX6_number 59 = .ok (.invokevirtual 32, 3) := by decide +kernel
theorem dX6_number_62 : decode cX6_number 62 = .ok (.iconst 1, 1) := by decide +kernel
theorem dX6_number_63 : decode cX6_number 63 = .ok (.ireturn, 1) := by decide +kernel
theorem dX6_name_0 : decode cX6_name 0 = .ok (.aload_n 0, 1) := by decide +kernel
theorem dX6_name_1 : decode cX6_name 1 = .ok (.getfield 26, 3) := by decide +kernel
theorem dX6_name_4 : decode cX6_name 4 = .ok (.aload_n 0, 1) := by decide +kernel
theorem dX6_name_5 : decode cX6_name 5 = .ok (.getfield 39, 3) := by decide +kernel
theorem dX6_name_8 : decode cX6_name 8 = .ok (.isub, 1) := by decide +kernel
theorem dX6_name_9 : decode cX6_name 9 = .ok (.iconst 1, 1) := by decide +kernel
theorem dX6_name_10 : decode cX6_name 10 = .ok (.if_icmp .ne 28, 3) := by decide +kernel
theorem dX6_name_13 : decode cX6_name 13 = .ok (.aload_n 0, 1) := by decide +kernel
theorem dX6_name_14 : decode cX6_name 14 = .ok (.getfield 18, 3) := by decide +kernel
theorem dX6_name_17 : decode cX6_name 17 = .ok (.getfield 131, 3) := by decide +kernel
theorem dX6_name_20 : decode cX6_name 20 = .ok (.invokestatic 134, 3) := by decide +kernel
theorem dX6_name_23 : decode cX6_name 23 = .ok (.aload_n 0, 1) := by decide +kernel
theorem dX6_name_24 : decode cX6_name 24 = .ok (.aload_n 0, 1) := by decide +kernel
theorem dX6_name_25 : decode cX6_name 25 = .ok (.getfield 39, 3) := by decide +kernel
theorem dX6_name_28 : decode cX6_name 28 = .ok (.invokevirtual 50, 3) := by decide +kernel
theorem dX6_name_31 : decode cX6_name 31 = .ok (.i2c, 1) := by decide +kernel
theorem dX6_name_32 : decode cX6_name 32 = .ok (.invokevirtual 99, 3) := by decide +kernel
theorem dX6_name_35 : decode cX6_name 35 = .ok (.goto 4, 3) := by decide +kernel
theorem dX6_name_38 : decode cX6_name 38 = .ok (.iconst (-1), 1) := by decide +kernel
theorem dX6_name_39 : decode cX6_name 39 = .ok (.istore_n 1, 1) := by decide +kernel
theorem dX6_name_40 : decode cX6_name 40 = .ok (.iload_n 1, 1) := by decide +kernel
theorem dX6_name_41 : decode cX6_name 41 = .ok (.ifCond .ge 5, 3) := by decide +kernel
theorem dX6_name_44 : decode cX6_name 44 = .ok (.iconst 0, 1) := by decide +kernel
theorem dX6_name_45 : decode cX6_name 45 = .ok (.ireturn, 1) := by decide +kernel
theorem dX6_name_46 : decode cX6_name 46 = .ok (.aload_n 0, 1) := by decide +kernel
theorem dX6_name_47 : decode cX6_name 47 = .ok (.getfield 18, 3) := by decide +kernel
theorem dX6_name_50 : decode cX6_name 50 = .ok (.iload_n 1, 1) := by decide +kernel
theorem dX6_name_51 : decode cX6_name 51 = .ok (.invokevirtual 137, 3) := by decide +kernel
theorem dX6_name_54 : decode cX6_name 54 = .ok (.aload_n 0, 1) := by decide +kernel
theorem dX6_name_55 : decode cX6_name 55 = .ok (.invokevirtual 32, 3) := by decide +kernel
theorem dX6_name_58 : decode cX6_name 58 = .ok (.iconst 1, 1) := by decide +kernel
theorem dX6_name_59 : decode cX6_name 59 = .ok (.ireturn, 1) := by decide +kernel
theorem dX7_init_0 : decode cX7_init 0 = .ok (.aload_n 0, 1) := by decide +kernel
theorem dX7_init_1 : decode cX7_init 1 = .ok (.invokespecial 1, 3) := by decide +kernel
theorem dX7_init_4 : decode cX7_init 4 = .ok (.aload_n 0, 1) := by decide +kernel
theorem dX7_init_5 : decode cX7_init 5 = .ok (.new 7, 3) := by decide +kernel
theorem dX7_init_8 : decode cX7_init 8 = .ok (.dup, 1) := by decide +kernel
theorem dX7_init_9 : decode cX7_init 9 = .ok (.invokespecial 9, 3) := by decide +kernel
theorem dX7_init_12 : decode cX7_init 12 = .ok (.putfield 10, 3) := by decide +kernel
theorem dX7_init_15 : decode cX7_init 15 = .ok (.aload_n 0, 1) := by decide +kernel
theorem dX7_init_16 : decode cX7_init 16 = .ok (.new 16, 3) := by decide +kernel
theorem dX7_init_19 : decode cX7_init 19 = .ok (.dup, 1) := by decide +kernel
theorem dX7_init_20 : decode cX7_init 20 = .ok (.invokespecial 18, 3) := by decide +kernel
theorem dX7_init_23 : decode cX7_init 23 = .ok (.putfield 19, 3) := by decide +kernel
theorem dX7_init_26 : decode cX7_init 26 = .ok (.aload_n 0, 1) := by decide +kernel
theorem dX7_init_27 : decode cX7_init 27 = .ok (.new 23, 3) := by decide +kernel
theorem dX7_init_30 : decode cX7_init 30 = .ok (.dup, 1) := by decide +kernel
theorem dX7_init_31 : decode cX7_init 31 = .ok (.aload_n 0, 1) := by decide +kernel
theorem dX7_init_32 : decode cX7_init 32 = .ok (.getfield 10, 3) := by decide +kernel
theorem dX7_init_35 : decode cX7_init 35 = .ok (.invokespecial 25, 3) := by decide +kernel
theorem dX7_init_38 : decode cX7_init 38 = .ok (.putfield 28, 3) := by decide +kernel
theorem dX7_init_41 : decode cX7_init 41 = .ok (.aload_n 0, 1) := by decide +kernel
theorem dX7_init_42 : decode cX7_init 42 = .ok (.new 23, 3) := by decide +kernel
theorem dX7_init_45 : decode cX7_init 45 = .ok (.dup, 1) := by decide +kernel
theorem dX7_init_46 : decode cX7_init 46 = .ok (.aload_n 0, 1) := by decide +kernel
theorem dX7_init_47 : decode cX7_init 47 = .ok (.getfield 10, 3) := by decide +kernel
theorem dX7_init_50 : decode cX7_init 50 = .ok (.invokespecial 25, 3) := by decide +kernel
theorem dX7_init_53 : decode cX7_init 53 = .ok (.putfield 32, 3) := by decide +kernel
theorem dX7_init_56 : decode cX7_init 56 = .ok (.aload_n 0, 1) := by decide +kernel
theorem dX7_init_57 : decode cX7_init 57 = .ok (.new 23, 3) := by decide +kernel
theorem dX7_init_60 : decode cX7_init 60 = .ok (.dup, 1) := by decide +kernel
theorem dX7_init_61 : decode cX7_init 61 = .ok (.aload_n 0, 1) := by decide +kernel
theorem dX7_init_62 : decode cX7_init 62 = .ok (.getfield 10, 3) := by decide +kernel
theorem dX7_init_65 : decode cX7_init 65 = .ok (.invokespecial 25, 3) := by decide +kernel
theorem dX7_init_68 : decode cX7_init 68 = .ok (.putfield 35, 3) := by decide +kernel
theorem dX7_init_71 : decode cX7_init 71 = .ok (.aload_n 0, 1) := by decide +kernel
theorem dX7_init_72 : decode cX7_init 72 = .ok (.iconst 4, 1) := by decide +kernel
theorem dX7_init_73 : decode cX7_init 73 = .ok (.anewarray 38, 3) := by decide +kernel
theorem dX7_init_76 : decode cX7_init 76 = .ok (.putfield 40, 3) := by decide +kernel
theorem dX7_init_79 : decode cX7_init 79 = .ok (.iconst 0, 1) := by decide +kernel
theorem dX7_init_80 : decode cX7_init 80 = .ok (.istore_n 1, 1) := by decide +kernel
theorem dX7_init_81 : decode cX7_init 81 = .ok (.iload_n 1, 1) := by decide +kernel
theorem dX7_init_82 : decode cX7_init 82 = .ok (.iconst 4, 1) := by decide +kernel
theorem dX7_init_83 : decode cX7_init 83 = .ok (.if_icmp .ge 22, 3) := by decide +kernel
theorem dX7_init_86 : decode cX7_init 86 = .ok (.aload_n 0, 1) := by decide +kernel
theorem dX7_init_87 : decode cX7_init 87 = .ok (.getfield 40, 3) := by decide +kernel
theorem dX7_init_90 : decode cX7_init 90 = .ok (.iload_n 1, 1) := by decide +kernel
theorem dX7_init_91 : decode cX7_init 91 = .ok (.new 38, 3) := by decide +kernel
theorem dX7_init_94 : decode cX7_init 94 = .ok (.dup, 1) := by decide +kernel
theorem dX7_init_95 : decode cX7_init 95 = .ok (.invokespecial 44, 3) := by decide +kernel
theorem dX7_init_98 : decode cX7_init 98 = .ok (.aastore, 1) := by decide +kernel
theorem dX7_init_99 : decode cX7_init 99 = .ok (.iinc 1 1, 3) := by decide +kernel
theorem dX7_init_102 : decode cX7_init 102 = .ok (.goto (-21), 3) := by decide +kernel
theorem dX7_init_105 : decode cX7_init 105 = .ok (.aload_n 0, 1) := by decide +kernel
theorem dX7_init_106 : decode cX7_init 106 = .ok (.iconst 5, 1) := by decide +kernel
theorem dX7_init_107 : decode cX7_init 107 = .ok (.anewarray 45, 3) := by decide +kernel
theorem dX7_init_110 : decode cX7_init 110 = .ok (.putfield 47, 3) := by decide +kernel
theorem dX7_init_113 : decode cX7_init 113 = .ok (.iconst 0, 1) := by decide +kernel
theorem dX7_init_114 : decode cX7_init 114 = .ok (.istore_n 1, 1) := by decide +kernel
theorem dX7_init_115 : decode cX7_init 115 = .ok (.iload_n 1, 1) := by decide +kernel
theorem dX7_init_116 : decode cX7_init 116 = .ok (.iconst 5, 1) := by decide +kernel
theorem dX7_init_117 : decode cX7_init 117 = .ok (.if_icmp .ge 22, 3) := by decide +kernel
theorem dX7_init_120 : decode cX7_init 120 = .ok (.aload_n 0, 1) := by decide +kernel
theorem dX7_init_121 : decode cX7_init 121 = .ok (.getfield 47, 3) := by decide +kernel
theorem dX7_init_124 : decode cX7_init 124 = .ok (.iload_n 1, 1) := by decide +kernel
theorem dX7_init_125 : decode cX7_init 125 = .ok (.new 45, 3) := by decide +kernel
theorem dX7_init_128 : decode cX7_init 128 = .ok (.dup, 1) := by decide +kernel
theorem dX7_init_129 : decode cX7_init 129 = .ok (.invokespecial 51, 3) := by decide +kernel
theorem dX7_init_132 : decode cX7_init 132 = .ok (.aastore, 1) := by decide +kernel
theorem dX7_init_133 : decode cX7_init 133 = .ok (.iinc 1 1, 3) := by decide +kernel
theorem dX7_init_136 : decode cX7_init 136 = .ok (.goto (-21), 3) := by decide +kernel
theorem dX7_init_139 : decode cX7_init 139 = .ok (.aload_n 0, 1) := by decide +kernel
theorem dX7_init_140 : decode cX7_init 140 = .ok (.bipush 60, 2) := by decide +kernel
theorem dX7_init_142 : decode cX7_init 142 = .ok (.newarray .int, 2) := by decide +kernel
theorem dX7_init_144 : decode cX7_init 144 = .ok (.putfield 52, 3) := by decide +kernel
theorem dX7_init_147 : decode cX7_init 147 = .ok (.return_, 1) := by decide +kernel
theorem dX7_juror_0 : decode cX7_juror 0 = .ok (.iload_n 1, 1) := by decide +kernel
theorem dX7_juror_1 : decode cX7_juror 1 = .ok (.iconst 0, 1) := by decide +kernel
theorem dX7_juror_2 : decode cX7_juror 2 = .ok (.iconst 5, 1) := by decide +kernel
theorem dX7_juror_3 : decode cX7_juror 3 = .ok (.invokestatic 56, 3) := by decide +kernel
theorem dX7_juror_6 : decode cX7_juror 6 = .ok (.ifCond .eq 22, 3) := by decide +kernel
theorem dX7_juror_9 : decode cX7_juror 9 = .ok (.iload_n 2, 1) := by decide +kernel
theorem dX7_juror_10 : decode cX7_juror 10 = .ok (.iconst 0, 1) := by decide +kernel
theorem dX7_juror_11 : decode cX7_juror 11 = .ok (.iconst 1, 1) := by decide +kernel
theorem dX7_juror_12 : decode cX7_juror 12 = .ok (.invokestatic 56, 3) := by decide +kernel
theorem dX7_juror_15 : decode cX7_juror 15 = .ok (.ifCond .eq 13, 3) := by decide +kernel
theorem dX7_juror_18 : decode cX7_juror 18 = .ok (.iload_n 3, 1) := by decide +kernel
theorem dX7_juror_19 : decode cX7_juror 19 = .ok (.iconst 0, 1) := by decide +kernel
theorem dX7_juror_20 : decode cX7_juror 20 = .ok (.bipush 40, 2) := by decide +kernel
theorem dX7_juror_22 : decode cX7_juror 22 = .ok (.invokestatic 56, 3) := by decide +kernel
theorem dX7_juror_25 : decode cX7_juror 25 = .ok (.ifCond .ne 6, 3) := by decide +kernel
theorem dX7_juror_28 : decode cX7_juror 28 = .ok (.ldc 60, 2) := by decide +kernel
theorem dX7_juror_30 : decode cX7_juror 30 = .ok (.ireturn, 1) := by decide +kernel
theorem dX7_juror_31 : decode cX7_juror 31 = .ok (.aload_n 0, 1) := by decide +kernel
theorem dX7_juror_32 : decode cX7_juror 32 = .ok (.getfield 28, 3) := by decide +kernel
theorem dX7_juror_35 : decode cX7_juror 35 = .ok (.getfield 61, 3) := by decide +kernel
theorem dX7_juror_38 : decode cX7_juror 38 = .ok (.bipush 10, 2) := by decide +kernel
theorem dX7_juror_40 : decode cX7_juror 40 = .ok (.if_icmp .lt 6, 3) := by decide +kernel
theorem dX7_juror_43 : decode cX7_juror 43 = .ok (.ldc 65, 2) := by decide +kernel
theorem dX7_juror_45 : decode cX7_juror 45 = .ok (.ireturn, 1) := by decide +kernel
theorem dX7_juror_46 : decode cX7_juror 46 = .ok (.aload_n 0, 1) := by decide +kernel
theorem dX7_juror_47 : decode cX7_juror 47 = .ok (.getfield 28, 3) := by decide +kernel
theorem dX7_juror_50 : decode cX7_juror 50 = .ok (.iload_n 1, 1) := by decide +kernel
theorem dX7_juror_51 : decode cX7_juror 51 = .ok (.iload_n 2, 1) := by decide +kernel
theorem dX7_juror_52 : decode cX7_juror 52 = .ok (.iconst 0, 1) := by decide +kernel
theorem dX7_juror_53 : decode cX7_juror 53 = .ok (.iload_n 3, 1) := by decide +kernel
theorem dX7_juror_54 : decode cX7_juror 54 = .ok (.invokevirtual 66, 3) := by decide +kernel
theorem dX7_juror_57 : decode cX7_juror 57 = .ok (.aload_n 0, 1) := by decide +kernel
theorem dX7_juror_58 : decode cX7_juror 58 = .ok (.getfield 28, 3) := by decide +kernel
theorem dX7_juror_61 : decode cX7_juror 61 = .ok (.getfield 61, 3) := by decide +kernel
theorem dX7_juror_64 : decode cX7_juror 64 = .ok (.iconst 1, 1) := by decide +kernel
theorem dX7_juror_65 : decode cX7_juror 65 = .ok (.isub, 1) := by decide +kernel
theorem dX7_juror_66 : decode cX7_juror 66 = .ok (.ireturn, 1) := by decide +kernel
theorem dX7_told_0 : decode cX7_told 0 = .ok (.aload_n 0, 1) := by decide +kernel
theorem dX7_told_1 : decode cX7_told 1 = .ok (.getfield 28, 3) := by decide +kernel
theorem dX7_told_4 : decode cX7_told 4 = .ok (.iload_n 1, 1) := by decide +kernel
theorem dX7_told_5 : decode cX7_told 5 = .ok (.invokevirtual 70, 3) := by decide +kernel
theorem dX7_told_8 : decode cX7_told 8 = .ok (.ifCond .ne 6, 3) := by decide +kernel
theorem dX7_told_11 : decode cX7_told 11 = .ok (.ldc 60, 2) := by decide +kernel
theorem dX7_told_13 : decode cX7_told 13 = .ok (.ireturn, 1) := by decide +kernel
theorem dX7_told_14 : decode cX7_told 14 = .ok (.iload_n 2, 1) := by decide +kernel
theorem dX7_told_15 : decode cX7_told 15 = .ok (.tableswitch 148 0 8 #[49, 59, 69, 79, 89, 99, 108, 117, 126], 49) := by decide +kernel
theorem dX7_told_64 : decode cX7_told 64 = .ok (.aload_n 0, 1) := by decide +kernel
theorem dX7_told_65 : decode cX7_told 65 = .ok (.getfield 28, 3) := by decide +kernel
theorem dX7_told_68 : decode cX7_told 68 = .ok (.getfield 74, 3) := by decide +kernel
theorem dX7_told_71 : decode cX7_told 71 = .ok (.iload_n 1, 1) := by decide +kernel
theorem dX7_told_72 : decode cX7_told 72 = .ok (.iaload, 1) := by decide +kernel
theorem dX7_told_73 : decode cX7_told 73 = .ok (.ireturn, 1) := by decide +kernel
theorem dX7_told_74 : decode cX7_told 74 = .ok (.aload_n 0, 1) := by decide +kernel
theorem dX7_told_75 : decode cX7_told 75 = .ok (.getfield 28, 3) := by decide +kernel
theorem dX7_told_78 : decode cX7_told 78 = .ok (.getfield 77, 3) := by decide +kernel
theorem dX7_told_81 : decode cX7_told 81 = .ok (.iload_n 1, 1) := by decide +kernel
theorem dX7_told_82 : decode cX7_told 82 = .ok (.iaload, 1) := by decide +kernel
theorem dX7_told_83 : decode cX7_told 83 = .ok (.ireturn, 1) := by decide +kernel
theorem dX7_told_84 : decode cX7_told 84 = .ok (.aload_n 0, 1) := by decide +kernel
theorem dX7_told_85 : decode cX7_told 85 = .ok (.getfield 28, 3) := by decide +kernel
theorem dX7_told_88 : decode cX7_told 88 = .ok (.getfield 80, 3) := by decide +kernel
theorem dX7_told_91 : decode cX7_told 91 = .ok (.iload_n 1, 1) := by decide +kernel
theorem dX7_told_92 : decode cX7_told 92 = .ok (.iaload, 1) := by decide +kernel
theorem dX7_told_93 : decode cX7_told 93 = .ok (.ireturn, 1) := by decide +kernel
theorem dX7_told_94 : decode cX7_told 94 = .ok (.aload_n 0, 1) := by decide +kernel
theorem dX7_told_95 : decode cX7_told 95 = .ok (.getfield 28, 3) := by decide +kernel
theorem dX7_told_98 : decode cX7_told 98 = .ok (.getfield 83, 3) := by decide +kernel
theorem dX7_told_101 : decode cX7_told 101 = .ok (.iload_n 1, 1) := by decide +kernel
theorem dX7_told_102 : decode cX7_told 102 = .ok (.iaload, 1) := by decide +kernel
theorem dX7_told_103 : decode cX7_told 103 = .ok (.ireturn, 1) := by decide +kernel
theorem dX7_told_104 : decode cX7_told 104 = .ok (.aload_n 0, 1) := by decide +kernel
theorem dX7_told_105 : decode cX7_told 105 = .ok (.getfield 28, 3) := by decide +kernel
theorem dX7_told_108 : decode cX7_told 108 = .ok (.getfield 86, 3) := by decide +kernel
theorem dX7_told_111 : decode cX7_told 111 = .ok (.iload_n 1, 1) := by decide +kernel
theorem dX7_told_112 : decode cX7_told 112 = .ok (.iaload, 1) := by decide +kernel
theorem dX7_told_113 : decode cX7_told 113 = .ok (.ireturn, 1) := by decide +kernel
theorem dX7_told_114 : decode cX7_told 114 = .ok (.aload_n 0, 1) := by decide +kernel
theorem dX7_told_115 : decode cX7_told 115 = .ok (.getfield 28, 3) := by decide +kernel
theorem dX7_told_118 : decode cX7_told 118 = .ok (.iload_n 1, 1) := by decide +kernel
theorem dX7_told_119 : decode cX7_told 119 = .ok (.invokevirtual 89, 3) := by decide +kernel
theorem dX7_told_122 : decode cX7_told 122 = .ok (.ireturn, 1) := by decide +kernel
theorem dX7_told_123 : decode cX7_told 123 = .ok (.aload_n 0, 1) := by decide +kernel
theorem dX7_told_124 : decode cX7_told 124 = .ok (.getfield 28, 3) := by decide +kernel
theorem dX7_told_127 : decode cX7_told 127 = .ok (.iload_n 1, 1) := by decide +kernel
theorem dX7_told_128 : decode cX7_told 128 = .ok (.invokevirtual 93, 3) := by decide +kernel
theorem dX7_told_131 : decode cX7_told 131 = .ok (.ireturn, 1) := by decide +kernel
theorem dX7_told_132 : decode cX7_told 132 = .ok (.aload_n 0, 1) := by decide +kernel
theorem dX7_told_133 : decode cX7_told 133 = .ok (.getfield 28, 3) := by decide +kernel
theorem dX7_told_136 : decode cX7_told 136 = .ok (.iload_n 1, 1) := by decide +kernel
theorem dX7_told_137 : decode cX7_told 137 = .ok (.invokevirtual 96, 3) := by decide +kernel
theorem dX7_told_140 : decode cX7_told 140 = .ok (.ireturn, 1) := by decide +kernel
theorem dX7_told_141 : decode cX7_told 141 = .ok (.aload_n 0, 1) := by decide +kernel
theorem dX7_told_142 : decode cX7_told 142 = .ok (.getfield 28, 3) := by decide +kernel
theorem dX7_told_145 : decode cX7_told 145 = .ok (.getfield 74, 3) := by decide +kernel
theorem dX7_told_148 : decode cX7_told 148 = .ok (.iload_n 1, 1) := by decide +kernel
theorem dX7_told_149 : decode cX7_told 149 = .ok (.iaload, 1) := by decide +kernel
theorem dX7_told_150 : decode cX7_told 150 = .ok (.aload_n 0, 1) := by decide +kernel
theorem dX7_told_151 : decode cX7_told 151 = .ok (.getfield 28, 3) := by decide +kernel
theorem dX7_told_154 : decode cX7_told 154 = .ok (.getfield 83, 3) := by decide +kernel
theorem dX7_told_157 : decode cX7_told 157 = .ok (.iload_n 1, 1) := by decide +kernel
theorem dX7_told_158 : decode cX7_told 158 = .ok (.iaload, 1) := by decide +kernel
theorem dX7_told_159 : decode cX7_told 159 = .ok (.invokestatic 99, 3) := by decide +kernel
theorem dX7_told_162 : decode cX7_told 162 = .ok (.ireturn, 1) := by decide +kernel
theorem dX7_told_163 : decode cX7_told 163 = .ok (.ldc 60, 2) := by decide +kernel
theorem dX7_told_165 : decode cX7_told 165 = .ok (.ireturn, 1) := by decide +kernel
theorem dX7_tells_0 : decode cX7_tells 0 = .ok (.aload_n 0, 1) := by decide +kernel
theorem dX7_tells_1 : decode cX7_tells 1 = .ok (.getfield 28, 3) := by decide +kernel
theorem dX7_tells_4 : decode cX7_tells 4 = .ok (.iload_n 1, 1) := by decide +kernel
theorem dX7_tells_5 : decode cX7_tells 5 = .ok (.invokevirtual 70, 3) := by decide +kernel
theorem dX7_tells_8 : decode cX7_tells 8 = .ok (.ifCond .eq 19, 3) := by decide +kernel
theorem dX7_tells_11 : decode cX7_tells 11 = .ok (.aload_n 0, 1) := by decide +kernel
theorem dX7_tells_12 : decode cX7_tells 12 = .ok (.getfield 28, 3) := by decide +kernel
theorem dX7_tells_15 : decode cX7_tells 15 = .ok (.iload_n 2, 1) := by decide +kernel
theorem dX7_tells_16 : decode cX7_tells 16 = .ok (.invokevirtual 70, 3) := by decide +kernel
theorem dX7_tells_19 : decode cX7_tells 19 = .ok (.ifCond .eq 8, 3) := by decide +kernel
theorem dX7_tells_22 : decode cX7_tells 22 = .ok (.iload_n 1, 1) := by decide +kernel
theorem dX7_tells_23 : decode cX7_tells 23 = .ok (.iload_n 2, 1) := by decide +kernel
theorem dX7_tells_24 : decode cX7_tells 24 = .ok (.if_icmp .ne 6, 3) := by decide +kernel
theorem dX7_tells_27 : decode cX7_tells 27 = .ok (.ldc 60, 2) := by decide +kernel
theorem dX7_tells_29 : decode cX7_tells 29 = .ok (.ireturn, 1) := by decide +kernel
theorem dX7_tells_30 : decode cX7_tells 30 = .ok (.aload_n 0, 1) := by decide +kernel
theorem dX7_tells_31 : decode cX7_tells 31 = .ok (.getfield 28, 3) := by decide +kernel
theorem dX7_tells_34 : decode cX7_tells 34 = .ok (.iload_n 1, 1) := by decide +kernel
theorem dX7_tells_35 : decode cX7_tells 35 = .ok (.iload_n 2, 1) := by decide +kernel
theorem dX7_tells_36 : decode cX7_tells 36 = .ok (.invokestatic 105, 3) := by decide +kernel
theorem dX7_tells_39 : decode cX7_tells 39 = .ok (.istore_n 3, 1) := by decide +kernel
theorem dX7_tells_40 : decode cX7_tells 40 = .ok (.iload_n 3, 1) := by decide +kernel
theorem dX7_tells_41 : decode cX7_tells 41 = .ok (.ifCond .ne 8, 3) := by decide +kernel
theorem dX7_tells_44 : decode cX7_tells 44 = .ok (.ldc 109, 2) := by decide +kernel
theorem dX7_tells_46 : decode cX7_tells 46 = .ok (.goto 9, 3) := by decide +kernel
theorem dX7_tells_49 : decode cX7_tells 49 = .ok (.iload_n 3, 1) := by decide +kernel
theorem dX7_tells_50 : decode cX7_tells 50 = .ok (.iconst 1, 1) := by decide +kernel
theorem dX7_tells_51 : decode cX7_tells 51 = .ok (.isub, 1) := by decide +kernel
theorem dX7_tells_52 : decode cX7_tells 52 = .ok (.invokestatic 110, 3) := by decide +kernel
theorem dX7_tells_55 : decode cX7_tells 55 = .ok (.ireturn, 1) := by decide +kernel
theorem dX7_as_0 : decode cX7_as 0 = .ok (.aload_n 0, 1) := by decide +kernel
theorem dX7_as_1 : decode cX7_as 1 = .ok (.getfield 28, 3) := by decide +kernel
theorem dX7_as_4 : decode cX7_as 4 = .ok (.iload_n 1, 1) := by decide +kernel
theorem dX7_as_5 : decode cX7_as 5 = .ok (.invokevirtual 70, 3) := by decide +kernel
theorem dX7_as_8 : decode cX7_as 8 = .ok (.ifCond .eq 12, 3) := by decide +kernel
theorem dX7_as_11 : decode cX7_as 11 = .ok (.iload_n 2, 1) := by decide +kernel
theorem dX7_as_12 : decode cX7_as 12 = .ok (.iconst 0, 1) := by decide +kernel
theorem dX7_as_13 : decode cX7_as 13 = .ok (.iconst 5, 1) := by decide +kernel
theorem dX7_as_14 : decode cX7_as 14 = .ok (.invokestatic 56, 3) := by decide +kernel
theorem dX7_as_17 : decode cX7_as 17 = .ok (.ifCond .ne 6, 3) := by decide +kernel
theorem dX7_as_20 : decode cX7_as 20 = .ok (.ldc 60, 2) := by decide +kernel
theorem dX7_as_22 : decode cX7_as 22 = .ok (.ireturn, 1) := by decide +kernel
theorem dX7_as_23 : decode cX7_as 23 = .ok (.aload_n 0, 1) := by decide +kernel
theorem dX7_as_24 : decode cX7_as 24 = .ok (.getfield 28, 3) := by decide +kernel
theorem dX7_as_27 : decode cX7_as 27 = .ok (.getfield 74, 3) := by decide +kernel
theorem dX7_as_30 : decode cX7_as 30 = .ok (.iload_n 1, 1) := by decide +kernel
theorem dX7_as_31 : decode cX7_as 31 = .ok (.iaload, 1) := by decide +kernel
theorem dX7_as_32 : decode cX7_as 32 = .ok (.iload_n 2, 1) := by decide +kernel
theorem dX7_as_33 : decode cX7_as 33 = .ok (.invokestatic 115, 3) := by decide +kernel
theorem dX7_as_36 : decode cX7_as 36 = .ok (.ifCond .eq 15, 3) := by decide +kernel
theorem dX7_as_39 : decode cX7_as 39 = .ok (.aload_n 0, 1) := by decide +kernel
theorem dX7_as_40 : decode cX7_as 40 = .ok (.getfield 28, 3) := by decide +kernel
theorem dX7_as_43 : decode cX7_as 43 = .ok (.getfield 83, 3) := by decide +kernel
theorem dX7_as_46 : decode cX7_as 46 = .ok (.iload_n 1, 1) := by decide +kernel
theorem dX7_as_47 : decode cX7_as 47 = .ok (.iaload, 1) := by decide +kernel
theorem dX7_as_48 : decode cX7_as 48 = .ok (.goto 5, 3) := by decide +kernel
theorem dX7_as_51 : decode cX7_as 51 = .ok (.ldc 119, 2) := by decide +kernel
theorem dX7_as_53 : decode cX7_as 53 = .ok (.ireturn, 1) := by decide +kernel
theorem dX7_turns_0 : decode cX7_turns 0 = .ok (.aload_n 0, 1) := by decide +kernel
theorem dX7_turns_1 : decode cX7_turns 1 = .ok (.getfield 28, 3) := by decide +kernel
theorem dX7_turns_4 : decode cX7_turns 4 = .ok (.iload_n 1, 1) := by decide +kernel
theorem dX7_turns_5 : decode cX7_turns 5 = .ok (.invokevirtual 70, 3) := by decide +kernel
theorem dX7_turns_8 : decode cX7_turns 8 = .ok (.ifCond .eq 12, 3) := by decide +kernel
theorem dX7_turns_11 : decode cX7_turns 11 = .ok (.iload_n 2, 1) := by decide +kernel
theorem dX7_turns_12 : decode cX7_turns 12 = .ok (.iconst 0, 1) := by decide +kernel
theorem dX7_turns_13 : decode cX7_turns 13 = .ok (.iconst 5, 1) := by decide +kernel
theorem dX7_turns_14 : decode cX7_turns 14 = .ok (.invokestatic 56, 3) := by decide +kernel
theorem dX7_turns_17 : decode cX7_turns 17 = .ok (.ifCond .ne 6, 3) := by decide +kernel
theorem dX7_turns_20 : decode cX7_turns 20 = .ok (.ldc 60, 2) := by decide +kernel
theorem dX7_turns_22 : decode cX7_turns 22 = .ok (.ireturn, 1) := by decide +kernel
theorem dX7_turns_23 : decode cX7_turns 23 = .ok (.aload_n 0, 1) := by decide +kernel
theorem dX7_turns_24 : decode cX7_turns 24 = .ok (.getfield 28, 3) := by decide +kernel
theorem dX7_turns_27 : decode cX7_turns 27 = .ok (.getfield 74, 3) := by decide +kernel
theorem dX7_turns_30 : decode cX7_turns 30 = .ok (.iload_n 1, 1) := by decide +kernel
theorem dX7_turns_31 : decode cX7_turns 31 = .ok (.iload_n 2, 1) := by decide +kernel
theorem dX7_turns_32 : decode cX7_turns 32 = .ok (.invokestatic 120, 3) := by decide +kernel
theorem dX7_turns_35 : decode cX7_turns 35 = .ok (.ireturn, 1) := by decide +kernel
theorem dX7_set_0 : decode cX7_set 0 = .ok (.aload_n 0, 1) := by decide +kernel
theorem dX7_set_1 : decode cX7_set 1 = .ok (.getfield 28, 3) := by decide +kernel
theorem dX7_set_4 : decode cX7_set 4 = .ok (.iload_n 1, 1) := by decide +kernel
theorem dX7_set_5 : decode cX7_set 5 = .ok (.invokevirtual 70, 3) := by decide +kernel
theorem dX7_set_8 : decode cX7_set 8 = .ok (.ifCond .ne 6, 3) := by decide +kernel
theorem dX7_set_11 : decode cX7_set 11 = .ok (.ldc 60, 2) := by decide +kernel
theorem dX7_set_13 : decode cX7_set 13 = .ok (.ireturn, 1) := by decide +kernel
theorem dX7_set_14 : decode cX7_set 14 = .ok (.iload_n 2, 1) := by decide +kernel
theorem dX7_set_15 : decode cX7_set 15 = .ok (.tableswitch 109 1 3 #[25, 52, 81], 25) := by decide +kernel
theorem dX7_set_40 : decode cX7_set 40 = .ok (.iload_n 3, 1) := by decide +kernel
theorem dX7_set_41 : decode cX7_set 41 = .ok (.iconst 0, 1) := by decide +kernel
theorem dX7_set_42 : decode cX7_set 42 = .ok (.iconst 1, 1) := by decide +kernel
theorem dX7_set_43 : decode cX7_set 43 = .ok (.invokestatic 56, 3) := by decide +kernel
theorem dX7_set_46 : decode cX7_set 46 = .ok (.ifCond .eq 18, 3) := by decide +kernel
theorem dX7_set_49 : decode cX7_set 49 = .ok (.aload_n 0, 1) := by decide +kernel
theorem dX7_set_50 : decode cX7_set 50 = .ok (.getfield 28, 3) := by decide +kernel
theorem dX7_set_53 : decode cX7_set 53 = .ok (.getfield 77, 3) := by decide +kernel
theorem dX7_set_56 : decode cX7_set 56 = .ok (.iload_n 1, 1) := by decide +kernel
theorem dX7_set_57 : decode cX7_set 57 = .ok (.iload_n 3, 1) := by decide +kernel
theorem dX7_set_58 : decode cX7_set 58 = .ok (.invokestatic 120, 3) := by decide +kernel
theorem dX7_set_61 : decode cX7_set 61 = .ok (.goto 5, 3) := by decide +kernel
theorem dX7_set_64 : decode cX7_set 64 = .ok (.ldc 60, 2) := by decide +kernel
theorem dX7_set_66 : decode cX7_set 66 = .ok (.ireturn, 1) := by decide +kernel
theorem dX7_set_67 : decode cX7_set 67 = .ok (.iload_n 3, 1) := by decide +kernel
theorem dX7_set_68 : decode cX7_set 68 = .ok (.iconst 0, 1) := by decide +kernel
theorem dX7_set_69 : decode cX7_set 69 = .ok (.sipush 255, 3) := by decide +kernel
theorem dX7_set_72 : decode cX7_set 72 = .ok (.invokestatic 56, 3) := by decide +kernel
theorem dX7_set_75 : decode cX7_set 75 = .ok (.ifCond .eq 18, 3) := by decide +kernel
theorem dX7_set_78 : decode cX7_set 78 = .ok (.aload_n 0, 1) := by decide +kernel
theorem dX7_set_79 : decode cX7_set 79 = .ok (.getfield 28, 3) := by decide +kernel
theorem dX7_set_82 : decode cX7_set 82 = .ok (.getfield 80, 3) := by decide +kernel
theorem dX7_set_85 : decode cX7_set 85 = .ok (.iload_n 1, 1) := by decide +kernel
theorem dX7_set_86 : decode cX7_set 86 = .ok (.iload_n 3, 1) := by decide +kernel
theorem dX7_set_87 : decode cX7_set 87 = .ok (.invokestatic 120, 3) := by decide +kernel
theorem dX7_set_90 : decode cX7_set 90 = .ok (.goto 5, 3) := by decide +kernel
theorem dX7_set_93 : decode cX7_set 93 = .ok (.ldc 60, 2) := by decide +kernel
theorem dX7_set_95 : decode cX7_set 95 = .ok (.ireturn, 1) := by decide +kernel
theorem dX7_set_96 : decode cX7_set 96 = .ok (.iload_n 3, 1) := by decide +kernel
theorem dX7_set_97 : decode cX7_set 97 = .ok (.iconst 0, 1) := by decide +kernel
theorem dX7_set_98 : decode cX7_set 98 = .ok (.bipush 40, 2) := by decide +kernel
theorem dX7_set_100 : decode cX7_set 100 = .ok (.invokestatic 56, 3) := by decide +kernel
theorem dX7_set_103 : decode cX7_set 103 = .ok (.ifCond .eq 18, 3) := by decide +kernel
theorem dX7_set_106 : decode cX7_set 106 = .ok (.aload_n 0, 1) := by decide +kernel
theorem dX7_set_107 : decode cX7_set 107 = .ok (.getfield 28, 3) := by decide +kernel
theorem dX7_set_110 : decode cX7_set 110 = .ok (.getfield 83, 3) := by decide +kernel
theorem dX7_set_113 : decode cX7_set 113 = .ok (.iload_n 1, 1) := by decide +kernel
theorem dX7_set_114 : decode cX7_set 114 = .ok (.iload_n 3, 1) := by decide +kernel
theorem dX7_set_115 : decode cX7_set 115 = .ok (.invokestatic 120, 3) := by decide +kernel
theorem dX7_set_118 : decode cX7_set 118 = .ok (.goto 5, 3) := by decide +kernel
theorem dX7_set_121 : decode cX7_set 121 = .ok (.ldc 60, 2) := by decide +kernel
theorem dX7_set_123 : decode cX7_set 123 = .ok (.ireturn, 1) := by decide +kernel
theorem dX7_set_124 : decode cX7_set 124 = .ok (.ldc 60, 2) := by decide +kernel
theorem dX7_set_126 : decode cX7_set 126 = .ok (.ireturn, 1) := by decide +kernel
theorem dX7_weigh_0 : decode cX7_weigh 0 = .ok (.iload_n 1, 1) := by decide +kernel
theorem dX7_weigh_1 : decode cX7_weigh 1 = .ok (.invokestatic 124, 3) := by decide +kernel
theorem dX7_weigh_4 : decode cX7_weigh 4 = .ok (.ifCond .eq 14, 3) := by decide +kernel
theorem dX7_weigh_7 : decode cX7_weigh 7 = .ok (.iload_n 2, 1) := by decide +kernel
theorem dX7_weigh_8 : decode cX7_weigh 8 = .ok (.bipush (-50), 2) := by decide +kernel
theorem dX7_weigh_10 : decode cX7_weigh 10 = .ok (.bipush 50, 2) := by decide +kernel
theorem dX7_weigh_12 : decode cX7_weigh 12 = .ok (.invokestatic 56, 3) := by decide +kernel
theorem dX7_weigh_15 : decode cX7_weigh 15 = .ok (.ifCond .ne 6, 3) := by decide +kernel
theorem dX7_weigh_18 : decode cX7_weigh 18 = .ok (.ldc 60, 2) := by decide +kernel
theorem dX7_weigh_20 : decode cX7_weigh 20 = .ok (.ireturn, 1) := by decide +kernel
theorem dX7_weigh_21 : decode cX7_weigh 21 = .ok (.aload_n 0, 1) := by decide +kernel
theorem dX7_weigh_22 : decode cX7_weigh 22 = .ok (.getfield 28, 3) := by decide +kernel
theorem dX7_weigh_25 : decode cX7_weigh 25 = .ok (.getfield 127, 3) := by decide +kernel
theorem dX7_weigh_28 : decode cX7_weigh 28 = .ok (.iload_n 1, 1) := by decide +kernel
theorem dX7_weigh_29 : decode cX7_weigh 29 = .ok (.iload_n 2, 1) := by decide +kernel
theorem dX7_weigh_30 : decode cX7_weigh 30 = .ok (.invokestatic 120, 3) := by decide +kernel
theorem dX7_weigh_33 : decode cX7_weigh 33 = .ok (.ireturn, 1) := by decide +kernel
theorem dX7_rule_0 : decode cX7_rule 0 = .ok (.iload_n 1, 1) := by decide +kernel
theorem dX7_rule_1 : decode cX7_rule 1 = .ok (.iconst 0, 1) := by decide +kernel
theorem dX7_rule_2 : decode cX7_rule 2 = .ok (.iconst 2, 1) := by decide +kernel
theorem dX7_rule_3 : decode cX7_rule 3 = .ok (.invokestatic 56, 3) := by decide +kernel
theorem dX7_rule_6 : decode cX7_rule 6 = .ok (.ifCond .eq 23, 3) := by decide +kernel
theorem dX7_rule_9 : decode cX7_rule 9 = .ok (.iload_n 2, 1) := by decide +kernel
theorem dX7_rule_10 : decode cX7_rule 10 = .ok (.iconst 0, 1) := by decide +kernel
theorem dX7_rule_11 : decode cX7_rule 11 = .ok (.iload_n 1, 1) := by decide +kernel
theorem dX7_rule_12 : decode cX7_rule 12 = .ok (.iconst 2, 1) := by decide +kernel
theorem dX7_rule_13 : decode cX7_rule 13 = .ok (.if_icmp .ne 8, 3) := by decide +kernel
theorem dX7_rule_16 : decode cX7_rule 16 = .ok (.bipush 9, 2) := by decide +kernel
theorem dX7_rule_18 : decode cX7_rule 18 = .ok (.goto 5, 3) := by decide +kernel
theorem dX7_rule_21 : decode cX7_rule 21 = .ok (.bipush 100, 2) := by decide +kernel
theorem dX7_rule_23 : decode cX7_rule 23 = .ok (.invokestatic 56, 3) := by decide +kernel
theorem dX7_rule_26 : decode cX7_rule 26 = .ok (.ifCond .ne 6, 3) := by decide +kernel
theorem dX7_rule_29 : decode cX7_rule 29 = .ok (.ldc 60, 2) := by decide +kernel
theorem dX7_rule_31 : decode cX7_rule 31 = .ok (.ireturn, 1) := by decide +kernel
theorem dX7_rule_32 : decode cX7_rule 32 = .ok (.iload_n 1, 1) := by decide +kernel
theorem dX7_rule_33 : decode cX7_rule 33 = .ok (.ifCond .ne 22, 3) := by decide +kernel
theorem dX7_rule_36 : decode cX7_rule 36 = .ok (.aload_n 0, 1) := by decide +kernel
theorem dX7_rule_37 : decode cX7_rule 37 = .ok (.getfield 28, 3) := by decide +kernel
theorem dX7_rule_40 : decode cX7_rule 40 = .ok (.getfield 130, 3) := by decide +kernel
theorem dX7_rule_43 : decode cX7_rule 43 = .ok (.istore_n 3, 1) := by decide +kernel
theorem dX7_rule_44 : decode cX7_rule 44 = .ok (.aload_n 0, 1) := by decide +kernel
theorem dX7_rule_45 : decode cX7_rule 45 = .ok (.getfield 28, 3) := by decide +kernel
theorem dX7_rule_48 : decode cX7_rule 48 = .ok (.iload_n 2, 1) := by decide +kernel
theorem dX7_rule_49 : decode cX7_rule 49 = .ok (.putfield 130, 3) := by decide +kernel
theorem dX7_rule_52 : decode cX7_rule 52 = .ok (.goto 43, 3) := by decide +kernel
theorem dX7_rule_55 : decode cX7_rule 55 = .ok (.iload_n 1, 1) := by decide +kernel
theorem dX7_rule_56 : decode cX7_rule 56 = .ok (.iconst 1, 1) := by decide +kernel
theorem dX7_rule_57 : decode cX7_rule 57 = .ok (.if_icmp .ne 22, 3) := by decide +kernel
theorem dX7_rule_60 : decode cX7_rule 60 = .ok (.aload_n 0, 1) := by decide +kernel
theorem dX7_rule_61 : decode cX7_rule 61 = .ok (.getfield 28, 3) := by decide +kernel
theorem dX7_rule_64 : decode cX7_rule 64 = .ok (.getfield 133, 3) := by decide +kernel
theorem dX7_rule_67 : decode cX7_rule 67 = .ok (.istore_n 3, 1) := by decide +kernel
theorem dX7_rule_68 : decode cX7_rule 68 = .ok (.aload_n 0, 1) := by decide +kernel
theorem dX7_rule_69 : decode cX7_rule 69 = .ok (.getfield 28, 3) := by decide +kernel
theorem dX7_rule_72 : decode cX7_rule 72 = .ok (.iload_n 2, 1) := by decide +kernel
theorem dX7_rule_73 : decode cX7_rule 73 = .ok (.putfield 133, 3) := by decide +kernel
theorem dX7_rule_76 : decode cX7_rule 76 = .ok (.goto 19, 3) := by decide +kernel
theorem dX7_rule_79 : decode cX7_rule 79 = .ok (.aload_n 0, 1) := by decide +kernel
theorem dX7_rule_80 : decode cX7_rule 80 = .ok (.getfield 28, 3) := by decide +kernel
theorem dX7_rule_83 : decode cX7_rule 83 = .ok (.getfield 136, 3) := by decide +kernel
theorem dX7_rule_86 : decode cX7_rule 86 = .ok (.istore_n 3, 1) := by decide +kernel
theorem dX7_rule_87 : decode cX7_rule 87 = .ok (.aload_n 0, 1) := by decide +kernel
theorem dX7_rule_88 : decode cX7_rule 88 = .ok (.getfield 28, 3) := by decide +kernel
theorem dX7_rule_91 : decode cX7_rule 91 = .ok (.iload_n 2, 1) := by decide +kernel
theorem dX7_rule_92 : decode cX7_rule 92 = .ok (.putfield 136, 3) := by decide +kernel
theorem dX7_rule_95 : decode cX7_rule 95 = .ok (.iload_n 3, 1) := by decide +kernel
theorem dX7_rule_96 : decode cX7_rule 96 = .ok (.ireturn, 1) := by decide +kernel
theorem dX7_deal_0 : decode cX7_deal 0 = .ok (.iload_n 1, 1) := by decide +kernel
theorem dX7_deal_1 : decode cX7_deal 1 = .ok (.iconst 1, 1) := by decide +kernel
theorem dX7_deal_2 : decode cX7_deal 2 = .ok (.bipush 10, 2) := by decide +kernel
theorem dX7_deal_4 : decode cX7_deal 4 = .ok (.invokestatic 56, 3) := by decide +kernel
theorem dX7_deal_7 : decode cX7_deal 7 = .ok (.ifCond .ne 6, 3) := by decide +kernel
theorem dX7_deal_10 : decode cX7_deal 10 = .ok (.ldc 60, 2) := by decide +kernel
theorem dX7_deal_12 : decode cX7_deal 12 = .ok (.ireturn, 1) := by decide +kernel
theorem dX7_deal_13 : decode cX7_deal 13 = .ok (.iload_n 1, 1) := by decide +kernel
theorem dX7_deal_14 : decode cX7_deal 14 = .ok (.bipush 10, 2) := by decide +kernel
theorem dX7_deal_16 : decode cX7_deal 16 = .ok (.aload_n 0, 1) := by decide +kernel
theorem dX7_deal_17 : decode cX7_deal 17 = .ok (.getfield 28, 3) := by decide +kernel
theorem dX7_deal_20 : decode cX7_deal 20 = .ok (.getfield 61, 3) := by decide +kernel
theorem dX7_deal_23 : decode cX7_deal 23 = .ok (.isub, 1) := by decide +kernel
theorem dX7_deal_24 : decode cX7_deal 24 = .ok (.invokestatic 139, 3) := by decide +kernel
theorem dX7_deal_27 : decode cX7_deal 27 = .ok (.istore_n 2, 1) := by decide +kernel
theorem dX7_deal_28 : decode cX7_deal 28 = .ok (.iconst 0, 1) := by decide +kernel
theorem dX7_deal_29 : decode cX7_deal 29 = .ok (.istore_n 3, 1) := by decide +kernel
theorem dX7_deal_30 : decode cX7_deal 30 = .ok (.iload_n 3, 1) := by decide +kernel
theorem dX7_deal_31 : decode cX7_deal 31 = .ok (.iload_n 2, 1) := by decide +kernel
theorem dX7_deal_32 : decode cX7_deal 32 = .ok (.if_icmp .ge 16, 3) := by decide +kernel
theorem dX7_deal_35 : decode cX7_deal 35 = .ok (.aload_n 0, 1) := by decide +kernel
theorem dX7_deal_36 : decode cX7_deal 36 = .ok (.getfield 28, 3) := by decide +kernel
theorem dX7_deal_39 : decode cX7_deal 39 = .ok (.invokevirtual 144, 3) := by decide +kernel
theorem dX7_deal_42 : decode cX7_deal 42 = .ok (.iinc 3 1, 3) := by decide +kernel
theorem dX7_deal_45 : decode cX7_deal 45 = .ok (.goto (-15), 3) := by decide +kernel
theorem dX7_deal_48 : decode cX7_deal 48 = .ok (.iload_n 2, 1) := by decide +kernel
theorem dX7_deal_49 : decode cX7_deal 49 = .ok (.ireturn, 1) := by decide +kernel
theorem dX7_seed_0 : decode cX7_seed 0 = .ok (.aload_n 0, 1) := by decide +kernel
theorem dX7_seed_1 : decode cX7_seed 1 = .ok (.getfield 28, 3) := by decide +kernel
theorem dX7_seed_4 : decode cX7_seed 4 = .ok (.getfield 147, 3) := by decide +kernel
theorem dX7_seed_7 : decode cX7_seed 7 = .ok (.istore_n 2, 1) := by decide +kernel
theorem dX7_seed_8 : decode cX7_seed 8 = .ok (.aload_n 0, 1) := by decide +kernel
theorem dX7_seed_9 : decode cX7_seed 9 = .ok (.getfield 28, 3) := by decide +kernel
theorem dX7_seed_12 : decode cX7_seed 12 = .ok (.iload_n 1, 1) := by decide +kernel
theorem dX7_seed_13 : decode cX7_seed 13 = .ok (.putfield 147, 3) := by decide +kernel
theorem dX7_seed_16 : decode cX7_seed 16 = .ok (.iload_n 2, 1) := by decide +kernel
theorem dX7_seed_17 : decode cX7_seed 17 = .ok (.ireturn, 1) := by decide +kernel
theorem dX7_out_0 : decode cX7_out 0 = .ok (.iload_n 1, 1) := by decide +kernel
theorem dX7_out_1 : decode cX7_out 1 = .ok (.invokestatic 124, 3) := by decide +kernel
theorem dX7_out_4 : decode cX7_out 4 = .ok (.ifCond .eq 12, 3) := by decide +kernel
theorem dX7_out_7 : decode cX7_out 7 = .ok (.iload_n 2, 1) := by decide +kernel
theorem dX7_out_8 : decode cX7_out 8 = .ok (.iconst 0, 1) := by decide +kernel
theorem dX7_out_9 : decode cX7_out 9 = .ok (.iconst 1, 1) := by decide +kernel
theorem dX7_out_10 : decode cX7_out 10 = .ok (.invokestatic 56, 3) := by decide +kernel
theorem dX7_out_13 : decode cX7_out 13 = .ok (.ifCond .ne 6, 3) := by decide +kernel
theorem dX7_out_16 : decode cX7_out 16 = .ok (.ldc 60, 2) := by decide +kernel
theorem dX7_out_18 : decode cX7_out 18 = .ok (.ireturn, 1) := by decide +kernel
theorem dX7_out_19 : decode cX7_out 19 = .ok (.aload_n 0, 1) := by decide +kernel
theorem dX7_out_20 : decode cX7_out 20 = .ok (.getfield 28, 3) := by decide +kernel
theorem dX7_out_23 : decode cX7_out 23 = .ok (.iload_n 1, 1) := by decide +kernel
theorem dX7_out_24 : decode cX7_out 24 = .ok (.iload_n 2, 1) := by decide +kernel
theorem dX7_out_25 : decode cX7_out 25 = .ok (.invokevirtual 150, 3) := by decide +kernel
theorem dX7_out_28 : decode cX7_out 28 = .ok (.ireturn, 1) := by decide +kernel
theorem dX7_hours_0 : decode cX7_hours 0 = .ok (.iload_n 1, 1) := by decide +kernel
theorem dX7_hours_1 : decode cX7_hours 1 = .ok (.iconst 1, 1) := by decide +kernel
theorem dX7_hours_2 : decode cX7_hours 2 = .ok (.bipush 100, 2) := by decide +kernel
theorem dX7_hours_4 : decode cX7_hours 4 = .ok (.invokestatic 56, 3) := by decide +kernel
theorem dX7_hours_7 : decode cX7_hours 7 = .ok (.ifCond .ne 6, 3) := by decide +kernel
theorem dX7_hours_10 : decode cX7_hours 10 = .ok (.ldc 60, 2) := by decide +kernel
theorem dX7_hours_12 : decode cX7_hours 12 = .ok (.ireturn, 1) := by decide +kernel
theorem dX7_hours_13 : decode cX7_hours 13 = .ok (.aload_n 0, 1) := by decide +kernel
theorem dX7_hours_14 : decode cX7_hours 14 = .ok (.getfield 28, 3) := by decide +kernel
theorem dX7_hours_17 : decode cX7_hours 17 = .ok (.iload_n 1, 1) := by decide +kernel
theorem dX7_hours_18 : decode cX7_hours 18 = .ok (.sipush 9999, 3) := by decide +kernel
theorem dX7_hours_21 : decode cX7_hours 21 = .ok (.aload_n 0, 1) := by decide +kernel
theorem dX7_hours_22 : decode cX7_hours 22 = .ok (.getfield 28, 3) := by decide +kernel
theorem dX7_hours_25 : decode cX7_hours 25 = .ok (.getfield 153, 3) := by decide +kernel
theorem dX7_hours_28 : decode cX7_hours 28 = .ok (.isub, 1) := by decide +kernel
theorem dX7_hours_29 : decode cX7_hours 29 = .ok (.invokestatic 139, 3) := by decide +kernel
theorem dX7_hours_32 : decode cX7_hours 32 = .ok (.iconst (-1), 1) := by decide +kernel
theorem dX7_hours_33 : decode cX7_hours 33 = .ok (.invokevirtual 156, 3) := by decide +kernel
theorem dX7_hours_36 : decode cX7_hours 36 = .ok (.ireturn, 1) := by decide +kernel
theorem dX7_jury_0 : decode cX7_jury 0 = .ok (.iload_n 1, 1) := by decide +kernel
theorem dX7_jury_1 : decode cX7_jury 1 = .ok (.tableswitch 75 0 4 #[35, 43, 51, 59, 67], 35) := by decide +kernel
theorem dX7_jury_36 : decode cX7_jury 36 = .ok (.aload_n 0, 1) := by decide +kernel
theorem dX7_jury_37 : decode cX7_jury 37 = .ok (.getfield 28, 3) := by decide +kernel
theorem dX7_jury_40 : decode cX7_jury 40 = .ok (.invokevirtual 159, 3) := by decide +kernel
theorem dX7_jury_43 : decode cX7_jury 43 = .ok (.ireturn, 1) := by decide +kernel
theorem dX7_jury_44 : decode cX7_jury 44 = .ok (.aload_n 0, 1) := by decide +kernel
theorem dX7_jury_45 : decode cX7_jury 45 = .ok (.getfield 28, 3) := by decide +kernel
theorem dX7_jury_48 : decode cX7_jury 48 = .ok (.invokevirtual 163, 3) := by decide +kernel
theorem dX7_jury_51 : decode cX7_jury 51 = .ok (.ireturn, 1) := by decide +kernel
theorem dX7_jury_52 : decode cX7_jury 52 = .ok (.aload_n 0, 1) := by decide +kernel
theorem dX7_jury_53 : decode cX7_jury 53 = .ok (.getfield 28, 3) := by decide +kernel
theorem dX7_jury_56 : decode cX7_jury 56 = .ok (.getfield 166, 3) := by decide +kernel
theorem dX7_jury_59 : decode cX7_jury 59 = .ok (.ireturn, 1) := by decide +kernel
theorem dX7_jury_60 : decode cX7_jury 60 = .ok (.aload_n 0, 1) := by decide +kernel
theorem dX7_jury_61 : decode cX7_jury 61 = .ok (.getfield 28, 3) := by decide +kernel
theorem dX7_jury_64 : decode cX7_jury 64 = .ok (.invokevirtual 169, 3) := by decide +kernel
theorem dX7_jury_67 : decode cX7_jury 67 = .ok (.ireturn, 1) := by decide +kernel
theorem dX7_jury_68 : decode cX7_jury 68 = .ok (.aload_n 0, 1) := by decide +kernel
theorem dX7_jury_69 : decode cX7_jury 69 = .ok (.getfield 28, 3) := by decide +kernel
theorem dX7_jury_72 : decode cX7_jury 72 = .ok (.invokevirtual 172, 3) := by decide +kernel
theorem dX7_jury_75 : decode cX7_jury 75 = .ok (.ireturn, 1) := by decide +kernel
theorem dX7_jury_76 : decode cX7_jury 76 = .ok (.ldc 60, 2) := by decide +kernel
theorem dX7_jury_78 : decode cX7_jury 78 = .ok (.ireturn, 1) := by decide +kernel
theorem dX7_behind_0 : decode cX7_behind 0 = .ok (.iload_n 1, 1) := by decide +kernel
theorem dX7_behind_1 : decode cX7_behind 1 = .ok (.iconst 0, 1) := by decide +kernel
theorem dX7_behind_2 : decode cX7_behind 2 = .ok (.bipush 100, 2) := by decide +kernel
theorem dX7_behind_4 : decode cX7_behind 4 = .ok (.invokestatic 56, 3) := by decide +kernel
theorem dX7_behind_7 : decode cX7_behind 7 = .ok (.ifCond .eq 25, 3) := by decide +kernel
theorem dX7_behind_10 : decode cX7_behind 10 = .ok (.iload_n 2, 1) := by decide +kernel
theorem dX7_behind_11 : decode cX7_behind 11 = .ok (.ifCond .lt 21, 3) := by decide +kernel
theorem dX7_behind_14 : decode cX7_behind 14 = .ok (.iload_n 2, 1) := by decide +kernel
theorem dX7_behind_15 : decode cX7_behind 15 = .ok (.iconst 3, 1) := by decide +kernel
theorem dX7_behind_16 : decode cX7_behind 16 = .ok (.if_icmp .lt 19, 3) := by decide +kernel
theorem dX7_behind_19 : decode cX7_behind 19 = .ok (.aload_n 0, 1) := by decide +kernel
theorem dX7_behind_20 : decode cX7_behind 20 = .ok (.getfield 28, 3) := by decide +kernel
theorem dX7_behind_23 : decode cX7_behind 23 = .ok (.iload_n 2, 1) := by decide +kernel
theorem dX7_behind_24 : decode cX7_behind 24 = .ok (.iconst 3, 1) := by decide +kernel
theorem dX7_behind_25 : decode cX7_behind 25 = .ok (.isub, 1) := by decide +kernel
theorem dX7_behind_26 : decode cX7_behind 26 = .ok (.invokevirtual 70, 3) := by decide +kernel
theorem dX7_behind_29 : decode cX7_behind 29 = .ok (.ifCond .ne 6, 3) := by decide +kernel
theorem dX7_behind_32 : decode cX7_behind 32 = .ok (.ldc 60, 2) := by decide +kernel
theorem dX7_behind_34 : decode cX7_behind 34 = .ok (.ireturn, 1) := by decide +kernel
theorem dX7_behind_35 : decode cX7_behind 35 = .ok (.aload_n 0, 1) := by decide +kernel
theorem dX7_behind_36 : decode cX7_behind 36 = .ok (.iload_n 1, 1) := by decide +kernel
theorem dX7_behind_37 : decode cX7_behind 37 = .ok (.iconst (-1), 1) := by decide +kernel
theorem dX7_behind_38 : decode cX7_behind 38 = .ok (.invokevirtual 175, 3) := by decide +kernel
theorem dX7_behind_41 : decode cX7_behind 41 = .ok (.iload_n 2, 1) := by decide +kernel
theorem dX7_behind_42 : decode cX7_behind 42 = .ok (.tableswitch 50 0 2 #[26, 34, 42], 26) := by decide +kernel
theorem dX7_behind_68 : decode cX7_behind 68 = .ok (.aload_n 0, 1) := by decide +kernel
theorem dX7_behind_69 : decode cX7_behind 69 = .ok (.getfield 35, 3) := by decide +kernel
theorem dX7_behind_72 : decode cX7_behind 72 = .ok (.invokevirtual 159, 3) := by decide +kernel
theorem dX7_behind_75 : decode cX7_behind 75 = .ok (.ireturn, 1) := by decide +kernel
theorem dX7_behind_76 : decode cX7_behind 76 = .ok (.aload_n 0, 1) := by decide +kernel
theorem dX7_behind_77 : decode cX7_behind 77 = .ok (.getfield 35, 3) := by decide +kernel
theorem dX7_behind_80 : decode cX7_behind 80 = .ok (.invokevirtual 163, 3) := by decide +kernel
theorem dX7_behind_83 : decode cX7_behind 83 = .ok (.ireturn, 1) := by decide +kernel
theorem dX7_behind_84 : decode cX7_behind 84 = .ok (.aload_n 0, 1) := by decide +kernel
theorem dX7_behind_85 : decode cX7_behind 85 = .ok (.getfield 35, 3) := by decide +kernel
theorem dX7_behind_88 : decode cX7_behind 88 = .ok (.getfield 166, 3) := by decide +kernel
theorem dX7_behind_91 : decode cX7_behind 91 = .ok (.ireturn, 1) := by decide +kernel
theorem dX7_behind_92 : decode cX7_behind 92 = .ok (.aload_n 0, 1) := by decide +kernel
theorem dX7_behind_93 : decode cX7_behind 93 = .ok (.getfield 35, 3) := by decide +kernel
theorem dX7_behind_96 : decode cX7_behind 96 = .ok (.getfield 80, 3) := by decide +kernel
theorem dX7_behind_99 : decode cX7_behind 99 = .ok (.iload_n 2, 1) := by decide +kernel
theorem dX7_behind_100 : decode cX7_behind 100 = .ok (.iconst 3, 1) := by decide +kernel
theorem dX7_behind_101 : decode cX7_behind 101 = .ok (.isub, 1) := by decide +kernel
theorem dX7_behind_102 : decode cX7_behind 102 = .ok (.iaload, 1) := by decide +kernel
theorem dX7_behind_103 : decode cX7_behind 103 = .ok (.ireturn, 1) := by decide +kernel
theorem dX7_allKnow_0 : decode cX7_allKnow 0 = .ok (.aload_n 0, 1) := by decide +kernel
theorem dX7_allKnow_1 : decode cX7_allKnow 1 = .ok (.getfield 35, 3) := by decide +kernel
theorem dX7_allKnow_4 : decode cX7_allKnow 4 = .ok (.aload_n 0, 1) := by decide +kernel
theorem dX7_allKnow_5 : decode cX7_allKnow 5 = .ok (.getfield 28, 3) := by decide +kernel
theorem dX7_allKnow_8 : decode cX7_allKnow 8 = .ok (.invokevirtual 179, 3) := by decide +kernel
theorem dX7_allKnow_11 : decode cX7_allKnow 11 = .ok (.aload_n 0, 1) := by decide +kernel
theorem dX7_allKnow_12 : decode cX7_allKnow 12 = .ok (.getfield 28, 3) := by decide +kernel
theorem dX7_allKnow_15 : decode cX7_allKnow 15 = .ok (.invokevirtual 172, 3) := by decide +kernel
theorem dX7_allKnow_18 : decode cX7_allKnow 18 = .ok (.istore_n 1, 1) := by decide +kernel
theorem dX7_allKnow_19 : decode cX7_allKnow 19 = .ok (.iconst 0, 1) := by decide +kernel
theorem dX7_allKnow_20 : decode cX7_allKnow 20 = .ok (.istore_n 2, 1) := by decide +kernel
theorem dX7_allKnow_21 : decode cX7_allKnow 21 = .ok (.iload_n 2, 1) := by decide +kernel
theorem dX7_allKnow_22 : decode cX7_allKnow 22 = .ok (.sipush 200, 3) := by decide +kernel
theorem dX7_allKnow_25 : decode cX7_allKnow 25 = .ok (.if_icmp .gt 34, 3) := by decide +kernel
theorem dX7_allKnow_28 : decode cX7_allKnow 28 = .ok (.iload_n 1, 1) := by decide +kernel
theorem dX7_allKnow_29 : decode cX7_allKnow 29 = .ok (.aload_n 0, 1) := by decide +kernel
theorem dX7_allKnow_30 : decode cX7_allKnow 30 = .ok (.getfield 35, 3) := by decide +kernel
theorem dX7_allKnow_33 : decode cX7_allKnow 33 = .ok (.invokevirtual 159, 3) := by decide +kernel
theorem dX7_allKnow_36 : decode cX7_allKnow 36 = .ok (.iconst (-1), 1) := by decide +kernel
theorem dX7_allKnow_37 : decode cX7_allKnow 37 = .ok (.ixor, 1) := by decide +kernel
theorem dX7_allKnow_38 : decode cX7_allKnow 38 = .ok (.iand, 1) := by decide +kernel
theorem dX7_allKnow_39 : decode cX7_allKnow 39 = .ok (.ifCond .ne 5, 3) := by decide +kernel
theorem dX7_allKnow_42 : decode cX7_allKnow 42 = .ok (.iload_n 2, 1) := by decide +kernel
theorem dX7_allKnow_43 : decode cX7_allKnow 43 = .ok (.ireturn, 1) := by decide +kernel
theorem dX7_allKnow_44 : decode cX7_allKnow 44 = .ok (.aload_n 0, 1) := by decide +kernel
theorem dX7_allKnow_45 : decode cX7_allKnow 45 = .ok (.getfield 35, 3) := by decide +kernel
theorem dX7_allKnow_48 : decode cX7_allKnow 48 = .ok (.iconst (-1), 1) := by decide +kernel
theorem dX7_allKnow_49 : decode cX7_allKnow 49 = .ok (.invokevirtual 183, 3) := by decide +kernel
theorem dX7_allKnow_52 : decode cX7_allKnow 52 = .ok (.pop, 1) := by decide +kernel
theorem dX7_allKnow_53 : decode cX7_allKnow 53 = .ok (.iinc 2 1, 3) := by decide +kernel
theorem dX7_allKnow_56 : decode cX7_allKnow 56 = .ok (.goto (-35), 3) := by decide +kernel
theorem dX7_allKnow_59 : decode cX7_allKnow 59 = .ok (.ldc 109, 2) := by decide +kernel
theorem dX7_allKnow_61 : decode cX7_allKnow 61 = .ok (.ireturn, 1) := by decide +kernel
theorem dX7_bestTurn_0 : decode cX7_bestTurn 0 = .ok (.iload_n 1, 1) := by decide +kernel
theorem dX7_bestTurn_1 : decode cX7_bestTurn 1 = .ok (.iconst 1, 1) := by decide +kernel
theorem dX7_bestTurn_2 : decode cX7_bestTurn 2 = .ok (.bipush 60, 2) := by decide +kernel
theorem dX7_bestTurn_4 : decode cX7_bestTurn 4 = .ok (.invokestatic 56, 3) := by decide +kernel
theorem dX7_bestTurn_7 : decode cX7_bestTurn 7 = .ok (.ifCond .eq 12, 3) := by decide +kernel
theorem dX7_bestTurn_10 : decode cX7_bestTurn 10 = .ok (.iload_n 2, 1) := by decide +kernel
theorem dX7_bestTurn_11 : decode cX7_bestTurn 11 = .ok (.iconst 0, 1) := by decide +kernel
theorem dX7_bestTurn_12 : decode cX7_bestTurn 12 = .ok (.iconst 1, 1) := by decide +kernel
theorem dX7_bestTurn_13 : decode cX7_bestTurn 13 = .ok (.invokestatic 56, 3) := by decide +kernel
theorem dX7_bestTurn_16 : decode cX7_bestTurn 16 = .ok (.ifCond .ne 6, 3) := by decide +kernel
theorem dX7_bestTurn_19 : decode cX7_bestTurn 19 = .ok (.ldc 60, 2) := by decide +kernel
theorem dX7_bestTurn_21 : decode cX7_bestTurn 21 = .ok (.ireturn, 1) := by decide +kernel
theorem dX7_bestTurn_22 : decode cX7_bestTurn 22 = .ok (.iconst 0, 1) := by decide +kernel
theorem dX7_bestTurn_23 : decode cX7_bestTurn 23 = .ok (.istore_n 3, 1) := by decide +kernel
theorem dX7_bestTurn_24 : decode cX7_bestTurn 24 = .ok (.iconst (-1), 1) := by decide +kernel
theorem dX7_bestTurn_25 : decode cX7_bestTurn 25 = .ok (.istore 4, 2) := by decide +kernel
theorem dX7_bestTurn_27 : decode cX7_bestTurn 27 = .ok (.iconst 0, 1) := by decide +kernel
theorem dX7_bestTurn_28 : decode cX7_bestTurn 28 = .ok (.istore 5, 2) := by decide +kernel
theorem dX7_bestTurn_30 : decode cX7_bestTurn 30 = .ok (.iload 5, 2) := by decide +kernel
theorem dX7_bestTurn_32 : decode cX7_bestTurn 32 = .ok (.bipush 9, 2) := by decide +kernel
theorem dX7_bestTurn_34 : decode cX7_bestTurn 34 = .ok (.if_icmp .gt 62, 3) := by decide +kernel
theorem dX7_bestTurn_37 : decode cX7_bestTurn 37 = .ok (.aload_n 0, 1) := by decide +kernel
theorem dX7_bestTurn_38 : decode cX7_bestTurn 38 = .ok (.getfield 35, 3) := by decide +kernel
theorem dX7_bestTurn_41 : decode cX7_bestTurn 41 = .ok (.aload_n 0, 1) := by decide +kernel
theorem dX7_bestTurn_42 : decode cX7_bestTurn 42 = .ok (.getfield 28, 3) := by decide +kernel
theorem dX7_bestTurn_45 : decode cX7_bestTurn 45 = .ok (.invokevirtual 179, 3) := by decide +kernel
theorem dX7_bestTurn_48 : decode cX7_bestTurn 48 = .ok (.aload_n 0, 1) := by decide +kernel
theorem dX7_bestTurn_49 : decode cX7_bestTurn 49 = .ok (.getfield 35, 3) := by decide +kernel
theorem dX7_bestTurn_52 : decode cX7_bestTurn 52 = .ok (.iload 5, 2) := by decide +kernel
theorem dX7_bestTurn_54 : decode cX7_bestTurn 54 = .ok (.putfield 136, 3) := by decide +kernel
theorem dX7_bestTurn_57 : decode cX7_bestTurn 57 = .ok (.aload_n 0, 1) := by decide +kernel
theorem dX7_bestTurn_58 : decode cX7_bestTurn 58 = .ok (.getfield 35, 3) := by decide +kernel
theorem dX7_bestTurn_61 : decode cX7_bestTurn 61 = .ok (.iload_n 1, 1) := by decide +kernel
theorem dX7_bestTurn_62 : decode cX7_bestTurn 62 = .ok (.iconst (-1), 1) := by decide +kernel
theorem dX7_bestTurn_63 : decode cX7_bestTurn 63 = .ok (.invokevirtual 156, 3) := by decide +kernel
theorem dX7_bestTurn_66 : decode cX7_bestTurn 66 = .ok (.pop, 1) := by decide +kernel
theorem dX7_bestTurn_67 : decode cX7_bestTurn 67 = .ok (.aload_n 0, 1) := by decide +kernel
theorem dX7_bestTurn_68 : decode cX7_bestTurn 68 = .ok (.getfield 35, 3) := by decide +kernel
theorem dX7_bestTurn_71 : decode cX7_bestTurn 71 = .ok (.invokevirtual 169, 3) := by decide +kernel
theorem dX7_bestTurn_74 : decode cX7_bestTurn 74 = .ok (.istore 6, 2) := by decide +kernel
theorem dX7_bestTurn_76 : decode cX7_bestTurn 76 = .ok (.iload 6, 2) := by decide +kernel
theorem dX7_bestTurn_78 : decode cX7_bestTurn 78 = .ok (.iload 4, 2) := by decide +kernel
theorem dX7_bestTurn_80 : decode cX7_bestTurn 80 = .ok (.if_icmp .le 10, 3) := by decide +kernel
theorem dX7_bestTurn_83 : decode cX7_bestTurn 83 = .ok (.iload 6, 2) := by decide +kernel
theorem dX7_bestTurn_85 : decode cX7_bestTurn 85 = .ok (.istore 4, 2) := by decide +kernel
theorem dX7_bestTurn_87 : decode cX7_bestTurn 87 = .ok (.iload 5, 2) := by decide +kernel
theorem dX7_bestTurn_89 : decode cX7_bestTurn 89 = .ok (.istore_n 3, 1) := by decide +kernel
theorem dX7_bestTurn_90 : decode cX7_bestTurn 90 = .ok (.iinc 5 1, 3) := by decide +kernel
theorem dX7_bestTurn_93 : decode cX7_bestTurn 93 = .ok (.goto (-63), 3) := by decide +kernel
theorem dX7_bestTurn_96 : decode cX7_bestTurn 96 = .ok (.iload_n 2, 1) := by decide +kernel
theorem dX7_bestTurn_97 : decode cX7_bestTurn 97 = .ok (.ifCond .ne 7, 3) := by decide +kernel
theorem dX7_bestTurn_100 : decode cX7_bestTurn 100 = .ok (.iload_n 3, 1) := by decide +kernel
theorem dX7_bestTurn_101 : decode cX7_bestTurn 101 = .ok (.goto 5, 3) := by decide +kernel
theorem dX7_bestTurn_104 : decode cX7_bestTurn 104 = .ok (.iload 4, 2) := by decide +kernel
theorem dX7_bestTurn_106 : decode cX7_bestTurn 106 = .ok (.ireturn, 1) := by decide +kernel
theorem dX7_sure_0 : decode cX7_sure 0 = .ok (.iload_n 1, 1) := by decide +kernel
theorem dX7_sure_1 : decode cX7_sure 1 = .ok (.iconst 1, 1) := by decide +kernel
theorem dX7_sure_2 : decode cX7_sure 2 = .ok (.bipush 60, 2) := by decide +kernel
theorem dX7_sure_4 : decode cX7_sure 4 = .ok (.invokestatic 56, 3) := by decide +kernel
theorem dX7_sure_7 : decode cX7_sure 7 = .ok (.ifCond .ne 6, 3) := by decide +kernel
theorem dX7_sure_10 : decode cX7_sure 10 = .ok (.ldc 60, 2) := by decide +kernel
theorem dX7_sure_12 : decode cX7_sure 12 = .ok (.ireturn, 1) := by decide +kernel
theorem dX7_sure_13 : decode cX7_sure 13 = .ok (.sipush 255, 3) := by decide +kernel
theorem dX7_sure_16 : decode cX7_sure 16 = .ok (.istore_n 2, 1) := by decide +kernel
theorem dX7_sure_17 : decode cX7_sure 17 = .ok (.iconst (-1), 1) := by decide +kernel
theorem dX7_sure_18 : decode cX7_sure 18 = .ok (.istore_n 3, 1) := by decide +kernel
theorem dX7_sure_19 : decode cX7_sure 19 = .ok (.iload_n 3, 1) := by decide +kernel
theorem dX7_sure_20 : decode cX7_sure 20 = .ok (.aload_n 0, 1) := by decide +kernel
theorem dX7_sure_21 : decode cX7_sure 21 = .ok (.getfield 28, 3) := by decide +kernel
theorem dX7_sure_24 : decode cX7_sure 24 = .ok (.getfield 61, 3) := by decide +kernel
theorem dX7_sure_27 : decode cX7_sure 27 = .ok (.if_icmp .ge 25, 3) := by decide +kernel
theorem dX7_sure_30 : decode cX7_sure 30 = .ok (.aload_n 0, 1) := by decide +kernel
theorem dX7_sure_31 : decode cX7_sure 31 = .ok (.iload_n 1, 1) := by decide +kernel
theorem dX7_sure_32 : decode cX7_sure 32 = .ok (.iload_n 3, 1) := by decide +kernel
theorem dX7_sure_33 : decode cX7_sure 33 = .ok (.invokevirtual 175, 3) := by decide +kernel
theorem dX7_sure_36 : decode cX7_sure 36 = .ok (.iload_n 2, 1) := by decide +kernel
theorem dX7_sure_37 : decode cX7_sure 37 = .ok (.aload_n 0, 1) := by decide +kernel
theorem dX7_sure_38 : decode cX7_sure 38 = .ok (.getfield 35, 3) := by decide +kernel
theorem dX7_sure_41 : decode cX7_sure 41 = .ok (.invokevirtual 159, 3) := by decide +kernel
theorem dX7_sure_44 : decode cX7_sure 44 = .ok (.iand, 1) := by decide +kernel
theorem dX7_sure_45 : decode cX7_sure 45 = .ok (.istore_n 2, 1) := by decide +kernel
theorem dX7_sure_46 : decode cX7_sure 46 = .ok (.iinc 3 1, 3) := by decide +kernel
theorem dX7_sure_49 : decode cX7_sure 49 = .ok (.goto (-30), 3) := by decide +kernel
theorem dX7_sure_52 : decode cX7_sure 52 = .ok (.iload_n 2, 1) := by decide +kernel
theorem dX7_sure_53 : decode cX7_sure 53 = .ok (.ireturn, 1) := by decide +kernel
theorem dX7_advocate_0 : decode cX7_advocate 0 = .ok (.iload_n 1, 1) := by decide +kernel
theorem dX7_advocate_1 : decode cX7_advocate 1 = .ok (.iconst 0, 1) := by decide +kernel
theorem dX7_advocate_2 : decode cX7_advocate 2 = .ok (.bipush 60, 2) := by decide +kernel
theorem dX7_advocate_4 : decode cX7_advocate 4 = .ok (.invokestatic 56, 3) := by decide +kernel
theorem dX7_advocate_7 : decode cX7_advocate 7 = .ok (.ifCond .eq 12, 3) := by decide +kernel
theorem dX7_advocate_10 : decode cX7_advocate 10 = .ok (.iload_n 2, 1) := by decide +kernel
theorem dX7_advocate_11 : decode cX7_advocate 11 = .ok (.iconst 0, 1) := by decide +kernel
theorem dX7_advocate_12 : decode cX7_advocate 12 = .ok (.iconst 1, 1) := by decide +kernel
theorem dX7_advocate_13 : decode cX7_advocate 13 = .ok (.invokestatic 56, 3) := by decide +kernel
theorem dX7_advocate_16 : decode cX7_advocate 16 = .ok (.ifCond .ne 6, 3) := by decide +kernel
theorem dX7_advocate_19 : decode cX7_advocate 19 = .ok (.ldc 60, 2) := by decide +kernel
theorem dX7_advocate_21 : decode cX7_advocate 21 = .ok (.ireturn, 1) := by decide +kernel
theorem dX7_advocate_22 : decode cX7_advocate 22 = .ok (.iconst 0, 1) := by decide +kernel
theorem dX7_advocate_23 : decode cX7_advocate 23 = .ok (.istore_n 3, 1) := by decide +kernel
theorem dX7_advocate_24 : decode cX7_advocate 24 = .ok (.iconst (-1), 1) := by decide +kernel
theorem dX7_advocate_25 : decode cX7_advocate 25 = .ok (.istore 4, 2) := by decide +kernel
theorem dX7_advocate_27 : decode cX7_advocate 27 = .ok (.iconst 0, 1) := by decide +kernel
theorem dX7_advocate_28 : decode cX7_advocate 28 = .ok (.istore 5, 2) := by decide +kernel
theorem dX7_advocate_30 : decode cX7_advocate 30 = .ok (.iload 5, 2) := by decide +kernel
theorem dX7_advocate_32 : decode cX7_advocate 32 = .ok (.bipush 16, 2) := by decide +kernel
theorem dX7_advocate_34 : decode cX7_advocate 34 = .ok (.if_icmp .ge 69, 3) := by decide +kernel
theorem dX7_advocate_37 : decode cX7_advocate 37 = .ok (.aload_n 0, 1) := by decide +kernel
theorem dX7_advocate_38 : decode cX7_advocate 38 = .ok (.getfield 35, 3) := by decide +kernel
theorem dX7_advocate_41 : decode cX7_advocate 41 = .ok (.aload_n 0, 1) := by decide +kernel
theorem dX7_advocate_42 : decode cX7_advocate 42 = .ok (.getfield 28, 3) := by decide +kernel
theorem dX7_advocate_45 : decode cX7_advocate 45 = .ok (.invokevirtual 179, 3) := by decide +kernel
theorem dX7_advocate_48 : decode cX7_advocate 48 = .ok (.aload_n 0, 1) := by decide +kernel
theorem dX7_advocate_49 : decode cX7_advocate 49 = .ok (.getfield 35, 3) := by decide +kernel
theorem dX7_advocate_52 : decode cX7_advocate 52 = .ok (.iload 5, 2) := by decide +kernel
theorem dX7_advocate_54 : decode cX7_advocate 54 = .ok (.iconst 2, 1) := by decide +kernel
theorem dX7_advocate_55 : decode cX7_advocate 55 = .ok (.idiv, 1) := by decide +kernel
theorem dX7_advocate_56 : decode cX7_advocate 56 = .ok (.iload 5, 2) := by decide +kernel
theorem dX7_advocate_58 : decode cX7_advocate 58 = .ok (.iconst 2, 1) := by decide +kernel
theorem dX7_advocate_59 : decode cX7_advocate 59 = .ok (.irem, 1) := by decide +kernel
theorem dX7_advocate_60 : decode cX7_advocate 60 = .ok (.invokevirtual 150, 3) := by decide +kernel
theorem dX7_advocate_63 : decode cX7_advocate 63 = .ok (.pop, 1) := by decide +kernel
theorem dX7_advocate_64 : decode cX7_advocate 64 = .ok (.aload_n 0, 1) := by decide +kernel
theorem dX7_advocate_65 : decode cX7_advocate 65 = .ok (.getfield 35, 3) := by decide +kernel
theorem dX7_advocate_68 : decode cX7_advocate 68 = .ok (.iload_n 1, 1) := by decide +kernel
theorem dX7_advocate_69 : decode cX7_advocate 69 = .ok (.iconst (-1), 1) := by decide +kernel
theorem dX7_advocate_70 : decode cX7_advocate 70 = .ok (.invokevirtual 156, 3) := by decide +kernel
theorem dX7_advocate_73 : decode cX7_advocate 73 = .ok (.pop, 1) := by decide +kernel
theorem dX7_advocate_74 : decode cX7_advocate 74 = .ok (.aload_n 0, 1) := by decide +kernel
theorem dX7_advocate_75 : decode cX7_advocate 75 = .ok (.getfield 35, 3) := by decide +kernel
theorem dX7_advocate_78 : decode cX7_advocate 78 = .ok (.invokevirtual 163, 3) := by decide +kernel
theorem dX7_advocate_81 : decode cX7_advocate 81 = .ok (.istore 6, 2) := by decide +kernel
theorem dX7_advocate_83 : decode cX7_advocate 83 = .ok (.iload 6, 2) := by decide +kernel
theorem dX7_advocate_85 : decode cX7_advocate 85 = .ok (.iload 4, 2) := by decide +kernel
theorem dX7_advocate_87 : decode cX7_advocate 87 = .ok (.if_icmp .le 10, 3) := by decide +kernel
theorem dX7_advocate_90 : decode cX7_advocate 90 = .ok (.iload 6, 2) := by decide +kernel
theorem dX7_advocate_92 : decode cX7_advocate 92 = .ok (.istore 4, 2) := by decide +kernel
theorem dX7_advocate_94 : decode cX7_advocate 94 = .ok (.iload 5, 2) := by decide +kernel
theorem dX7_advocate_96 : decode cX7_advocate 96 = .ok (.istore_n 3, 1) := by decide +kernel
theorem dX7_advocate_97 : decode cX7_advocate 97 = .ok (.iinc 5 1, 3) := by decide +kernel
theorem dX7_advocate_100 : decode cX7_advocate 100 = .ok (.goto (-70), 3) := by decide +kernel
theorem dX7_advocate_103 : decode cX7_advocate 103 = .ok (.iload_n 2, 1) := by decide +kernel
theorem dX7_advocate_104 : decode cX7_advocate 104 = .ok (.ifCond .ne 7, 3) := by decide +kernel
theorem dX7_advocate_107 : decode cX7_advocate 107 = .ok (.iload_n 3, 1) := by decide +kernel
theorem dX7_advocate_108 : decode cX7_advocate 108 = .ok (.goto 5, 3) := by decide +kernel
theorem dX7_advocate_111 : decode cX7_advocate 111 = .ok (.iload 4, 2) := by decide +kernel
theorem dX7_advocate_113 : decode cX7_advocate 113 = .ok (.ireturn, 1) := by decide +kernel
theorem dX7_tipped_0 : decode cX7_tipped 0 = .ok (.iload_n 1, 1) := by decide +kernel
theorem dX7_tipped_1 : decode cX7_tipped 1 = .ok (.iconst 1, 1) := by decide +kernel
theorem dX7_tipped_2 : decode cX7_tipped 2 = .ok (.bipush 60, 2) := by decide +kernel
theorem dX7_tipped_4 : decode cX7_tipped 4 = .ok (.invokestatic 56, 3) := by decide +kernel
theorem dX7_tipped_7 : decode cX7_tipped 7 = .ok (.ifCond .ne 6, 3) := by decide +kernel
theorem dX7_tipped_10 : decode cX7_tipped 10 = .ok (.ldc 60, 2) := by decide +kernel
theorem dX7_tipped_12 : decode cX7_tipped 12 = .ok (.ireturn, 1) := by decide +kernel
theorem dX7_tipped_13 : decode cX7_tipped 13 = .ok (.aload_n 0, 1) := by decide +kernel
theorem dX7_tipped_14 : decode cX7_tipped 14 = .ok (.iload_n 1, 1) := by decide +kernel
theorem dX7_tipped_15 : decode cX7_tipped 15 = .ok (.iconst (-1), 1) := by decide +kernel
theorem dX7_tipped_16 : decode cX7_tipped 16 = .ok (.invokevirtual 175, 3) := by decide +kernel
theorem dX7_tipped_19 : decode cX7_tipped 19 = .ok (.aload_n 0, 1) := by decide +kernel
theorem dX7_tipped_20 : decode cX7_tipped 20 = .ok (.getfield 35, 3) := by decide +kernel
theorem dX7_tipped_23 : decode cX7_tipped 23 = .ok (.invokevirtual 163, 3) := by decide +kernel
theorem dX7_tipped_26 : decode cX7_tipped 26 = .ok (.istore_n 2, 1) := by decide +kernel
theorem dX7_tipped_27 : decode cX7_tipped 27 = .ok (.iconst 0, 1) := by decide +kernel
theorem dX7_tipped_28 : decode cX7_tipped 28 = .ok (.istore_n 3, 1) := by decide +kernel
theorem dX7_tipped_29 : decode cX7_tipped 29 = .ok (.iconst 0, 1) := by decide +kernel
theorem dX7_tipped_30 : decode cX7_tipped 30 = .ok (.istore 4, 2) := by decide +kernel
theorem dX7_tipped_32 : decode cX7_tipped 32 = .ok (.iload 4, 2) := by decide +kernel
theorem dX7_tipped_34 : decode cX7_tipped 34 = .ok (.aload_n 0, 1) := by decide +kernel
theorem dX7_tipped_35 : decode cX7_tipped 35 = .ok (.getfield 28, 3) := by decide +kernel
theorem dX7_tipped_38 : decode cX7_tipped 38 = .ok (.getfield 61, 3) := by decide +kernel
theorem dX7_tipped_41 : decode cX7_tipped 41 = .ok (.if_icmp .ge 34, 3) := by decide +kernel
theorem dX7_tipped_44 : decode cX7_tipped 44 = .ok (.aload_n 0, 1) := by decide +kernel
theorem dX7_tipped_45 : decode cX7_tipped 45 = .ok (.iload_n 1, 1) := by decide +kernel
theorem dX7_tipped_46 : decode cX7_tipped 46 = .ok (.iload 4, 2) := by decide +kernel
theorem dX7_tipped_48 : decode cX7_tipped 48 = .ok (.invokevirtual 175, 3) := by decide +kernel
theorem dX7_tipped_51 : decode cX7_tipped 51 = .ok (.aload_n 0, 1) := by decide +kernel
theorem dX7_tipped_52 : decode cX7_tipped 52 = .ok (.getfield 35, 3) := by decide +kernel
theorem dX7_tipped_55 : decode cX7_tipped 55 = .ok (.invokevirtual 163, 3) := by decide +kernel
theorem dX7_tipped_58 : decode cX7_tipped 58 = .ok (.iload_n 2, 1) := by decide +kernel
theorem dX7_tipped_59 : decode cX7_tipped 59 = .ok (.if_icmp .eq 10, 3) := by decide +kernel
theorem dX7_tipped_62 : decode cX7_tipped 62 = .ok (.iload_n 3, 1) := by decide +kernel
theorem dX7_tipped_63 : decode cX7_tipped 63 = .ok (.iconst 1, 1) := by decide +kernel
theorem dX7_tipped_64 : decode cX7_tipped 64 = .ok (.iload 4, 2) := by decide +kernel
theorem dX7_tipped_66 : decode cX7_tipped 66 = .ok (.ishl, 1) := by decide +kernel
theorem dX7_tipped_67 : decode cX7_tipped 67 = .ok (.ior, 1) := by decide +kernel
theorem dX7_tipped_68 : decode cX7_tipped 68 = .ok (.istore_n 3, 1) := by decide +kernel
theorem dX7_tipped_69 : decode cX7_tipped 69 = .ok (.iinc 4 1, 3) := by decide +kernel
theorem dX7_tipped_72 : decode cX7_tipped 72 = .ok (.goto (-40), 3) := by decide +kernel
theorem dX7_tipped_75 : decode cX7_tipped 75 = .ok (.iload_n 3, 1) := by decide +kernel
theorem dX7_tipped_76 : decode cX7_tipped 76 = .ok (.ireturn, 1) := by decide +kernel
theorem dX7_weighed_0 : decode cX7_weighed 0 = .ok (.iload_n 1, 1) := by decide +kernel
theorem dX7_weighed_1 : decode cX7_weighed 1 = .ok (.invokestatic 186, 3) := by decide +kernel
theorem dX7_weighed_4 : decode cX7_weighed 4 = .ok (.ifCond .eq 12, 3) := by decide +kernel
theorem dX7_weighed_7 : decode cX7_weighed 7 = .ok (.iload_n 2, 1) := by decide +kernel
theorem dX7_weighed_8 : decode cX7_weighed 8 = .ok (.iconst 0, 1) := by decide +kernel
theorem dX7_weighed_9 : decode cX7_weighed 9 = .ok (.iconst 1, 1) := by decide +kernel
theorem dX7_weighed_10 : decode cX7_weighed 10 = .ok (.invokestatic 56, 3) := by decide +kernel
theorem dX7_weighed_13 : decode cX7_weighed 13 = .ok (.ifCond .ne 6, 3) := by decide +kernel
theorem dX7_weighed_16 : decode cX7_weighed 16 = .ok (.ldc 60, 2) := by decide +kernel
theorem dX7_weighed_18 : decode cX7_weighed 18 = .ok (.ireturn, 1) := by decide +kernel
theorem dX7_weighed_19 : decode cX7_weighed 19 = .ok (.aload_n 0, 1) := by decide +kernel
theorem dX7_weighed_20 : decode cX7_weighed 20 = .ok (.getfield 40, 3) := by decide +kernel
theorem dX7_weighed_23 : decode cX7_weighed 23 = .ok (.iload_n 1, 1) := by decide +kernel
theorem dX7_weighed_24 : decode cX7_weighed 24 = .ok (.aaload, 1) := by decide +kernel
theorem dX7_weighed_25 : decode cX7_weighed 25 = .ok (.getfield 189, 3) := by decide +kernel
theorem dX7_weighed_28 : decode cX7_weighed 28 = .ok (.iconst (-1), 1) := by decide +kernel
theorem dX7_weighed_29 : decode cX7_weighed 29 = .ok (.if_icmp .ne 6, 3) := by decide +kernel
theorem dX7_weighed_32 : decode cX7_weighed 32 = .ok (.ldc 192, 2) := by decide +kernel
theorem dX7_weighed_34 : decode cX7_weighed 34 = .ok (.ireturn, 1) := by decide +kernel
theorem dX7_weighed_35 : decode cX7_weighed 35 = .ok (.aload_n 0, 1) := by decide +kernel
theorem dX7_weighed_36 : decode cX7_weighed 36 = .ok (.getfield 35, 3) := by decide +kernel
theorem dX7_weighed_39 : decode cX7_weighed 39 = .ok (.aload_n 0, 1) := by decide +kernel
theorem dX7_weighed_40 : decode cX7_weighed 40 = .ok (.getfield 28, 3) := by decide +kernel
theorem dX7_weighed_43 : decode cX7_weighed 43 = .ok (.invokevirtual 179, 3) := by decide +kernel
theorem dX7_weighed_46 : decode cX7_weighed 46 = .ok (.iconst 0, 1) := by decide +kernel
theorem dX7_weighed_47 : decode cX7_weighed 47 = .ok (.istore_n 3, 1) := by decide +kernel
theorem dX7_weighed_48 : decode cX7_weighed 48 = .ok (.iconst (-1), 1) := by decide +kernel
theorem dX7_weighed_49 : decode cX7_weighed 49 = .ok (.istore 4, 2) := by decide +kernel
theorem dX7_weighed_51 : decode cX7_weighed 51 = .ok (.iconst 0, 1) := by decide +kernel
theorem dX7_weighed_52 : decode cX7_weighed 52 = .ok (.istore 5, 2) := by decide +kernel
theorem dX7_weighed_54 : decode cX7_weighed 54 = .ok (.iload 5, 2) := by decide +kernel
theorem dX7_weighed_56 : decode cX7_weighed 56 = .ok (.bipush 8, 2) := by decide +kernel
theorem dX7_weighed_58 : decode cX7_weighed 58 = .ok (.if_icmp .ge 91, 3) := by decide +kernel
theorem dX7_weighed_61 : decode cX7_weighed 61 = .ok (.aload_n 0, 1) := by decide +kernel
theorem dX7_weighed_62 : decode cX7_weighed 62 = .ok (.getfield 35, 3) := by decide +kernel
theorem dX7_weighed_65 : decode cX7_weighed 65 = .ok (.getfield 127, 3) := by decide +kernel
theorem dX7_weighed_68 : decode cX7_weighed 68 = .ok (.iload 5, 2) := by decide +kernel
theorem dX7_weighed_70 : decode cX7_weighed 70 = .ok (.aload_n 0, 1) := by decide +kernel
theorem dX7_weighed_71 : decode cX7_weighed 71 = .ok (.getfield 28, 3) := by decide +kernel
theorem dX7_weighed_74 : decode cX7_weighed 74 = .ok (.getfield 127, 3) := by decide +kernel
theorem dX7_weighed_77 : decode cX7_weighed 77 = .ok (.iload 5, 2) := by decide +kernel
theorem dX7_weighed_79 : decode cX7_weighed 79 = .ok (.iaload, 1) := by decide +kernel
theorem dX7_weighed_80 : decode cX7_weighed 80 = .ok (.bipush 20, 2) := by decide +kernel
theorem dX7_weighed_82 : decode cX7_weighed 82 = .ok (.iadd, 1) := by decide +kernel
theorem dX7_weighed_83 : decode cX7_weighed 83 = .ok (.bipush 50, 2) := by decide +kernel
theorem dX7_weighed_85 : decode cX7_weighed 85 = .ok (.invokestatic 139, 3) := by decide +kernel
theorem dX7_weighed_88 : decode cX7_weighed 88 = .ok (.iastore, 1) := by decide +kernel
theorem dX7_weighed_89 : decode cX7_weighed 89 = .ok (.aload_n 0, 1) := by decide +kernel
theorem dX7_weighed_90 : decode cX7_weighed 90 = .ok (.getfield 35, 3) := by decide +kernel
theorem dX7_weighed_93 : decode cX7_weighed 93 = .ok (.aload_n 0, 1) := by decide +kernel
theorem dX7_weighed_94 : decode cX7_weighed 94 = .ok (.getfield 40, 3) := by decide +kernel
theorem dX7_weighed_97 : decode cX7_weighed 97 = .ok (.iload_n 1, 1) := by decide +kernel
theorem dX7_weighed_98 : decode cX7_weighed 98 = .ok (.aaload, 1) := by decide +kernel
theorem dX7_weighed_99 : decode cX7_weighed 99 = .ok (.invokestatic 193, 3) := by decide +kernel
theorem dX7_weighed_102 : decode cX7_weighed 102 = .ok (.istore 6, 2) := by decide +kernel
theorem dX7_weighed_104 : decode cX7_weighed 104 = .ok (.aload_n 0, 1) := by decide +kernel
theorem dX7_weighed_105 : decode cX7_weighed 105 = .ok (.getfield 35, 3) := by decide +kernel
theorem dX7_weighed_108 : decode cX7_weighed 108 = .ok (.getfield 127, 3) := by decide +kernel
theorem dX7_weighed_111 : decode cX7_weighed 111 = .ok (.iload 5, 2) := by decide +kernel
theorem dX7_weighed_113 : decode cX7_weighed 113 = .ok (.aload_n 0, 1) := by decide +kernel
theorem dX7_weighed_114 : decode cX7_weighed 114 = .ok (.getfield 28, 3) := by decide +kernel
theorem dX7_weighed_117 : decode cX7_weighed 117 = .ok (.getfield 127, 3) := by decide +kernel
theorem dX7_weighed_120 : decode cX7_weighed 120 = .ok (.iload 5, 2) := by decide +kernel
theorem dX7_weighed_122 : decode cX7_weighed 122 = .ok (.iaload, 1) := by decide +kernel
theorem dX7_weighed_123 : decode cX7_weighed 123 = .ok (.iastore, 1) := by decide +kernel
theorem dX7_weighed_124 : decode cX7_weighed 124 = .ok (.iload 4, 2) := by decide +kernel
theorem dX7_weighed_126 : decode cX7_weighed 126 = .ok (.ifCond .lt 10, 3) := by decide +kernel
theorem dX7_weighed_129 : decode cX7_weighed 129 = .ok (.iload 6, 2) := by decide +kernel
theorem dX7_weighed_131 : decode cX7_weighed 131 = .ok (.iload 4, 2) := by decide +kernel
theorem dX7_weighed_133 : decode cX7_weighed 133 = .ok (.if_icmp .ge 10, 3) := by decide +kernel
theorem dX7_weighed_136 : decode cX7_weighed 136 = .ok (.iload 6, 2) := by decide +kernel
theorem dX7_weighed_138 : decode cX7_weighed 138 = .ok (.istore 4, 2) := by decide +kernel
theorem dX7_weighed_140 : decode cX7_weighed 140 = .ok (.iload 5, 2) := by decide +kernel
theorem dX7_weighed_142 : decode cX7_weighed 142 = .ok (.istore_n 3, 1) := by decide +kernel
theorem dX7_weighed_143 : decode cX7_weighed 143 = .ok (.iinc 5 1, 3) := by decide +kernel
theorem dX7_weighed_146 : decode cX7_weighed 146 = .ok (.goto (-92), 3) := by decide +kernel
theorem dX7_weighed_149 : decode cX7_weighed 149 = .ok (.iload_n 2, 1) := by decide +kernel
theorem dX7_weighed_150 : decode cX7_weighed 150 = .ok (.ifCond .ne 7, 3) := by decide +kernel
theorem dX7_weighed_153 : decode cX7_weighed 153 = .ok (.iload_n 3, 1) := by decide +kernel
theorem dX7_weighed_154 : decode cX7_weighed 154 = .ok (.goto 5, 3) := by decide +kernel
theorem dX7_weighed_157 : decode cX7_weighed 157 = .ok (.iload 4, 2) := by decide +kernel
theorem dX7_weighed_159 : decode cX7_weighed 159 = .ok (.ireturn, 1) := by decide +kernel
theorem dX7_fee_0 : decode cX7_fee 0 = .ok (.aload_n 0, 1) := by decide +kernel
theorem dX7_fee_1 : decode cX7_fee 1 = .ok (.getfield 28, 3) := by decide +kernel
theorem dX7_fee_4 : decode cX7_fee 4 = .ok (.getfield 197, 3) := by decide +kernel
theorem dX7_fee_7 : decode cX7_fee 7 = .ok (.iconst 1, 1) := by decide +kernel
theorem dX7_fee_8 : decode cX7_fee 8 = .ok (.iaload, 1) := by decide +kernel
theorem dX7_fee_9 : decode cX7_fee 9 = .ok (.istore_n 1, 1) := by decide +kernel
theorem dX7_fee_10 : decode cX7_fee 10 = .ok (.iload_n 1, 1) := by decide +kernel
theorem dX7_fee_11 : decode cX7_fee 11 = .ok (.ifCond .ge 13, 3) := by decide +kernel
theorem dX7_fee_14 : decode cX7_fee 14 = .ok (.aload_n 0, 1) := by decide +kernel
theorem dX7_fee_15 : decode cX7_fee 15 = .ok (.getfield 28, 3) := by decide +kernel
theorem dX7_fee_18 : decode cX7_fee 18 = .ok (.getfield 166, 3) := by decide +kernel
theorem dX7_fee_21 : decode cX7_fee 21 = .ok (.goto 26, 3) := by decide +kernel
theorem dX7_fee_24 : decode cX7_fee 24 = .ok (.aload_n 0, 1) := by decide +kernel
theorem dX7_fee_25 : decode cX7_fee 25 = .ok (.getfield 10, 3) := by decide +kernel
theorem dX7_fee_28 : decode cX7_fee 28 = .ok (.iload_n 1, 1) := by decide +kernel
theorem dX7_fee_29 : decode cX7_fee 29 = .ok (.aload_n 0, 1) := by decide +kernel
theorem dX7_fee_30 : decode cX7_fee 30 = .ok (.getfield 28, 3) := by decide +kernel
theorem dX7_fee_33 : decode cX7_fee 33 = .ok (.getfield 153, 3) := by decide +kernel
theorem dX7_fee_36 : decode cX7_fee 36 = .ok (.aload_n 0, 1) := by decide +kernel
theorem dX7_fee_37 : decode cX7_fee 37 = .ok (.getfield 28, 3) := by decide +kernel
theorem dX7_fee_40 : decode cX7_fee 40 = .ok (.getfield 166, 3) := by decide +kernel
theorem dX7_fee_43 : decode cX7_fee 43 = .ok (.iconst 0, 1) := by decide +kernel
theorem dX7_fee_44 : decode cX7_fee 44 = .ok (.invokevirtual 200, 3) := by decide +kernel
theorem dX7_fee_47 : decode cX7_fee 47 = .ok (.ireturn, 1) := by decide +kernel
theorem dX7_fine_0 : decode cX7_fine 0 = .ok (.aload_n 0, 1) := by decide +kernel
theorem dX7_fine_1 : decode cX7_fine 1 = .ok (.getfield 28, 3) := by decide +kernel
theorem dX7_fine_4 : decode cX7_fine 4 = .ok (.iload_n 1, 1) := by decide +kernel
theorem dX7_fine_5 : decode cX7_fine 5 = .ok (.invokevirtual 70, 3) := by decide +kernel
theorem dX7_fine_8 : decode cX7_fine 8 = .ok (.ifCond .ne 6, 3) := by decide +kernel
theorem dX7_fine_11 : decode cX7_fine 11 = .ok (.ldc 60, 2) := by decide +kernel
theorem dX7_fine_13 : decode cX7_fine 13 = .ok (.ireturn, 1) := by decide +kernel
theorem dX7_fine_14 : decode cX7_fine 14 = .ok (.aload_n 0, 1) := by decide +kernel
theorem dX7_fine_15 : decode cX7_fine 15 = .ok (.getfield 28, 3) := by decide +kernel
theorem dX7_fine_18 : decode cX7_fine 18 = .ok (.getfield 197, 3) := by decide +kernel
theorem dX7_fine_21 : decode cX7_fine 21 = .ok (.iconst 2, 1) := by decide +kernel
theorem dX7_fine_22 : decode cX7_fine 22 = .ok (.iaload, 1) := by decide +kernel
theorem dX7_fine_23 : decode cX7_fine 23 = .ok (.istore_n 2, 1) := by decide +kernel
theorem dX7_fine_24 : decode cX7_fine 24 = .ok (.iload_n 2, 1) := by decide +kernel
theorem dX7_fine_25 : decode cX7_fine 25 = .ok (.ifCond .ge 15, 3) := by decide +kernel
theorem dX7_fine_28 : decode cX7_fine 28 = .ok (.aload_n 0, 1) := by decide +kernel
theorem dX7_fine_29 : decode cX7_fine 29 = .ok (.getfield 28, 3) := by decide +kernel
theorem dX7_fine_32 : decode cX7_fine 32 = .ok (.getfield 86, 3) := by decide +kernel
theorem dX7_fine_35 : decode cX7_fine 35 = .ok (.iload_n 1, 1) := by decide +kernel
theorem dX7_fine_36 : decode cX7_fine 36 = .ok (.iaload, 1) := by decide +kernel
theorem dX7_fine_37 : decode cX7_fine 37 = .ok (.goto 30, 3) := by decide +kernel
theorem dX7_fine_40 : decode cX7_fine 40 = .ok (.aload_n 0, 1) := by decide +kernel
theorem dX7_fine_41 : decode cX7_fine 41 = .ok (.getfield 10, 3) := by decide +kernel
theorem dX7_fine_44 : decode cX7_fine 44 = .ok (.iload_n 2, 1) := by decide +kernel
theorem dX7_fine_45 : decode cX7_fine 45 = .ok (.aload_n 0, 1) := by decide +kernel
theorem dX7_fine_46 : decode cX7_fine 46 = .ok (.getfield 28, 3) := by decide +kernel
theorem dX7_fine_49 : decode cX7_fine 49 = .ok (.getfield 86, 3) := by decide +kernel
theorem dX7_fine_52 : decode cX7_fine 52 = .ok (.iload_n 1, 1) := by decide +kernel
theorem dX7_fine_53 : decode cX7_fine 53 = .ok (.iaload, 1) := by decide +kernel
theorem dX7_fine_54 : decode cX7_fine 54 = .ok (.aload_n 0, 1) := by decide +kernel
theorem dX7_fine_55 : decode cX7_fine 55 = .ok (.getfield 28, 3) := by decide +kernel
theorem dX7_fine_58 : decode cX7_fine 58 = .ok (.getfield 83, 3) := by decide +kernel
theorem dX7_fine_61 : decode cX7_fine 61 = .ok (.iload_n 1, 1) := by decide +kernel
theorem dX7_fine_62 : decode cX7_fine 62 = .ok (.iaload, 1) := by decide +kernel
theorem dX7_fine_63 : decode cX7_fine 63 = .ok (.iconst 0, 1) := by decide +kernel
theorem dX7_fine_64 : decode cX7_fine 64 = .ok (.invokevirtual 200, 3) := by decide +kernel
theorem dX7_fine_67 : decode cX7_fine 67 = .ok (.ireturn, 1) := by decide +kernel
theorem dX7_feed_0 : decode cX7_feed 0 = .ok (.aload_n 0, 1) := by decide +kernel
theorem dX7_feed_1 : decode cX7_feed 1 = .ok (.getfield 19, 3) := by decide +kernel
theorem dX7_feed_4 : decode cX7_feed 4 = .ok (.getfield 204, 3) := by decide +kernel
theorem dX7_feed_7 : decode cX7_feed 7 = .ok (.bipush 84, 2) := by decide +kernel
theorem dX7_feed_9 : decode cX7_feed 9 = .ok (.if_icmp .le 6, 3) := by decide +kernel
theorem dX7_feed_12 : decode cX7_feed 12 = .ok (.ldc 65, 2) := by decide +kernel
theorem dX7_feed_14 : decode cX7_feed 14 = .ok (.ireturn, 1) := by decide +kernel
theorem dX7_feed_15 : decode cX7_feed 15 = .ok (.aload_n 0, 1) := by decide +kernel
theorem dX7_feed_16 : decode cX7_feed 16 = .ok (.getfield 19, 3) := by decide +kernel
theorem dX7_feed_19 : decode cX7_feed 19 = .ok (.iload_n 1, 1) := by decide +kernel
theorem dX7_feed_20 : decode cX7_feed 20 = .ok (.invokevirtual 207, 3) := by decide +kernel
theorem dX7_feed_23 : decode cX7_feed 23 = .ok (.aload_n 0, 1) := by decide +kernel
theorem dX7_feed_24 : decode cX7_feed 24 = .ok (.getfield 19, 3) := by decide +kernel
theorem dX7_feed_27 : decode cX7_feed 27 = .ok (.iload_n 2, 1) := by decide +kernel
theorem dX7_feed_28 : decode cX7_feed 28 = .ok (.invokevirtual 207, 3) := by decide +kernel
theorem dX7_feed_31 : decode cX7_feed 31 = .ok (.aload_n 0, 1) := by decide +kernel
theorem dX7_feed_32 : decode cX7_feed 32 = .ok (.getfield 19, 3) := by decide +kernel
theorem dX7_feed_35 : decode cX7_feed 35 = .ok (.iload_n 3, 1) := by decide +kernel
theorem dX7_feed_36 : decode cX7_feed 36 = .ok (.invokevirtual 207, 3) := by decide +kernel
theorem dX7_feed_39 : decode cX7_feed 39 = .ok (.aload_n 0, 1) := by decide +kernel
theorem dX7_feed_40 : decode cX7_feed 40 = .ok (.getfield 19, 3) := by decide +kernel
theorem dX7_feed_43 : decode cX7_feed 43 = .ok (.getfield 204, 3) := by decide +kernel
theorem dX7_feed_46 : decode cX7_feed 46 = .ok (.ireturn, 1) := by decide +kernel
theorem dX7_trim_0 : decode cX7_trim 0 = .ok (.iload_n 1, 1) := by decide +kernel
theorem dX7_trim_1 : decode cX7_trim 1 = .ok (.iconst 0, 1) := by decide +kernel
theorem dX7_trim_2 : decode cX7_trim 2 = .ok (.aload_n 0, 1) := by decide +kernel
theorem dX7_trim_3 : decode cX7_trim 3 = .ok (.getfield 19, 3) := by decide +kernel
theorem dX7_trim_6 : decode cX7_trim 6 = .ok (.getfield 204, 3) := by decide +kernel
theorem dX7_trim_9 : decode cX7_trim 9 = .ok (.invokestatic 56, 3) := by decide +kernel
theorem dX7_trim_12 : decode cX7_trim 12 = .ok (.ifCond .ne 6, 3) := by decide +kernel
theorem dX7_trim_15 : decode cX7_trim 15 = .ok (.ldc 60, 2) := by decide +kernel
theorem dX7_trim_17 : decode cX7_trim 17 = .ok (.ireturn, 1) := by decide +kernel
theorem dX7_trim_18 : decode cX7_trim 18 = .ok (.aload_n 0, 1) := by decide +kernel
theorem dX7_trim_19 : decode cX7_trim 19 = .ok (.getfield 19, 3) := by decide +kernel
theorem dX7_trim_22 : decode cX7_trim 22 = .ok (.iload_n 1, 1) := by decide +kernel
theorem dX7_trim_23 : decode cX7_trim 23 = .ok (.putfield 204, 3) := by decide +kernel
theorem dX7_trim_26 : decode cX7_trim 26 = .ok (.iload_n 1, 1) := by decide +kernel
theorem dX7_trim_27 : decode cX7_trim 27 = .ok (.ireturn, 1) := by decide +kernel
theorem dX7_text_0 : decode cX7_text 0 = .ok (.aload_n 0, 1) := by decide +kernel
theorem dX7_text_1 : decode cX7_text 1 = .ok (.getfield 19, 3) := by decide +kernel
theorem dX7_text_4 : decode cX7_text 4 = .ok (.invokevirtual 211, 3) := by decide +kernel
theorem dX7_text_7 : decode cX7_text 7 = .ok (.istore_n 1, 1) := by decide +kernel
theorem dX7_text_8 : decode cX7_text 8 = .ok (.aload_n 0, 1) := by decide +kernel
theorem dX7_text_9 : decode cX7_text 9 = .ok (.getfield 19, 3) := by decide +kernel
theorem dX7_text_12 : decode cX7_text 12 = .ok (.iconst 0, 1) := by decide +kernel
theorem dX7_text_13 : decode cX7_text 13 = .ok (.putfield 204, 3) := by decide +kernel
theorem dX7_text_16 : decode cX7_text 16 = .ok (.iload_n 1, 1) := by decide +kernel
theorem dX7_text_17 : decode cX7_text 17 = .ok (.ifCond .lt 8, 3) := by decide +kernel
theorem dX7_text_20 : decode cX7_text 20 = .ok (.bipush (-100), 2) := by decide +kernel
theorem dX7_text_22 : decode cX7_text 22 = .ok (.iload_n 1, 1) := by decide +kernel
theorem dX7_text_23 : decode cX7_text 23 = .ok (.isub, 1) := by decide +kernel
theorem dX7_text_24 : decode cX7_text 24 = .ok (.ireturn, 1) := by decide +kernel
theorem dX7_text_25 : decode cX7_text 25 = .ok (.aload_n 0, 1) := by decide +kernel
theorem dX7_text_26 : decode cX7_text 26 = .ok (.getfield 28, 3) := by decide +kernel
theorem dX7_text_29 : decode cX7_text 29 = .ok (.getfield 214, 3) := by decide +kernel
theorem dX7_text_32 : decode cX7_text 32 = .ok (.bipush 14, 2) := by decide +kernel
theorem dX7_text_34 : decode cX7_text 34 = .ok (.if_icmp .lt 6, 3) := by decide +kernel
theorem dX7_text_37 : decode cX7_text 37 = .ok (.ldc 65, 2) := by decide +kernel
theorem dX7_text_39 : decode cX7_text 39 = .ok (.ireturn, 1) := by decide +kernel
theorem dX7_text_40 : decode cX7_text 40 = .ok (.aload_n 0, 1) := by decide +kernel
theorem dX7_text_41 : decode cX7_text 41 = .ok (.getfield 28, 3) := by decide +kernel
theorem dX7_text_44 : decode cX7_text 44 = .ok (.getfield 214, 3) := by decide +kernel
theorem dX7_text_47 : decode cX7_text 47 = .ok (.istore_n 2, 1) := by decide +kernel
theorem dX7_text_48 : decode cX7_text 48 = .ok (.aload_n 0, 1) := by decide +kernel
theorem dX7_text_49 : decode cX7_text 49 = .ok (.getfield 10, 3) := by decide +kernel
theorem dX7_text_52 : decode cX7_text 52 = .ok (.iload_n 2, 1) := by decide +kernel
theorem dX7_text_53 : decode cX7_text 53 = .ok (.invokevirtual 217, 3) := by decide +kernel
theorem dX7_text_56 : decode cX7_text 56 = .ok (.aload_n 0, 1) := by decide +kernel
theorem dX7_text_57 : decode cX7_text 57 = .ok (.getfield 19, 3) := by decide +kernel
theorem dX7_text_60 : decode cX7_text 60 = .ok (.getfield 221, 3) := by decide +kernel
theorem dX7_text_63 : decode cX7_text 63 = .ok (.invokevirtual 225, 3) := by decide +kernel
theorem dX7_text_66 : decode cX7_text 66 = .ok (.aload_n 0, 1) := by decide +kernel
theorem dX7_text_67 : decode cX7_text 67 = .ok (.getfield 28, 3) := by decide +kernel
theorem dX7_text_70 : decode cX7_text 70 = .ok (.getfield 197, 3) := by decide +kernel
theorem dX7_text_73 : decode cX7_text 73 = .ok (.aload_n 0, 1) := by decide +kernel
theorem dX7_text_74 : decode cX7_text 74 = .ok (.getfield 19, 3) := by decide +kernel
theorem dX7_text_77 : decode cX7_text 77 = .ok (.getfield 221, 3) := by decide +kernel
theorem dX7_text_80 : decode cX7_text 80 = .ok (.getfield 230, 3) := by decide +kernel
theorem dX7_text_83 : decode cX7_text 83 = .ok (.iconst 0, 1) := by decide +kernel
theorem dX7_text_84 : decode cX7_text 84 = .ok (.iconst 2, 1) := by decide +kernel
theorem dX7_text_85 : decode cX7_text 85 = .ok (.invokestatic 233, 3) := by decide +kernel
theorem dX7_text_88 : decode cX7_text 88 = .ok (.iload_n 2, 1) := by decide +kernel
theorem dX7_text_89 : decode cX7_text 89 = .ok (.iastore, 1) := by decide +kernel
theorem dX7_text_90 : decode cX7_text 90 = .ok (.aload_n 0, 1) := by decide +kernel
theorem dX7_text_91 : decode cX7_text 91 = .ok (.getfield 28, 3) := by decide +kernel
theorem dX7_text_94 : decode cX7_text 94 = .ok (.dup, 1) := by decide +kernel
theorem dX7_text_95 : decode cX7_text 95 = .ok (.getfield 214, 3) := by decide +kernel
theorem dX7_text_98 : decode cX7_text 98 = .ok (.iconst 1, 1) := by decide +kernel
theorem dX7_text_99 : decode cX7_text 99 = .ok (.iadd, 1) := by decide +kernel
theorem dX7_text_100 : decode cX7_text 100 = .ok (.putfield 214, 3) := by decide +kernel
theorem dX7_text_103 : decode cX7_text 103 = .ok (.iload_n 2, 1) := by decide +kernel
theorem dX7_text_104 : decode cX7_text 104 = .ok (.ireturn, 1) := by decide +kernel
theorem dX7_textTold_0 : decode cX7_textTold 0 = .ok (.iload_n 1, 1) := by decide +kernel
theorem dX7_textTold_1 : decode cX7_textTold 1 = .ok (.iconst 0, 1) := by decide +kernel
theorem dX7_textTold_2 : decode cX7_textTold 2 = .ok (.aload_n 0, 1) := by decide +kernel
theorem dX7_textTold_3 : decode cX7_textTold 3 = .ok (.getfield 28, 3) := by decide +kernel
theorem dX7_textTold_6 : decode cX7_textTold 6 = .ok (.getfield 214, 3) := by decide +kernel
theorem dX7_textTold_9 : decode cX7_textTold 9 = .ok (.iconst 1, 1) := by decide +kernel
theorem dX7_textTold_10 : decode cX7_textTold 10 = .ok (.isub, 1) := by decide +kernel
theorem dX7_textTold_11 : decode cX7_textTold 11 = .ok (.invokestatic 56, 3) := by decide +kernel
theorem dX7_textTold_14 : decode cX7_textTold 14 = .ok (.ifCond .eq 12, 3) := by decide +kernel
theorem dX7_textTold_17 : decode cX7_textTold 17 = .ok (.iload_n 2, 1) := by decide +kernel
theorem dX7_textTold_18 : decode cX7_textTold 18 = .ok (.iconst 0, 1) := by decide +kernel
theorem dX7_textTold_19 : decode cX7_textTold 19 = .ok (.iconst 1, 1) := by decide +kernel
theorem dX7_textTold_20 : decode cX7_textTold 20 = .ok (.invokestatic 56, 3) := by decide +kernel
theorem dX7_textTold_23 : decode cX7_textTold 23 = .ok (.ifCond .ne 6, 3) := by decide +kernel
theorem dX7_textTold_26 : decode cX7_textTold 26 = .ok (.ldc 60, 2) := by decide +kernel
theorem dX7_textTold_28 : decode cX7_textTold 28 = .ok (.ireturn, 1) := by decide +kernel
theorem dX7_textTold_29 : decode cX7_textTold 29 = .ok (.aload_n 0, 1) := by decide +kernel
theorem dX7_textTold_30 : decode cX7_textTold 30 = .ok (.getfield 10, 3) := by decide +kernel
theorem dX7_textTold_33 : decode cX7_textTold 33 = .ok (.iload_n 1, 1) := by decide +kernel
theorem dX7_textTold_34 : decode cX7_textTold 34 = .ok (.invokevirtual 217, 3) := by decide +kernel
theorem dX7_textTold_37 : decode cX7_textTold 37 = .ok (.astore_n 3, 1) := by decide +kernel
theorem dX7_textTold_38 : decode cX7_textTold 38 = .ok (.iload_n 2, 1) := by decide +kernel
theorem dX7_textTold_39 : decode cX7_textTold 39 = .ok (.ifCond .ne 10, 3) := by decide +kernel
theorem dX7_textTold_42 : decode cX7_textTold 42 = .ok (.aload_n 3, 1) := by decide +kernel
theorem dX7_textTold_43 : decode cX7_textTold 43 = .ok (.getfield 230, 3) := by decide +kernel
theorem dX7_textTold_46 : decode cX7_textTold 46 = .ok (.goto 7, 3) := by decide +kernel
theorem dX7_textTold_49 : decode cX7_textTold 49 = .ok (.aload_n 3, 1) := by decide +kernel
theorem dX7_textTold_50 : decode cX7_textTold 50 = .ok (.getfield 237, 3) := by decide +kernel
theorem dX7_textTold_53 : decode cX7_textTold 53 = .ok (.ireturn, 1) := by decide +kernel
theorem dX7_why_0 : decode cX7_why 0 = .ok (.iload_n 1, 1) := by decide +kernel
theorem dX7_why_1 : decode cX7_why 1 = .ok (.iconst 0, 1) := by decide +kernel
theorem dX7_why_2 : decode cX7_why 2 = .ok (.iconst 2, 1) := by decide +kernel
theorem dX7_why_3 : decode cX7_why 3 = .ok (.invokestatic 56, 3) := by decide +kernel
theorem dX7_why_6 : decode cX7_why 6 = .ok (.ifCond .ne 6, 3) := by decide +kernel
theorem dX7_why_9 : decode cX7_why 9 = .ok (.ldc 60, 2) := by decide +kernel
theorem dX7_why_11 : decode cX7_why 11 = .ok (.ireturn, 1) := by decide +kernel
theorem dX7_why_12 : decode cX7_why 12 = .ok (.aload_n 0, 1) := by decide +kernel
theorem dX7_why_13 : decode cX7_why 13 = .ok (.getfield 28, 3) := by decide +kernel
theorem dX7_why_16 : decode cX7_why 16 = .ok (.getfield 197, 3) := by decide +kernel
theorem dX7_why_19 : decode cX7_why 19 = .ok (.iload_n 1, 1) := by decide +kernel
theorem dX7_why_20 : decode cX7_why 20 = .ok (.iaload, 1) := by decide +kernel
theorem dX7_why_21 : decode cX7_why 21 = .ok (.istore_n 2, 1) := by decide +kernel
theorem dX7_why_22 : decode cX7_why 22 = .ok (.iload_n 2, 1) := by decide +kernel
theorem dX7_why_23 : decode cX7_why 23 = .ok (.ifCond .ge 8, 3) := by decide +kernel
theorem dX7_why_26 : decode cX7_why 26 = .ok (.ldc 109, 2) := by decide +kernel
theorem dX7_why_28 : decode cX7_why 28 = .ok (.goto 4, 3) := by decide +kernel
theorem dX7_why_31 : decode cX7_why 31 = .ok (.iload_n 2, 1) := by decide +kernel
theorem dX7_why_32 : decode cX7_why 32 = .ok (.ireturn, 1) := by decide +kernel
theorem dX7_sheet_0 : decode cX7_sheet 0 = .ok (.iload_n 1, 1) := by decide +kernel
theorem dX7_sheet_1 : decode cX7_sheet 1 = .ok (.invokestatic 186, 3) := by decide +kernel
theorem dX7_sheet_4 : decode cX7_sheet 4 = .ok (.ifCond .eq 23, 3) := by decide +kernel
theorem dX7_sheet_7 : decode cX7_sheet 7 = .ok (.iload_n 2, 1) := by decide +kernel
theorem dX7_sheet_8 : decode cX7_sheet 8 = .ok (.iconst (-1), 1) := by decide +kernel
theorem dX7_sheet_9 : decode cX7_sheet 9 = .ok (.iconst 1, 1) := by decide +kernel
theorem dX7_sheet_10 : decode cX7_sheet 10 = .ok (.invokestatic 56, 3) := by decide +kernel
theorem dX7_sheet_13 : decode cX7_sheet 13 = .ok (.ifCond .eq 14, 3) := by decide +kernel
theorem dX7_sheet_16 : decode cX7_sheet 16 = .ok (.iload_n 2, 1) := by decide +kernel
theorem dX7_sheet_17 : decode cX7_sheet 17 = .ok (.iconst (-1), 1) := by decide +kernel
theorem dX7_sheet_18 : decode cX7_sheet 18 = .ok (.if_icmp .eq 12, 3) := by decide +kernel
theorem dX7_sheet_21 : decode cX7_sheet 21 = .ok (.iload_n 3, 1) := by decide +kernel
theorem dX7_sheet_22 : decode cX7_sheet 22 = .ok (.bipush 24, 2) := by decide +kernel
theorem dX7_sheet_24 : decode cX7_sheet 24 = .ok (.if_icmp .le 6, 3) := by decide +kernel
theorem dX7_sheet_27 : decode cX7_sheet 27 = .ok (.ldc 60, 2) := by decide +kernel
theorem dX7_sheet_29 : decode cX7_sheet 29 = .ok (.ireturn, 1) := by decide +kernel
theorem dX7_sheet_30 : decode cX7_sheet 30 = .ok (.iload_n 2, 1) := by decide +kernel
theorem dX7_sheet_31 : decode cX7_sheet 31 = .ok (.iconst (-1), 1) := by decide +kernel
theorem dX7_sheet_32 : decode cX7_sheet 32 = .ok (.if_icmp .eq 10, 3) := by decide +kernel
theorem dX7_sheet_35 : decode cX7_sheet 35 = .ok (.iload_n 3, 1) := by decide +kernel
theorem dX7_sheet_36 : decode cX7_sheet 36 = .ok (.ifCond .ge 6, 3) := by decide +kernel
theorem dX7_sheet_39 : decode cX7_sheet 39 = .ok (.ldc 240, 2) := by decide +kernel
theorem dX7_sheet_41 : decode cX7_sheet 41 = .ok (.ireturn, 1) := by decide +kernel
theorem dX7_sheet_42 : decode cX7_sheet 42 = .ok (.aload_n 0, 1) := by decide +kernel
theorem dX7_sheet_43 : decode cX7_sheet 43 = .ok (.getfield 40, 3) := by decide +kernel
theorem dX7_sheet_46 : decode cX7_sheet 46 = .ok (.iload_n 1, 1) := by decide +kernel
theorem dX7_sheet_47 : decode cX7_sheet 47 = .ok (.aaload, 1) := by decide +kernel
theorem dX7_sheet_48 : decode cX7_sheet 48 = .ok (.iload_n 2, 1) := by decide +kernel
theorem dX7_sheet_49 : decode cX7_sheet 49 = .ok (.iload_n 2, 1) := by decide +kernel
theorem dX7_sheet_50 : decode cX7_sheet 50 = .ok (.iconst (-1), 1) := by decide +kernel
theorem dX7_sheet_51 : decode cX7_sheet 51 = .ok (.if_icmp .ne 7, 3) := by decide +kernel
theorem dX7_sheet_54 : decode cX7_sheet 54 = .ok (.iconst 0, 1) := by decide +kernel
theorem dX7_sheet_55 : decode cX7_sheet 55 = .ok (.goto 4, 3) := by decide +kernel
theorem dX7_sheet_58 : decode cX7_sheet 58 = .ok (.iload_n 3, 1) := by decide +kernel
theorem dX7_sheet_59 : decode cX7_sheet 59 = .ok (.invokevirtual 241, 3) := by decide +kernel
theorem dX7_sheet_62 : decode cX7_sheet 62 = .ok (.aload_n 0, 1) := by decide +kernel
theorem dX7_sheet_63 : decode cX7_sheet 63 = .ok (.getfield 40, 3) := by decide +kernel
theorem dX7_sheet_66 : decode cX7_sheet 66 = .ok (.iload_n 1, 1) := by decide +kernel
theorem dX7_sheet_67 : decode cX7_sheet 67 = .ok (.aaload, 1) := by decide +kernel
theorem dX7_sheet_68 : decode cX7_sheet 68 = .ok (.getfield 244, 3) := by decide +kernel
theorem dX7_sheet_71 : decode cX7_sheet 71 = .ok (.ireturn, 1) := by decide +kernel
theorem dX7_mark_0 : decode cX7_mark 0 = .ok (.iload_n 1, 1) := by decide +kernel
theorem dX7_mark_1 : decode cX7_mark 1 = .ok (.invokestatic 186, 3) := by decide +kernel
theorem dX7_mark_4 : decode cX7_mark 4 = .ok (.ifCond .ne 6, 3) := by decide +kernel
theorem dX7_mark_7 : decode cX7_mark 7 = .ok (.ldc 60, 2) := by decide +kernel
theorem dX7_mark_9 : decode cX7_mark 9 = .ok (.ireturn, 1) := by decide +kernel
theorem dX7_mark_10 : decode cX7_mark 10 = .ok (.aload_n 0, 1) := by decide +kernel
theorem dX7_mark_11 : decode cX7_mark 11 = .ok (.getfield 40, 3) := by decide +kernel
theorem dX7_mark_14 : decode cX7_mark 14 = .ok (.iload_n 1, 1) := by decide +kernel
theorem dX7_mark_15 : decode cX7_mark 15 = .ok (.aaload, 1) := by decide +kernel
theorem dX7_mark_16 : decode cX7_mark 16 = .ok (.astore 4, 2) := by decide +kernel
theorem dX7_mark_18 : decode cX7_mark 18 = .ok (.aload 4, 2) := by decide +kernel
theorem dX7_mark_20 : decode cX7_mark 20 = .ok (.getfield 189, 3) := by decide +kernel
theorem dX7_mark_23 : decode cX7_mark 23 = .ok (.iconst (-1), 1) := by decide +kernel
theorem dX7_mark_24 : decode cX7_mark 24 = .ok (.if_icmp .ne 6, 3) := by decide +kernel
theorem dX7_mark_27 : decode cX7_mark 27 = .ok (.ldc 192, 2) := by decide +kernel
theorem dX7_mark_29 : decode cX7_mark 29 = .ok (.ireturn, 1) := by decide +kernel
theorem dX7_mark_30 : decode cX7_mark 30 = .ok (.aload 4, 2) := by decide +kernel
theorem dX7_mark_32 : decode cX7_mark 32 = .ok (.iload_n 2, 1) := by decide +kernel
theorem dX7_mark_33 : decode cX7_mark 33 = .ok (.invokevirtual 245, 3) := by decide +kernel
theorem dX7_mark_36 : decode cX7_mark 36 = .ok (.ifCond .ne 6, 3) := by decide +kernel
theorem dX7_mark_39 : decode cX7_mark 39 = .ok (.ldc 246, 2) := by decide +kernel
theorem dX7_mark_41 : decode cX7_mark 41 = .ok (.ireturn, 1) := by decide +kernel
theorem dX7_mark_42 : decode cX7_mark 42 = .ok (.aload 4, 2) := by decide +kernel
theorem dX7_mark_44 : decode cX7_mark 44 = .ok (.getfield 189, 3) := by decide +kernel
theorem dX7_mark_47 : decode cX7_mark 47 = .ok (.ifCond .ne 23, 3) := by decide +kernel
theorem dX7_mark_50 : decode cX7_mark 50 = .ok (.iload_n 3, 1) := by decide +kernel
theorem dX7_mark_51 : decode cX7_mark 51 = .ok (.ldc 109, 2) := by decide +kernel
theorem dX7_mark_53 : decode cX7_mark 53 = .ok (.if_icmp .ne 6, 3) := by decide +kernel
theorem dX7_mark_56 : decode cX7_mark 56 = .ok (.ldc 119, 2) := by decide +kernel
theorem dX7_mark_58 : decode cX7_mark 58 = .ok (.ireturn, 1) := by decide +kernel
