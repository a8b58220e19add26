theorem dX0_init_0 : decode cX0_init 0 = .ok (.aload_n 0, 1) := by decide +kernel
theorem dX0_init_1 : decode cX0_init 1 = .ok (.invokespecial 3, 3) := by decide +kernel
theorem dX0_init_4 : decode cX0_init 4 = .ok (.aload_n 0, 1) := by decide +kernel
theorem dX0_init_5 : decode cX0_init 5 = .ok (.bipush 48, 2) := by decide +kernel
theorem dX0_init_7 : decode cX0_init 7 = .ok (.newarray .int, 2) := by decide +kernel
theorem dX0_init_9 : decode cX0_init 9 = .ok (.putfield 9, 3) := by decide +kernel
theorem dX0_init_12 : decode cX0_init 12 = .ok (.aload_n 0, 1) := by decide +kernel
theorem dX0_init_13 : decode cX0_init 13 = .ok (.bipush 48, 2) := by decide +kernel
theorem dX0_init_15 : decode cX0_init 15 = .ok (.newarray .int, 2) := by decide +kernel
theorem dX0_init_17 : decode cX0_init 17 = .ok (.putfield 15, 3) := by decide +kernel
theorem dX0_init_20 : decode cX0_init 20 = .ok (.aload_n 0, 1) := by decide +kernel
theorem dX0_init_21 : decode cX0_init 21 = .ok (.bipush 48, 2) := by decide +kernel
theorem dX0_init_23 : decode cX0_init 23 = .ok (.newarray .int, 2) := by decide +kernel
theorem dX0_init_25 : decode cX0_init 25 = .ok (.putfield 18, 3) := by decide +kernel
theorem dX0_init_28 : decode cX0_init 28 = .ok (.aload_n 0, 1) := by decide +kernel
theorem dX0_init_29 : decode cX0_init 29 = .ok (.bipush 48, 2) := by decide +kernel
theorem dX0_init_31 : decode cX0_init 31 = .ok (.newarray .int, 2) := by decide +kernel
theorem dX0_init_33 : decode cX0_init 33 = .ok (.putfield 21, 3) := by decide +kernel
theorem dX0_init_36 : decode cX0_init 36 = .ok (.aload_n 0, 1) := by decide +kernel
theorem dX0_init_37 : decode cX0_init 37 = .ok (.bipush 48, 2) := by decide +kernel
theorem dX0_init_39 : decode cX0_init 39 = .ok (.newarray .boolean, 2) := by decide +kernel
theorem dX0_init_41 : decode cX0_init 41 = .ok (.putfield 24, 3) := by decide +kernel
theorem dX0_init_44 : decode cX0_init 44 = .ok (.aload_n 0, 1) := by decide +kernel
theorem dX0_init_45 : decode cX0_init 45 = .ok (.iconst 0, 1) := by decide +kernel
theorem dX0_init_46 : decode cX0_init 46 = .ok (.putfield 28, 3) := by decide +kernel
theorem dX0_init_49 : decode cX0_init 49 = .ok (.aload_n 0, 1) := by decide +kernel
theorem dX0_init_50 : decode cX0_init 50 = .ok (.iconst 0, 1) := by decide +kernel
theorem dX0_init_51 : decode cX0_init 51 = .ok (.putfield 32, 3) := by decide +kernel
theorem dX0_init_54 : decode cX0_init 54 = .ok (.return_, 1) := by decide +kernel
theorem dX0_find_0 : decode cX0_find 0 = .ok (.aload_n 0, 1) := by decide +kernel
theorem dX0_find_1 : decode cX0_find 1 = .ok (.iconst 0, 1) := by decide +kernel
theorem dX0_find_2 : decode cX0_find 2 = .ok (.putfield 32, 3) := by decide +kernel
theorem dX0_find_5 : decode cX0_find 5 = .ok (.iconst 0, 1) := by decide +kernel
theorem dX0_find_6 : decode cX0_find 6 = .ok (.istore_n 2, 1) := by decide +kernel
theorem dX0_find_7 : decode cX0_find 7 = .ok (.iload_n 2, 1) := by decide +kernel
theorem dX0_find_8 : decode cX0_find 8 = .ok (.bipush 48, 2) := by decide +kernel
theorem dX0_find_10 : decode cX0_find 10 = .ok (.if_icmp .ge 16, 3) := by decide +kernel
theorem dX0_find_13 : decode cX0_find 13 = .ok (.aload_n 0, 1) := by decide +kernel
theorem dX0_find_14 : decode cX0_find 14 = .ok (.getfield 9, 3) := by decide +kernel
theorem dX0_find_17 : decode cX0_find 17 = .ok (.iload_n 2, 1) := by decide +kernel
theorem dX0_find_18 : decode cX0_find 18 = .ok (.iconst (-1), 1) := by decide +kernel
theorem dX0_find_19 : decode cX0_find 19 = .ok (.iastore, 1) := by decide +kernel
theorem dX0_find_20 : decode cX0_find 20 = .ok (.iinc 2 1, 3) := by decide +kernel
theorem dX0_find_23 : decode cX0_find 23 = .ok (.goto (-16), 3) := by decide +kernel
theorem dX0_find_26 : decode cX0_find 26 = .ok (.iconst 0, 1) := by decide +kernel
theorem dX0_find_27 : decode cX0_find 27 = .ok (.istore_n 2, 1) := by decide +kernel
theorem dX0_find_28 : decode cX0_find 28 = .ok (.iload_n 2, 1) := by decide +kernel
theorem dX0_find_29 : decode cX0_find 29 = .ok (.aload_n 1, 1) := by decide +kernel
theorem dX0_find_30 : decode cX0_find 30 = .ok (.getfield 35, 3) := by decide +kernel
theorem dX0_find_33 : decode cX0_find 33 = .ok (.if_icmp .ge 41, 3) := by decide +kernel
theorem dX0_find_36 : decode cX0_find 36 = .ok (.iconst 0, 1) := by decide +kernel
theorem dX0_find_37 : decode cX0_find 37 = .ok (.istore_n 3, 1) := by decide +kernel
theorem dX0_find_38 : decode cX0_find 38 = .ok (.iload_n 3, 1) := by decide +kernel
theorem dX0_find_39 : decode cX0_find 39 = .ok (.aload_n 1, 1) := by decide +kernel
theorem dX0_find_40 : decode cX0_find 40 = .ok (.getfield 40, 3) := by decide +kernel
theorem dX0_find_43 : decode cX0_find 43 = .ok (.if_icmp .ge 25, 3) := by decide +kernel
theorem dX0_find_46 : decode cX0_find 46 = .ok (.aload_n 0, 1) := by decide +kernel
theorem dX0_find_47 : decode cX0_find 47 = .ok (.iload_n 3, 1) := by decide +kernel
theorem dX0_find_48 : decode cX0_find 48 = .ok (.iload_n 2, 1) := by decide +kernel
theorem dX0_find_49 : decode cX0_find 49 = .ok (.invokevirtual 43, 3) := by decide +kernel
theorem dX0_find_52 : decode cX0_find 52 = .ok (.ifCond .ge 10, 3) := by decide +kernel
theorem dX0_find_55 : decode cX0_find 55 = .ok (.aload_n 0, 1) := by decide +kernel
theorem dX0_find_56 : decode cX0_find 56 = .ok (.iload_n 3, 1) := by decide +kernel
theorem dX0_find_57 : decode cX0_find 57 = .ok (.iload_n 2, 1) := by decide +kernel
theorem dX0_find_58 : decode cX0_find 58 = .ok (.aload_n 1, 1) := by decide +kernel
theorem dX0_find_59 : decode cX0_find 59 = .ok (.invokevirtual 47, 3) := by decide +kernel
theorem dX0_find_62 : decode cX0_find 62 = .ok (.iinc 3 1, 3) := by decide +kernel
theorem dX0_find_65 : decode cX0_find 65 = .ok (.goto (-27), 3) := by decide +kernel
theorem dX0_find_68 : decode cX0_find 68 = .ok (.iinc 2 1, 3) := by decide +kernel
theorem dX0_find_71 : decode cX0_find 71 = .ok (.goto (-43), 3) := by decide +kernel
theorem dX0_find_74 : decode cX0_find 74 = .ok (.return_, 1) := by decide +kernel
theorem dX0_spreadFrom_0 : decode cX0_spreadFrom 0 = .ok (.aload_n 0, 1) := by decide +kernel
theorem dX0_spreadFrom_1 : decode cX0_spreadFrom 1 = .ok (.getfield 32, 3) := by decide +kernel
theorem dX0_spreadFrom_4 : decode cX0_spreadFrom 4 = .ok (.istore 4, 2) := by decide +kernel
theorem dX0_spreadFrom_6 : decode cX0_spreadFrom 6 = .ok (.iload 4, 2) := by decide +kernel
theorem dX0_spreadFrom_8 : decode cX0_spreadFrom 8 = .ok (.bipush 48, 2) := by decide +kernel
theorem dX0_spreadFrom_10 : decode cX0_spreadFrom 10 = .ok (.invokestatic 51, 3) := by decide +kernel
theorem dX0_spreadFrom_13 : decode cX0_spreadFrom 13 = .ok (.ifCond .ne 4, 3) := by decide +kernel
theorem dX0_spreadFrom_16 : decode cX0_spreadFrom 16 = .ok (.return_, 1) := by decide +kernel
theorem dX0_spreadFrom_17 : decode cX0_spreadFrom 17 = .ok (.aload_n 3, 1) := by decide +kernel
theorem dX0_spreadFrom_18 : decode cX0_spreadFrom 18 = .ok (.iload_n 1, 1) := by decide +kernel
theorem dX0_spreadFrom_19 : decode cX0_spreadFrom 19 = .ok (.iload_n 2, 1) := by decide +kernel
theorem dX0_spreadFrom_20 : decode cX0_spreadFrom 20 = .ok (.invokevirtual 55, 3) := by decide +kernel
theorem dX0_spreadFrom_23 : decode cX0_spreadFrom 23 = .ok (.istore 5, 2) := by decide +kernel
theorem dX0_spreadFrom_25 : decode cX0_spreadFrom 25 = .ok (.aload_n 0, 1) := by decide +kernel
theorem dX0_spreadFrom_26 : decode cX0_spreadFrom 26 = .ok (.dup, 1) := by decide +kernel
theorem dX0_spreadFrom_27 : decode cX0_spreadFrom 27 = .ok (.getfield 32, 3) := by decide +kernel
theorem dX0_spreadFrom_30 : decode cX0_spreadFrom 30 = .ok (.iconst 1, 1) := by decide +kernel
theorem dX0_spreadFrom_31 : decode cX0_spreadFrom 31 = .ok (.iadd, 1) := by decide +kernel
theorem dX0_spreadFrom_32 : decode cX0_spreadFrom 32 = .ok (.putfield 32, 3) := by decide +kernel
theorem dX0_spreadFrom_35 : decode cX0_spreadFrom 35 = .ok (.aload_n 0, 1) := by decide +kernel
theorem dX0_spreadFrom_36 : decode cX0_spreadFrom 36 = .ok (.getfield 15, 3) := by decide +kernel
theorem dX0_spreadFrom_39 : decode cX0_spreadFrom 39 = .ok (.iload 4, 2) := by decide +kernel
theorem dX0_spreadFrom_41 : decode cX0_spreadFrom 41 = .ok (.iload_n 1, 1) := by decide +kernel
theorem dX0_spreadFrom_42 : decode cX0_spreadFrom 42 = .ok (.iload_n 2, 1) := by decide +kernel
theorem dX0_spreadFrom_43 : decode cX0_spreadFrom 43 = .ok (.invokestatic 56, 3) := by decide +kernel
theorem dX0_spreadFrom_46 : decode cX0_spreadFrom 46 = .ok (.iastore, 1) := by decide +kernel
theorem dX0_spreadFrom_47 : decode cX0_spreadFrom 47 = .ok (.aload_n 0, 1) := by decide +kernel
theorem dX0_spreadFrom_48 : decode cX0_spreadFrom 48 = .ok (.iconst 0, 1) := by decide +kernel
theorem dX0_spreadFrom_49 : decode cX0_spreadFrom 49 = .ok (.putfield 28, 3) := by decide +kernel
theorem dX0_spreadFrom_52 : decode cX0_spreadFrom 52 = .ok (.aload_n 0, 1) := by decide +kernel
theorem dX0_spreadFrom_53 : decode cX0_spreadFrom 53 = .ok (.iload_n 1, 1) := by decide +kernel
theorem dX0_spreadFrom_54 : decode cX0_spreadFrom 54 = .ok (.iload_n 2, 1) := by decide +kernel
theorem dX0_spreadFrom_55 : decode cX0_spreadFrom 55 = .ok (.iload 4, 2) := by decide +kernel
theorem dX0_spreadFrom_57 : decode cX0_spreadFrom 57 = .ok (.invokevirtual 59, 3) := by decide +kernel
theorem dX0_spreadFrom_60 : decode cX0_spreadFrom 60 = .ok (.iconst 0, 1) := by decide +kernel
theorem dX0_spreadFrom_61 : decode cX0_spreadFrom 61 = .ok (.istore 6, 2) := by decide +kernel
theorem dX0_spreadFrom_63 : decode cX0_spreadFrom 63 = .ok (.iload 6, 2) := by decide +kernel
theorem dX0_spreadFrom_65 : decode cX0_spreadFrom 65 = .ok (.aload_n 0, 1) := by decide +kernel
theorem dX0_spreadFrom_66 : decode cX0_spreadFrom 66 = .ok (.getfield 28, 3) := by decide +kernel
theorem dX0_spreadFrom_69 : decode cX0_spreadFrom 69 = .ok (.if_icmp .ge 103, 3) := by decide +kernel
theorem dX0_spreadFrom_72 : decode cX0_spreadFrom 72 = .ok (.iload 6, 2) := by decide +kernel
theorem dX0_spreadFrom_74 : decode cX0_spreadFrom 74 = .ok (.bipush 48, 2) := by decide +kernel
theorem dX0_spreadFrom_76 : decode cX0_spreadFrom 76 = .ok (.if_icmp .ge 96, 3) := by decide +kernel
theorem dX0_spreadFrom_79 : decode cX0_spreadFrom 79 = .ok (.iconst 0, 1) := by decide +kernel
theorem dX0_spreadFrom_80 : decode cX0_spreadFrom 80 = .ok (.istore 7, 2) := by decide +kernel
theorem dX0_spreadFrom_82 : decode cX0_spreadFrom 82 = .ok (.iload 7, 2) := by decide +kernel
theorem dX0_spreadFrom_84 : decode cX0_spreadFrom 84 = .ok (.iconst 4, 1) := by decide +kernel
theorem dX0_spreadFrom_85 : decode cX0_spreadFrom 85 = .ok (.if_icmp .ge 81, 3) := by decide +kernel
theorem dX0_spreadFrom_88 : decode cX0_spreadFrom 88 = .ok (.aload_n 0, 1) := by decide +kernel
theorem dX0_spreadFrom_89 : decode cX0_spreadFrom 89 = .ok (.getfield 21, 3) := by decide +kernel
theorem dX0_spreadFrom_92 : decode cX0_spreadFrom 92 = .ok (.iload 6, 2) := by decide +kernel
theorem dX0_spreadFrom_94 : decode cX0_spreadFrom 94 = .ok (.iaload, 1) := by decide +kernel
theorem dX0_spreadFrom_95 : decode cX0_spreadFrom 95 = .ok (.bipush 8, 2) := by decide +kernel
theorem dX0_spreadFrom_97 : decode cX0_spreadFrom 97 = .ok (.irem, 1) := by decide +kernel
theorem dX0_spreadFrom_98 : decode cX0_spreadFrom 98 = .ok (.getstatic 63, 3) := by decide +kernel
theorem dX0_spreadFrom_101 : decode cX0_spreadFrom 101 = .ok (.iload 7, 2) := by decide +kernel
theorem dX0_spreadFrom_103 : decode cX0_spreadFrom 103 = .ok (.iaload, 1) := by decide +kernel
theorem dX0_spreadFrom_104 : decode cX0_spreadFrom 104 = .ok (.iadd, 1) := by decide +kernel
theorem dX0_spreadFrom_105 : decode cX0_spreadFrom 105 = .ok (.istore 8, 2) := by decide +kernel
theorem dX0_spreadFrom_107 : decode cX0_spreadFrom 107 = .ok (.aload_n 0, 1) := by decide +kernel
theorem dX0_spreadFrom_108 : decode cX0_spreadFrom 108 = .ok (.getfield 21, 3) := by decide +kernel
theorem dX0_spreadFrom_111 : decode cX0_spreadFrom 111 = .ok (.iload 6, 2) := by decide +kernel
theorem dX0_spreadFrom_113 : decode cX0_spreadFrom 113 = .ok (.iaload, 1) := by decide +kernel
theorem dX0_spreadFrom_114 : decode cX0_spreadFrom 114 = .ok (.bipush 8, 2) := by decide +kernel
theorem dX0_spreadFrom_116 : decode cX0_spreadFrom 116 = .ok (.idiv, 1) := by decide +kernel
theorem dX0_spreadFrom_117 : decode cX0_spreadFrom 117 = .ok (.getstatic 66, 3) := by decide +kernel
theorem dX0_spreadFrom_120 : decode cX0_spreadFrom 120 = .ok (.iload 7, 2) := by decide +kernel
theorem dX0_spreadFrom_122 : decode cX0_spreadFrom 122 = .ok (.iaload, 1) := by decide +kernel
theorem dX0_spreadFrom_123 : decode cX0_spreadFrom 123 = .ok (.iadd, 1) := by decide +kernel
theorem dX0_spreadFrom_124 : decode cX0_spreadFrom 124 = .ok (.istore 9, 2) := by decide +kernel
theorem dX0_spreadFrom_126 : decode cX0_spreadFrom 126 = .ok (.aload_n 3, 1) := by decide +kernel
theorem dX0_spreadFrom_127 : decode cX0_spreadFrom 127 = .ok (.iload 8, 2) := by decide +kernel
theorem dX0_spreadFrom_129 : decode cX0_spreadFrom 129 = .ok (.iload 9, 2) := by decide +kernel
theorem dX0_spreadFrom_131 : decode cX0_spreadFrom 131 = .ok (.invokevirtual 69, 3) := by decide +kernel
theorem dX0_spreadFrom_134 : decode cX0_spreadFrom 134 = .ok (.ifCond .eq 26, 3) := by decide +kernel
theorem dX0_spreadFrom_137 : decode cX0_spreadFrom 137 = .ok (.aload_n 3, 1) := by decide +kernel
theorem dX0_spreadFrom_138 : decode cX0_spreadFrom 138 = .ok (.iload 8, 2) := by decide +kernel
theorem dX0_spreadFrom_140 : decode cX0_spreadFrom 140 = .ok (.iload 9, 2) := by decide +kernel
theorem dX0_spreadFrom_142 : decode cX0_spreadFrom 142 = .ok (.invokevirtual 55, 3) := by decide +kernel
theorem dX0_spreadFrom_145 : decode cX0_spreadFrom 145 = .ok (.iload 5, 2) := by decide +kernel
theorem dX0_spreadFrom_147 : decode cX0_spreadFrom 147 = .ok (.if_icmp .ne 13, 3) := by decide +kernel
theorem dX0_spreadFrom_150 : decode cX0_spreadFrom 150 = .ok (.aload_n 0, 1) := by decide +kernel
theorem dX0_spreadFrom_151 : decode cX0_spreadFrom 151 = .ok (.iload 8, 2) := by decide +kernel
theorem dX0_spreadFrom_153 : decode cX0_spreadFrom 153 = .ok (.iload 9, 2) := by decide +kernel
theorem dX0_spreadFrom_155 : decode cX0_spreadFrom 155 = .ok (.iload 4, 2) := by decide +kernel
theorem dX0_spreadFrom_157 : decode cX0_spreadFrom 157 = .ok (.invokevirtual 59, 3) := by decide +kernel
theorem dX0_spreadFrom_160 : decode cX0_spreadFrom 160 = .ok (.iinc 7 1, 3) := by decide +kernel
theorem dX0_spreadFrom_163 : decode cX0_spreadFrom 163 = .ok (.goto (-81), 3) := by decide +kernel
theorem dX0_spreadFrom_166 : decode cX0_spreadFrom 166 = .ok (.iinc 6 1, 3) := by decide +kernel
theorem dX0_spreadFrom_169 : decode cX0_spreadFrom 169 = .ok (.goto (-106), 3) := by decide +kernel
theorem dX0_spreadFrom_172 : decode cX0_spreadFrom 172 = .ok (.aload_n 0, 1) := by decide +kernel
theorem dX0_spreadFrom_173 : decode cX0_spreadFrom 173 = .ok (.getfield 18, 3) := by decide +kernel
theorem dX0_spreadFrom_176 : decode cX0_spreadFrom 176 = .ok (.iload 4, 2) := by decide +kernel
theorem dX0_spreadFrom_178 : decode cX0_spreadFrom 178 = .ok (.aload_n 0, 1) := by decide +kernel
theorem dX0_spreadFrom_179 : decode cX0_spreadFrom 179 = .ok (.getfield 28, 3) := by decide +kernel
theorem dX0_spreadFrom_182 : decode cX0_spreadFrom 182 = .ok (.iastore, 1) := by decide +kernel
theorem dX0_spreadFrom_183 : decode cX0_spreadFrom 183 = .ok (.return_, 1) := by decide +kernel
theorem dX0_join_0 : decode cX0_join 0 = .ok (.iload_n 1, 1) := by decide +kernel
theorem dX0_join_1 : decode cX0_join 1 = .ok (.iload_n 2, 1) := by decide +kernel
theorem dX0_join_2 : decode cX0_join 2 = .ok (.invokestatic 56, 3) := by decide +kernel
theorem dX0_join_5 : decode cX0_join 5 = .ok (.istore 4, 2) := by decide +kernel
theorem dX0_join_7 : decode cX0_join 7 = .ok (.iload 4, 2) := by decide +kernel
theorem dX0_join_9 : decode cX0_join 9 = .ok (.bipush 48, 2) := by decide +kernel
theorem dX0_join_11 : decode cX0_join 11 = .ok (.invokestatic 51, 3) := by decide +kernel
theorem dX0_join_14 : decode cX0_join 14 = .ok (.ifCond .eq 54, 3) := by decide +kernel
theorem dX0_join_17 : decode cX0_join 17 = .ok (.aload_n 0, 1) := by decide +kernel
theorem dX0_join_18 : decode cX0_join 18 = .ok (.getfield 9, 3) := by decide +kernel
theorem dX0_join_21 : decode cX0_join 21 = .ok (.iload 4, 2) := by decide +kernel
theorem dX0_join_23 : decode cX0_join 23 = .ok (.iaload, 1) := by decide +kernel
theorem dX0_join_24 : decode cX0_join 24 = .ok (.ifCond .ge 44, 3) := by decide +kernel
theorem dX0_join_27 : decode cX0_join 27 = .ok (.aload_n 0, 1) := by decide +kernel
theorem dX0_join_28 : decode cX0_join 28 = .ok (.getfield 28, 3) := by decide +kernel
theorem dX0_join_31 : decode cX0_join 31 = .ok (.bipush 48, 2) := by decide +kernel
theorem dX0_join_33 : decode cX0_join 33 = .ok (.invokestatic 51, 3) := by decide +kernel
theorem dX0_join_36 : decode cX0_join 36 = .ok (.ifCond .eq 32, 3) := by decide +kernel
theorem dX0_join_39 : decode cX0_join 39 = .ok (.aload_n 0, 1) := by decide +kernel
theorem dX0_join_40 : decode cX0_join 40 = .ok (.getfield 9, 3) := by decide +kernel
theorem dX0_join_43 : decode cX0_join 43 = .ok (.iload 4, 2) := by decide +kernel
theorem dX0_join_45 : decode cX0_join 45 = .ok (.iload_n 3, 1) := by decide +kernel
theorem dX0_join_46 : decode cX0_join 46 = .ok (.iastore, 1) := by decide +kernel
theorem dX0_join_47 : decode cX0_join 47 = .ok (.aload_n 0, 1) := by decide +kernel
theorem dX0_join_48 : decode cX0_join 48 = .ok (.getfield 21, 3) := by decide +kernel
theorem dX0_join_51 : decode cX0_join 51 = .ok (.aload_n 0, 1) := by decide +kernel
theorem dX0_join_52 : decode cX0_join 52 = .ok (.getfield 28, 3) := by decide +kernel
theorem dX0_join_55 : decode cX0_join 55 = .ok (.iload 4, 2) := by decide +kernel
theorem dX0_join_57 : decode cX0_join 57 = .ok (.iastore, 1) := by decide +kernel
theorem dX0_join_58 : decode cX0_join 58 = .ok (.aload_n 0, 1) := by decide +kernel
theorem dX0_join_59 : decode cX0_join 59 = .ok (.dup, 1) := by decide +kernel
theorem dX0_join_60 : decode cX0_join 60 = .ok (.getfield 28, 3) := by decide +kernel
theorem dX0_join_63 : decode cX0_join 63 = .ok (.iconst 1, 1) := by decide +kernel
theorem dX0_join_64 : decode cX0_join 64 = .ok (.iadd, 1) := by decide +kernel
theorem dX0_join_65 : decode cX0_join 65 = .ok (.putfield 28, 3) := by decide +kernel
theorem dX0_join_68 : decode cX0_join 68 = .ok (.return_, 1) := by decide +kernel
theorem dX0_at_0 : decode cX0_at 0 = .ok (.iload_n 1, 1) := by decide +kernel
theorem dX0_at_1 : decode cX0_at 1 = .ok (.iload_n 2, 1) := by decide +kernel
theorem dX0_at_2 : decode cX0_at 2 = .ok (.invokestatic 56, 3) := by decide +kernel
theorem dX0_at_5 : decode cX0_at 5 = .ok (.istore_n 3, 1) := by decide +kernel
theorem dX0_at_6 : decode cX0_at 6 = .ok (.iload_n 3, 1) := by decide +kernel
theorem dX0_at_7 : decode cX0_at 7 = .ok (.bipush 48, 2) := by decide +kernel
theorem dX0_at_9 : decode cX0_at 9 = .ok (.invokestatic 51, 3) := by decide +kernel
theorem dX0_at_12 : decode cX0_at 12 = .ok (.ifCond .eq 12, 3) := by decide +kernel
theorem dX0_at_15 : decode cX0_at 15 = .ok (.aload_n 0, 1) := by decide +kernel
theorem dX0_at_16 : decode cX0_at 16 = .ok (.getfield 9, 3) := by decide +kernel
theorem dX0_at_19 : decode cX0_at 19 = .ok (.iload_n 3, 1) := by decide +kernel
theorem dX0_at_20 : decode cX0_at 20 = .ok (.iaload, 1) := by decide +kernel
theorem dX0_at_21 : decode cX0_at 21 = .ok (.goto 4, 3) := by decide +kernel
theorem dX0_at_24 : decode cX0_at 24 = .ok (.iconst (-1), 1) := by decide +kernel
theorem dX0_at_25 : decode cX0_at 25 = .ok (.ireturn, 1) := by decide +kernel
theorem dX0_firstX_0 : decode cX0_firstX 0 = .ok (.iload_n 1, 1) := by decide +kernel
theorem dX0_firstX_1 : decode cX0_firstX 1 = .ok (.aload_n 0, 1) := by decide +kernel
theorem dX0_firstX_2 : decode cX0_firstX 2 = .ok (.getfield 32, 3) := by decide +kernel
theorem dX0_firstX_5 : decode cX0_firstX 5 = .ok (.invokestatic 51, 3) := by decide +kernel
theorem dX0_firstX_8 : decode cX0_firstX 8 = .ok (.ifCond .eq 15, 3) := by decide +kernel
theorem dX0_firstX_11 : decode cX0_firstX 11 = .ok (.aload_n 0, 1) := by decide +kernel
theorem dX0_firstX_12 : decode cX0_firstX 12 = .ok (.getfield 15, 3) := by decide +kernel
theorem dX0_firstX_15 : decode cX0_firstX 15 = .ok (.iload_n 1, 1) := by decide +kernel
theorem dX0_firstX_16 : decode cX0_firstX 16 = .ok (.iaload, 1) := by decide +kernel
theorem dX0_firstX_17 : decode cX0_firstX 17 = .ok (.bipush 8, 2) := by decide +kernel
theorem dX0_firstX_19 : decode cX0_firstX 19 = .ok (.irem, 1) := by decide +kernel
theorem dX0_firstX_20 : decode cX0_firstX 20 = .ok (.goto 4, 3) := by decide +kernel
theorem dX0_firstX_23 : decode cX0_firstX 23 = .ok (.iconst (-1), 1) := by decide +kernel
theorem dX0_firstX_24 : decode cX0_firstX 24 = .ok (.ireturn, 1) := by decide +kernel
theorem dX0_firstY_0 : decode cX0_firstY 0 = .ok (.iload_n 1, 1) := by decide +kernel
theorem dX0_firstY_1 : decode cX0_firstY 1 = .ok (.aload_n 0, 1) := by decide +kernel
theorem dX0_firstY_2 : decode cX0_firstY 2 = .ok (.getfield 32, 3) := by decide +kernel
theorem dX0_firstY_5 : decode cX0_firstY 5 = .ok (.invokestatic 51, 3) := by decide +kernel
theorem dX0_firstY_8 : decode cX0_firstY 8 = .ok (.ifCond .eq 15, 3) := by decide +kernel
theorem dX0_firstY_11 : decode cX0_firstY 11 = .ok (.aload_n 0, 1) := by decide +kernel
theorem dX0_firstY_12 : decode cX0_firstY 12 = .ok (.getfield 15, 3) := by decide +kernel
theorem dX0_firstY_15 : decode cX0_firstY 15 = .ok (.iload_n 1, 1) := by decide +kernel
theorem dX0_firstY_16 : decode cX0_firstY 16 = .ok (.iaload, 1) := by decide +kernel
theorem dX0_firstY_17 : decode cX0_firstY 17 = .ok (.bipush 8, 2) := by decide +kernel
theorem dX0_firstY_19 : decode cX0_firstY 19 = .ok (.idiv, 1) := by decide +kernel
theorem dX0_firstY_20 : decode cX0_firstY 20 = .ok (.goto 4, 3) := by decide +kernel
theorem dX0_firstY_23 : decode cX0_firstY 23 = .ok (.iconst (-1), 1) := by decide +kernel
theorem dX0_firstY_24 : decode cX0_firstY 24 = .ok (.ireturn, 1) := by decide +kernel
theorem dX0_placesOf_0 : decode cX0_placesOf 0 = .ok (.iload_n 1, 1) := by decide +kernel
theorem dX0_placesOf_1 : decode cX0_placesOf 1 = .ok (.aload_n 0, 1) := by decide +kernel
theorem dX0_placesOf_2 : decode cX0_placesOf 2 = .ok (.getfield 32, 3) := by decide +kernel
theorem dX0_placesOf_5 : decode cX0_placesOf 5 = .ok (.invokestatic 51, 3) := by decide +kernel
theorem dX0_placesOf_8 : decode cX0_placesOf 8 = .ok (.ifCond .eq 12, 3) := by decide +kernel
theorem dX0_placesOf_11 : decode cX0_placesOf 11 = .ok (.aload_n 0, 1) := by decide +kernel
theorem dX0_placesOf_12 : decode cX0_placesOf 12 = .ok (.getfield 18, 3) := by decide +kernel
theorem dX0_placesOf_15 : decode cX0_placesOf 15 = .ok (.iload_n 1, 1) := by decide +kernel
theorem dX0_placesOf_16 : decode cX0_placesOf 16 = .ok (.iaload, 1) := by decide +kernel
theorem dX0_placesOf_17 : decode cX0_placesOf 17 = .ok (.goto 4, 3) := by decide +kernel
theorem dX0_placesOf_20 : decode cX0_placesOf 20 = .ok (.iconst 0, 1) := by decide +kernel
theorem dX0_placesOf_21 : decode cX0_placesOf 21 = .ok (.ireturn, 1) := by decide +kernel
theorem dX0_greaterThan_0 : decode cX0_greaterThan 0 = .ok (.iconst 0, 1) := by decide +kernel
theorem dX0_greaterThan_1 : decode cX0_greaterThan 1 = .ok (.istore_n 2, 1) := by decide +kernel
theorem dX0_greaterThan_2 : decode cX0_greaterThan 2 = .ok (.iconst 0, 1) := by decide +kernel
theorem dX0_greaterThan_3 : decode cX0_greaterThan 3 = .ok (.istore_n 3, 1) := by decide +kernel
theorem dX0_greaterThan_4 : decode cX0_greaterThan 4 = .ok (.iload_n 3, 1) := by decide +kernel
theorem dX0_greaterThan_5 : decode cX0_greaterThan 5 = .ok (.aload_n 0, 1) := by decide +kernel
theorem dX0_greaterThan_6 : decode cX0_greaterThan 6 = .ok (.getfield 32, 3) := by decide +kernel
theorem dX0_greaterThan_9 : decode cX0_greaterThan 9 = .ok (.if_icmp .ge 40, 3) := by decide +kernel
theorem dX0_greaterThan_12 : decode cX0_greaterThan 12 = .ok (.aload_n 0, 1) := by decide +kernel
theorem dX0_greaterThan_13 : decode cX0_greaterThan 13 = .ok (.iload_n 3, 1) := by decide +kernel
theorem dX0_greaterThan_14 : decode cX0_greaterThan 14 = .ok (.invokevirtual 72, 3) := by decide +kernel
theorem dX0_greaterThan_17 : decode cX0_greaterThan 17 = .ok (.aload_n 0, 1) := by decide +kernel
theorem dX0_greaterThan_18 : decode cX0_greaterThan 18 = .ok (.iload_n 1, 1) := by decide +kernel
theorem dX0_greaterThan_19 : decode cX0_greaterThan 19 = .ok (.invokevirtual 72, 3) := by decide +kernel
theorem dX0_greaterThan_22 : decode cX0_greaterThan 22 = .ok (.isub, 1) := by decide +kernel
theorem dX0_greaterThan_23 : decode cX0_greaterThan 23 = .ok (.istore 4, 2) := by decide +kernel
theorem dX0_greaterThan_25 : decode cX0_greaterThan 25 = .ok (.iload 4, 2) := by decide +kernel
theorem dX0_greaterThan_27 : decode cX0_greaterThan 27 = .ok (.ifCond .gt 13, 3) := by decide +kernel
theorem dX0_greaterThan_30 : decode cX0_greaterThan 30 = .ok (.iload 4, 2) := by decide +kernel
theorem dX0_greaterThan_32 : decode cX0_greaterThan 32 = .ok (.ifCond .ne 11, 3) := by decide +kernel
theorem dX0_greaterThan_35 : decode cX0_greaterThan 35 = .ok (.iload_n 3, 1) := by decide +kernel
theorem dX0_greaterThan_36 : decode cX0_greaterThan 36 = .ok (.iload_n 1, 1) := by decide +kernel
theorem dX0_greaterThan_37 : decode cX0_greaterThan 37 = .ok (.if_icmp .ge 6, 3) := by decide +kernel
theorem dX0_greaterThan_40 : decode cX0_greaterThan 40 = .ok (.iinc 2 1, 3) := by decide +kernel
theorem dX0_greaterThan_43 : decode cX0_greaterThan 43 = .ok (.iinc 3 1, 3) := by decide +kernel
theorem dX0_greaterThan_46 : decode cX0_greaterThan 46 = .ok (.goto (-42), 3) := by decide +kernel
theorem dX0_greaterThan_49 : decode cX0_greaterThan 49 = .ok (.iload_n 2, 1) := by decide +kernel
theorem dX0_greaterThan_50 : decode cX0_greaterThan 50 = .ok (.ireturn, 1) := by decide +kernel
theorem dX0_neighboursOf_0 : decode cX0_neighboursOf 0 = .ok (.iconst 0, 1) := by decide +kernel
theorem dX0_neighboursOf_1 : decode cX0_neighboursOf 1 = .ok (.istore_n 3, 1) := by decide +kernel
theorem dX0_neighboursOf_2 : decode cX0_neighboursOf 2 = .ok (.iload_n 3, 1) := by decide +kernel
theorem dX0_neighboursOf_3 : decode cX0_neighboursOf 3 = .ok (.bipush 48, 2) := by decide +kernel
theorem dX0_neighboursOf_5 : decode cX0_neighboursOf 5 = .ok (.if_icmp .ge 16, 3) := by decide +kernel
theorem dX0_neighboursOf_8 : decode cX0_neighboursOf 8 = .ok (.aload_n 0, 1) := by decide +kernel
theorem dX0_neighboursOf_9 : decode cX0_neighboursOf 9 = .ok (.getfield 24, 3) := by decide +kernel
theorem dX0_neighboursOf_12 : decode cX0_neighboursOf 12 = .ok (.iload_n 3, 1) := by decide +kernel
theorem dX0_neighboursOf_13 : decode cX0_neighboursOf 13 = .ok (.iconst 0, 1) := by decide +kernel
theorem dX0_neighboursOf_14 : decode cX0_neighboursOf 14 = .ok (.bastore, 1) := by decide +kernel
theorem dX0_neighboursOf_15 : decode cX0_neighboursOf 15 = .ok (.iinc 3 1, 3) := by decide +kernel
theorem dX0_neighboursOf_18 : decode cX0_neighboursOf 18 = .ok (.goto (-16), 3) := by decide +kernel
theorem dX0_neighboursOf_21 : decode cX0_neighboursOf 21 = .ok (.iconst 0, 1) := by decide +kernel
theorem dX0_neighboursOf_22 : decode cX0_neighboursOf 22 = .ok (.istore_n 3, 1) := by decide +kernel
theorem dX0_neighboursOf_23 : decode cX0_neighboursOf 23 = .ok (.iconst 0, 1) := by decide +kernel
theorem dX0_neighboursOf_24 : decode cX0_neighboursOf 24 = .ok (.istore 4, 2) := by decide +kernel
theorem dX0_neighboursOf_26 : decode cX0_neighboursOf 26 = .ok (.iload 4, 2) := by decide +kernel
theorem dX0_neighboursOf_28 : decode cX0_neighboursOf 28 = .ok (.aload_n 2, 1) := by decide +kernel
theorem dX0_neighboursOf_29 : decode cX0_neighboursOf 29 = .ok (.getfield 35, 3) := by decide +kernel
theorem dX0_neighboursOf_32 : decode cX0_neighboursOf 32 = .ok (.if_icmp .ge 52, 3) := by decide +kernel
theorem dX0_neighboursOf_35 : decode cX0_neighboursOf 35 = .ok (.iconst 0, 1) := by decide +kernel
theorem dX0_neighboursOf_36 : decode cX0_neighboursOf 36 = .ok (.istore 5, 2) := by decide +kernel
theorem dX0_neighboursOf_38 : decode cX0_neighboursOf 38 = .ok (.iload 5, 2) := by decide +kernel
theorem dX0_neighboursOf_40 : decode cX0_neighboursOf 40 = .ok (.aload_n 2, 1) := by decide +kernel
theorem dX0_neighboursOf_41 : decode cX0_neighboursOf 41 = .ok (.getfield 40, 3) := by decide +kernel
theorem dX0_neighboursOf_44 : decode cX0_neighboursOf 44 = .ok (.if_icmp .ge 34, 3) := by decide +kernel
theorem dX0_neighboursOf_47 : decode cX0_neighboursOf 47 = .ok (.aload_n 0, 1) := by decide +kernel
theorem dX0_neighboursOf_48 : decode cX0_neighboursOf 48 = .ok (.iload 5, 2) := by decide +kernel
theorem dX0_neighboursOf_50 : decode cX0_neighboursOf 50 = .ok (.iload 4, 2) := by decide +kernel
theorem dX0_neighboursOf_52 : decode cX0_neighboursOf 52 = .ok (.invokevirtual 43, 3) := by decide +kernel
theorem dX0_neighboursOf_55 : decode cX0_neighboursOf 55 = .ok (.iload_n 1, 1) := by decide +kernel
theorem dX0_neighboursOf_56 : decode cX0_neighboursOf 56 = .ok (.if_icmp .ne 16, 3) := by decide +kernel
theorem dX0_neighboursOf_59 : decode cX0_neighboursOf 59 = .ok (.iload_n 3, 1) := by decide +kernel
theorem dX0_neighboursOf_60 : decode cX0_neighboursOf 60 = .ok (.aload_n 0, 1) := by decide +kernel
theorem dX0_neighboursOf_61 : decode cX0_neighboursOf 61 = .ok (.iload 5, 2) := by decide +kernel
theorem dX0_neighboursOf_63 : decode cX0_neighboursOf 63 = .ok (.iload 4, 2) := by decide +kernel
theorem dX0_neighboursOf_65 : decode cX0_neighboursOf 65 = .ok (.iload_n 1, 1) := by decide +kernel
theorem dX0_neighboursOf_66 : decode cX0_neighboursOf 66 = .ok (.aload_n 2, 1) := by decide +kernel
theorem dX0_neighboursOf_67 : decode cX0_neighboursOf 67 = .ok (.invokevirtual 76, 3) := by decide +kernel
theorem dX0_neighboursOf_70 : decode cX0_neighboursOf 70 = .ok (.iadd, 1) := by decide +kernel
theorem dX0_neighboursOf_71 : decode cX0_neighboursOf 71 = .ok (.istore_n 3, 1) := by decide +kernel
theorem dX0_neighboursOf_72 : decode cX0_neighboursOf 72 = .ok (.iinc 5 1, 3) := by decide +kernel
theorem dX0_neighboursOf_75 : decode cX0_neighboursOf 75 = .ok (.goto (-37), 3) := by decide +kernel
theorem dX0_neighboursOf_78 : decode cX0_neighboursOf 78 = .ok (.iinc 4 1, 3) := by decide +kernel
theorem dX0_neighboursOf_81 : decode cX0_neighboursOf 81 = .ok (.goto (-55), 3) := by decide +kernel
theorem dX0_neighboursOf_84 : decode cX0_neighboursOf 84 = .ok (.iload_n 3, 1) := by decide +kernel
theorem dX0_neighboursOf_85 : decode cX0_neighboursOf 85 = .ok (.ireturn, 1) := by decide +kernel
theorem dX0_meetBeside_0 : decode cX0_meetBeside 0 = .ok (.iconst 0, 1) := by decide +kernel
theorem dX0_meetBeside_1 : decode cX0_meetBeside 1 = .ok (.istore 5, 2) := by decide +kernel
theorem dX0_meetBeside_3 : decode cX0_meetBeside 3 = .ok (.iconst 0, 1) := by decide +kernel
theorem dX0_meetBeside_4 : decode cX0_meetBeside 4 = .ok (.istore 6, 2) := by decide +kernel
theorem dX0_meetBeside_6 : decode cX0_meetBeside 6 = .ok (.iload 6, 2) := by decide +kernel
theorem dX0_meetBeside_8 : decode cX0_meetBeside 8 = .ok (.iconst 4, 1) := by decide +kernel
theorem dX0_meetBeside_9 : decode cX0_meetBeside 9 = .ok (.if_icmp .ge 92, 3) := by decide +kernel
theorem dX0_meetBeside_12 : decode cX0_meetBeside 12 = .ok (.iload_n 1, 1) := by decide +kernel
theorem dX0_meetBeside_13 : decode cX0_meetBeside 13 = .ok (.getstatic 63, 3) := by decide +kernel
theorem dX0_meetBeside_16 : decode cX0_meetBeside 16 = .ok (.iload 6, 2) := by decide +kernel
theorem dX0_meetBeside_18 : decode cX0_meetBeside 18 = .ok (.iaload, 1) := by decide +kernel
theorem dX0_meetBeside_19 : decode cX0_meetBeside 19 = .ok (.iadd, 1) := by decide +kernel
theorem dX0_meetBeside_20 : decode cX0_meetBeside 20 = .ok (.istore 7, 2) := by decide +kernel
theorem dX0_meetBeside_22 : decode cX0_meetBeside 22 = .ok (.iload_n 2, 1) := by decide +kernel
theorem dX0_meetBeside_23 : decode cX0_meetBeside 23 = .ok (.getstatic 66, 3) := by decide +kernel
theorem dX0_meetBeside_26 : decode cX0_meetBeside 26 = .ok (.iload 6, 2) := by decide +kernel
theorem dX0_meetBeside_28 : decode cX0_meetBeside 28 = .ok (.iaload, 1) := by decide +kernel
theorem dX0_meetBeside_29 : decode cX0_meetBeside 29 = .ok (.iadd, 1) := by decide +kernel
theorem dX0_meetBeside_30 : decode cX0_meetBeside 30 = .ok (.istore 8, 2) := by decide +kernel
theorem dX0_meetBeside_32 : decode cX0_meetBeside 32 = .ok (.aload 4, 2) := by decide +kernel
theorem dX0_meetBeside_34 : decode cX0_meetBeside 34 = .ok (.iload 7, 2) := by decide +kernel
theorem dX0_meetBeside_36 : decode cX0_meetBeside 36 = .ok (.iload 8, 2) := by decide +kernel
theorem dX0_meetBeside_38 : decode cX0_meetBeside 38 = .ok (.invokevirtual 69, 3) := by decide +kernel
theorem dX0_meetBeside_41 : decode cX0_meetBeside 41 = .ok (.ifCond .eq 14, 3) := by decide +kernel
theorem dX0_meetBeside_44 : decode cX0_meetBeside 44 = .ok (.aload_n 0, 1) := by decide +kernel
theorem dX0_meetBeside_45 : decode cX0_meetBeside 45 = .ok (.iload 7, 2) := by decide +kernel
theorem dX0_meetBeside_47 : decode cX0_meetBeside 47 = .ok (.iload 8, 2) := by decide +kernel
theorem dX0_meetBeside_49 : decode cX0_meetBeside 49 = .ok (.invokevirtual 43, 3) := by decide +kernel
theorem dX0_meetBeside_52 : decode cX0_meetBeside 52 = .ok (.goto 4, 3) := by decide +kernel
theorem dX0_meetBeside_55 : decode cX0_meetBeside 55 = .ok (.iload_n 3, 1) := by decide +kernel
theorem dX0_meetBeside_56 : decode cX0_meetBeside 56 = .ok (.istore 9, 2) := by decide +kernel
theorem dX0_meetBeside_58 : decode cX0_meetBeside 58 = .ok (.iload 9, 2) := by decide +kernel
theorem dX0_meetBeside_60 : decode cX0_meetBeside 60 = .ok (.iload_n 3, 1) := by decide +kernel
theorem dX0_meetBeside_61 : decode cX0_meetBeside 61 = .ok (.if_icmp .eq 34, 3) := by decide +kernel
theorem dX0_meetBeside_64 : decode cX0_meetBeside 64 = .ok (.iload 9, 2) := by decide +kernel
theorem dX0_meetBeside_66 : decode cX0_meetBeside 66 = .ok (.bipush 48, 2) := by decide +kernel
theorem dX0_meetBeside_68 : decode cX0_meetBeside 68 = .ok (.invokestatic 51, 3) := by decide +kernel
theorem dX0_meetBeside_71 : decode cX0_meetBeside 71 = .ok (.ifCond .eq 24, 3) := by decide +kernel
theorem dX0_meetBeside_74 : decode cX0_meetBeside 74 = .ok (.aload_n 0, 1) := by decide +kernel
theorem dX0_meetBeside_75 : decode cX0_meetBeside 75 = .ok (.getfield 24, 3) := by decide +kernel
theorem dX0_meetBeside_78 : decode cX0_meetBeside 78 = .ok (.iload 9, 2) := by decide +kernel
theorem dX0_meetBeside_80 : decode cX0_meetBeside 80 = .ok (.baload, 1) := by decide +kernel
theorem dX0_meetBeside_81 : decode cX0_meetBeside 81 = .ok (.ifCond .ne 14, 3) := by decide +kernel
theorem dX0_meetBeside_84 : decode cX0_meetBeside 84 = .ok (.aload_n 0, 1) := by decide +kernel
theorem dX0_meetBeside_85 : decode cX0_meetBeside 85 = .ok (.getfield 24, 3) := by decide +kernel
theorem dX0_meetBeside_88 : decode cX0_meetBeside 88 = .ok (.iload 9, 2) := by decide +kernel
theorem dX0_meetBeside_90 : decode cX0_meetBeside 90 = .ok (.iconst 1, 1) := by decide +kernel
theorem dX0_meetBeside_91 : decode cX0_meetBeside 91 = .ok (.bastore, 1) := by decide +kernel
theorem dX0_meetBeside_92 : decode cX0_meetBeside 92 = .ok (.iinc 5 1, 3) := by decide +kernel
theorem dX0_meetBeside_95 : decode cX0_meetBeside 95 = .ok (.iinc 6 1, 3) := by decide +kernel
theorem dX0_meetBeside_98 : decode cX0_meetBeside 98 = .ok (.goto (-92), 3) := by decide +kernel
theorem dX0_meetBeside_101 : decode cX0_meetBeside 101 = .ok (.iload 5, 2) := by decide +kernel
theorem dX0_meetBeside_103 : decode cX0_meetBeside 103 = .ok (.ireturn, 1) := by decide +kernel
theorem dX1_init_0 : decode cX1_init 0 = .ok (.aload_n 0, 1) := by decide +kernel
theorem dX1_init_1 : decode cX1_init 1 = .ok (.invokespecial 3, 3) := by decide +kernel
theorem dX1_init_4 : decode cX1_init 4 = .ok (.aload_n 0, 1) := by decide +kernel
theorem dX1_init_5 : decode cX1_init 5 = .ok (.bipush 32, 2) := by decide +kernel
theorem dX1_init_7 : decode cX1_init 7 = .ok (.newarray .int, 2) := by decide +kernel
theorem dX1_init_9 : decode cX1_init 9 = .ok (.putfield 9, 3) := by decide +kernel
theorem dX1_init_12 : decode cX1_init 12 = .ok (.return_, 1) := by decide +kernel
theorem dX1_find_0 : decode cX1_find 0 = .ok (.iconst 0, 1) := by decide +kernel
theorem dX1_find_1 : decode cX1_find 1 = .ok (.istore_n 2, 1) := by decide +kernel
theorem dX1_find_2 : decode cX1_find 2 = .ok (.iload_n 2, 1) := by decide +kernel
theorem dX1_find_3 : decode cX1_find 3 = .ok (.bipush 32, 2) := by decide +kernel
theorem dX1_find_5 : decode cX1_find 5 = .ok (.if_icmp .ge 31, 3) := by decide +kernel
theorem dX1_find_8 : decode cX1_find 8 = .ok (.aload_n 0, 1) := by decide +kernel
theorem dX1_find_9 : decode cX1_find 9 = .ok (.getfield 9, 3) := by decide +kernel
theorem dX1_find_12 : decode cX1_find 12 = .ok (.iload_n 2, 1) := by decide +kernel
theorem dX1_find_13 : decode cX1_find 13 = .ok (.aload_n 1, 1) := by decide +kernel
theorem dX1_find_14 : decode cX1_find 14 = .ok (.getfield 15, 3) := by decide +kernel
theorem dX1_find_17 : decode cX1_find 17 = .ok (.aload_n 1, 1) := by decide +kernel
theorem dX1_find_18 : decode cX1_find 18 = .ok (.getfield 20, 3) := by decide +kernel
theorem dX1_find_21 : decode cX1_find 21 = .ok (.aload_n 1, 1) := by decide +kernel
theorem dX1_find_22 : decode cX1_find 22 = .ok (.getfield 23, 3) := by decide +kernel
theorem dX1_find_25 : decode cX1_find 25 = .ok (.iload_n 2, 1) := by decide +kernel
theorem dX1_find_26 : decode cX1_find 26 = .ok (.invokestatic 26, 3) := by decide +kernel
theorem dX1_find_29 : decode cX1_find 29 = .ok (.iastore, 1) := by decide +kernel
theorem dX1_find_30 : decode cX1_find 30 = .ok (.iinc 2 1, 3) := by decide +kernel
theorem dX1_find_33 : decode cX1_find 33 = .ok (.goto (-31), 3) := by decide +kernel
theorem dX1_find_36 : decode cX1_find 36 = .ok (.return_, 1) := by decide +kernel
theorem dX1_darkOfSet_0 : decode cX1_darkOfSet 0 = .ok (.iload_n 1, 1) := by decide +kernel
theorem dX1_darkOfSet_1 : decode cX1_darkOfSet 1 = .ok (.bipush 32, 2) := by decide +kernel
theorem dX1_darkOfSet_3 : decode cX1_darkOfSet 3 = .ok (.invokestatic 30, 3) := by decide +kernel
theorem dX1_darkOfSet_6 : decode cX1_darkOfSet 6 = .ok (.ifCond .eq 15, 3) := by decide +kernel
theorem dX1_darkOfSet_9 : decode cX1_darkOfSet 9 = .ok (.aload_n 0, 1) := by decide +kernel
theorem dX1_darkOfSet_10 : decode cX1_darkOfSet 10 = .ok (.getfield 9, 3) := by decide +kernel
theorem dX1_darkOfSet_13 : decode cX1_darkOfSet 13 = .ok (.iload_n 1, 1) := by decide +kernel
theorem dX1_darkOfSet_14 : decode cX1_darkOfSet 14 = .ok (.iaload, 1) := by decide +kernel
theorem dX1_darkOfSet_15 : decode cX1_darkOfSet 15 = .ok (.invokestatic 34, 3) := by decide +kernel
theorem dX1_darkOfSet_18 : decode cX1_darkOfSet 18 = .ok (.goto 4, 3) := by decide +kernel
theorem dX1_darkOfSet_21 : decode cX1_darkOfSet 21 = .ok (.iconst 0, 1) := by decide +kernel
theorem dX1_darkOfSet_22 : decode cX1_darkOfSet 22 = .ok (.ireturn, 1) := by decide +kernel
theorem dX1_alikeTo_0 : decode cX1_alikeTo 0 = .ok (.iconst 0, 1) := by decide +kernel
theorem dX1_alikeTo_1 : decode cX1_alikeTo 1 = .ok (.istore_n 2, 1) := by decide +kernel
theorem dX1_alikeTo_2 : decode cX1_alikeTo 2 = .ok (.iconst 0, 1) := by decide +kernel
theorem dX1_alikeTo_3 : decode cX1_alikeTo 3 = .ok (.istore_n 3, 1) := by decide +kernel
theorem dX1_alikeTo_4 : decode cX1_alikeTo 4 = .ok (.iload_n 3, 1) := by decide +kernel
theorem dX1_alikeTo_5 : decode cX1_alikeTo 5 = .ok (.bipush 32, 2) := by decide +kernel
theorem dX1_alikeTo_7 : decode cX1_alikeTo 7 = .ok (.if_icmp .ge 36, 3) := by decide +kernel
theorem dX1_alikeTo_10 : decode cX1_alikeTo 10 = .ok (.iload_n 1, 1) := by decide +kernel
theorem dX1_alikeTo_11 : decode cX1_alikeTo 11 = .ok (.bipush 32, 2) := by decide +kernel
theorem dX1_alikeTo_13 : decode cX1_alikeTo 13 = .ok (.invokestatic 30, 3) := by decide +kernel
theorem dX1_alikeTo_16 : decode cX1_alikeTo 16 = .ok (.ifCond .eq 21, 3) := by decide +kernel
theorem dX1_alikeTo_19 : decode cX1_alikeTo 19 = .ok (.aload_n 0, 1) := by decide +kernel
theorem dX1_alikeTo_20 : decode cX1_alikeTo 20 = .ok (.getfield 9, 3) := by decide +kernel
theorem dX1_alikeTo_23 : decode cX1_alikeTo 23 = .ok (.iload_n 3, 1) := by decide +kernel
theorem dX1_alikeTo_24 : decode cX1_alikeTo 24 = .ok (.iaload, 1) := by decide +kernel
theorem dX1_alikeTo_25 : decode cX1_alikeTo 25 = .ok (.aload_n 0, 1) := by decide +kernel
theorem dX1_alikeTo_26 : decode cX1_alikeTo 26 = .ok (.getfield 9, 3) := by decide +kernel
theorem dX1_alikeTo_29 : decode cX1_alikeTo 29 = .ok (.iload_n 1, 1) := by decide +kernel
theorem dX1_alikeTo_30 : decode cX1_alikeTo 30 = .ok (.iaload, 1) := by decide +kernel
theorem dX1_alikeTo_31 : decode cX1_alikeTo 31 = .ok (.if_icmp .ne 6, 3) := by decide +kernel
theorem dX1_alikeTo_34 : decode cX1_alikeTo 34 = .ok (.iinc 2 1, 3) := by decide +kernel
theorem dX1_alikeTo_37 : decode cX1_alikeTo 37 = .ok (.iinc 3 1, 3) := by decide +kernel
theorem dX1_alikeTo_40 : decode cX1_alikeTo 40 = .ok (.goto (-36), 3) := by decide +kernel
theorem dX1_alikeTo_43 : decode cX1_alikeTo 43 = .ok (.iload_n 2, 1) := by decide +kernel
theorem dX1_alikeTo_44 : decode cX1_alikeTo 44 = .ok (.ireturn, 1) := by decide +kernel
theorem dX1_unlikeOf_0 : decode cX1_unlikeOf 0 = .ok (.iconst 0, 1) := by decide +kernel
theorem dX1_unlikeOf_1 : decode cX1_unlikeOf 1 = .ok (.istore_n 2, 1) := by decide +kernel
theorem dX1_unlikeOf_2 : decode cX1_unlikeOf 2 = .ok (.iconst 0, 1) := by decide +kernel
theorem dX1_unlikeOf_3 : decode cX1_unlikeOf 3 = .ok (.istore_n 3, 1) := by decide +kernel
theorem dX1_unlikeOf_4 : decode cX1_unlikeOf 4 = .ok (.iload_n 3, 1) := by decide +kernel
theorem dX1_unlikeOf_5 : decode cX1_unlikeOf 5 = .ok (.bipush 32, 2) := by decide +kernel
theorem dX1_unlikeOf_7 : decode cX1_unlikeOf 7 = .ok (.if_icmp .ge 29, 3) := by decide +kernel
theorem dX1_unlikeOf_10 : decode cX1_unlikeOf 10 = .ok (.iload_n 1, 1) := by decide +kernel
theorem dX1_unlikeOf_11 : decode cX1_unlikeOf 11 = .ok (.iload_n 3, 1) := by decide +kernel
theorem dX1_unlikeOf_12 : decode cX1_unlikeOf 12 = .ok (.invokestatic 38, 3) := by decide +kernel
theorem dX1_unlikeOf_15 : decode cX1_unlikeOf 15 = .ok (.ifCond .eq 15, 3) := by decide +kernel
theorem dX1_unlikeOf_18 : decode cX1_unlikeOf 18 = .ok (.aload_n 0, 1) := by decide +kernel
theorem dX1_unlikeOf_19 : decode cX1_unlikeOf 19 = .ok (.iload_n 3, 1) := by decide +kernel
theorem dX1_unlikeOf_20 : decode cX1_unlikeOf 20 = .ok (.iload_n 1, 1) := by decide +kernel
theorem dX1_unlikeOf_21 : decode cX1_unlikeOf 21 = .ok (.invokevirtual 41, 3) := by decide +kernel
theorem dX1_unlikeOf_24 : decode cX1_unlikeOf 24 = .ok (.ifCond .ne 6, 3) := by decide +kernel
theorem dX1_unlikeOf_27 : decode cX1_unlikeOf 27 = .ok (.iinc 2 1, 3) := by decide +kernel
theorem dX1_unlikeOf_30 : decode cX1_unlikeOf 30 = .ok (.iinc 3 1, 3) := by decide +kernel
theorem dX1_unlikeOf_33 : decode cX1_unlikeOf 33 = .ok (.goto (-29), 3) := by decide +kernel
theorem dX1_unlikeOf_36 : decode cX1_unlikeOf 36 = .ok (.iload_n 2, 1) := by decide +kernel
theorem dX1_unlikeOf_37 : decode cX1_unlikeOf 37 = .ok (.ireturn, 1) := by decide +kernel
theorem dX1_isDrawnBelow_0 : decode cX1_isDrawnBelow 0 = .ok (.iconst 0, 1) := by decide +kernel
theorem dX1_isDrawnBelow_1 : decode cX1_isDrawnBelow 1 = .ok (.istore_n 3, 1) := by decide +kernel
theorem dX1_isDrawnBelow_2 : decode cX1_isDrawnBelow 2 = .ok (.iload_n 3, 1) := by decide +kernel
theorem dX1_isDrawnBelow_3 : decode cX1_isDrawnBelow 3 = .ok (.iload_n 1, 1) := by decide +kernel
theorem dX1_isDrawnBelow_4 : decode cX1_isDrawnBelow 4 = .ok (.if_icmp .ge 40, 3) := by decide +kernel
theorem dX1_isDrawnBelow_7 : decode cX1_isDrawnBelow 7 = .ok (.iload_n 3, 1) := by decide +kernel
theorem dX1_isDrawnBelow_8 : decode cX1_isDrawnBelow 8 = .ok (.bipush 32, 2) := by decide +kernel
theorem dX1_isDrawnBelow_10 : decode cX1_isDrawnBelow 10 = .ok (.if_icmp .ge 34, 3) := by decide +kernel
theorem dX1_isDrawnBelow_13 : decode cX1_isDrawnBelow 13 = .ok (.iload_n 2, 1) := by decide +kernel
theorem dX1_isDrawnBelow_14 : decode cX1_isDrawnBelow 14 = .ok (.iload_n 3, 1) := by decide +kernel
theorem dX1_isDrawnBelow_15 : decode cX1_isDrawnBelow 15 = .ok (.invokestatic 38, 3) := by decide +kernel
theorem dX1_isDrawnBelow_18 : decode cX1_isDrawnBelow 18 = .ok (.ifCond .eq 20, 3) := by decide +kernel
theorem dX1_isDrawnBelow_21 : decode cX1_isDrawnBelow 21 = .ok (.aload_n 0, 1) := by decide +kernel
theorem dX1_isDrawnBelow_22 : decode cX1_isDrawnBelow 22 = .ok (.getfield 9, 3) := by decide +kernel
theorem dX1_isDrawnBelow_25 : decode cX1_isDrawnBelow 25 = .ok (.iload_n 3, 1) := by decide +kernel
theorem dX1_isDrawnBelow_26 : decode cX1_isDrawnBelow 26 = .ok (.iaload, 1) := by decide +kernel
theorem dX1_isDrawnBelow_27 : decode cX1_isDrawnBelow 27 = .ok (.aload_n 0, 1) := by decide +kernel
theorem dX1_isDrawnBelow_28 : decode cX1_isDrawnBelow 28 = .ok (.getfield 9, 3) := by decide +kernel
theorem dX1_isDrawnBelow_31 : decode cX1_isDrawnBelow 31 = .ok (.iload_n 1, 1) := by decide +kernel
theorem dX1_isDrawnBelow_32 : decode cX1_isDrawnBelow 32 = .ok (.iaload, 1) := by decide +kernel
theorem dX1_isDrawnBelow_33 : decode cX1_isDrawnBelow 33 = .ok (.if_icmp .ne 5, 3) := by decide +kernel
theorem dX1_isDrawnBelow_36 : decode cX1_isDrawnBelow 36 = .ok (.iconst 1, 1) := by decide +kernel
theorem dX1_isDrawnBelow_37 : decode cX1_isDrawnBelow 37 = .ok (.ireturn, 1) := by decide +kernel
theorem dX1_isDrawnBelow_38 : decode cX1_isDrawnBelow 38 = .ok (.iinc 3 1, 3) := by decide +kernel
theorem dX1_isDrawnBelow_41 : decode cX1_isDrawnBelow 41 = .ok (.goto (-39), 3) := by decide +kernel
theorem dX1_isDrawnBelow_44 : decode cX1_isDrawnBelow 44 = .ok (.iconst 0, 1) := by decide +kernel
theorem dX1_isDrawnBelow_45 : decode cX1_isDrawnBelow 45 = .ok (.ireturn, 1) := by decide +kernel
theorem dX1_fewestFor_0 : decode cX1_fewestFor 0 = .ok (.bipush 31, 2) := by decide +kernel
theorem dX1_fewestFor_2 : decode cX1_fewestFor 2 = .ok (.istore_n 2, 1) := by decide +kernel
theorem dX1_fewestFor_3 : decode cX1_fewestFor 3 = .ok (.iconst 0, 1) := by decide +kernel
theorem dX1_fewestFor_4 : decode cX1_fewestFor 4 = .ok (.istore_n 3, 1) := by decide +kernel
theorem dX1_fewestFor_5 : decode cX1_fewestFor 5 = .ok (.iload_n 3, 1) := by decide +kernel
theorem dX1_fewestFor_6 : decode cX1_fewestFor 6 = .ok (.bipush 32, 2) := by decide +kernel
theorem dX1_fewestFor_8 : decode cX1_fewestFor 8 = .ok (.if_icmp .ge 31, 3) := by decide +kernel
theorem dX1_fewestFor_11 : decode cX1_fewestFor 11 = .ok (.iload_n 3, 1) := by decide +kernel
theorem dX1_fewestFor_12 : decode cX1_fewestFor 12 = .ok (.invokestatic 44, 3) := by decide +kernel
theorem dX1_fewestFor_15 : decode cX1_fewestFor 15 = .ok (.iload_n 2, 1) := by decide +kernel
theorem dX1_fewestFor_16 : decode cX1_fewestFor 16 = .ok (.invokestatic 44, 3) := by decide +kernel
theorem dX1_fewestFor_19 : decode cX1_fewestFor 19 = .ok (.if_icmp .ge 14, 3) := by decide +kernel
theorem dX1_fewestFor_22 : decode cX1_fewestFor 22 = .ok (.aload_n 0, 1) := by decide +kernel
theorem dX1_fewestFor_23 : decode cX1_fewestFor 23 = .ok (.iload_n 3, 1) := by decide +kernel
theorem dX1_fewestFor_24 : decode cX1_fewestFor 24 = .ok (.iload_n 1, 1) := by decide +kernel
theorem dX1_fewestFor_25 : decode cX1_fewestFor 25 = .ok (.invokevirtual 49, 3) := by decide +kernel
theorem dX1_fewestFor_28 : decode cX1_fewestFor 28 = .ok (.ifCond .eq 5, 3) := by decide +kernel
theorem dX1_fewestFor_31 : decode cX1_fewestFor 31 = .ok (.iload_n 3, 1) := by decide +kernel
theorem dX1_fewestFor_32 : decode cX1_fewestFor 32 = .ok (.istore_n 2, 1) := by decide +kernel
theorem dX1_fewestFor_33 : decode cX1_fewestFor 33 = .ok (.iinc 3 1, 3) := by decide +kernel
theorem dX1_fewestFor_36 : decode cX1_fewestFor 36 = .ok (.goto (-31), 3) := by decide +kernel
theorem dX1_fewestFor_39 : decode cX1_fewestFor 39 = .ok (.iload_n 2, 1) := by decide +kernel
theorem dX1_fewestFor_40 : decode cX1_fewestFor 40 = .ok (.ireturn, 1) := by decide +kernel
theorem dX1_canPrintAll_0 : decode cX1_canPrintAll 0 = .ok (.iconst 0, 1) := by decide +kernel
theorem dX1_canPrintAll_1 : decode cX1_canPrintAll 1 = .ok (.istore_n 3, 1) := by decide +kernel
theorem dX1_canPrintAll_2 : decode cX1_canPrintAll 2 = .ok (.iload_n 3, 1) := by decide +kernel
theorem dX1_canPrintAll_3 : decode cX1_canPrintAll 3 = .ok (.bipush 32, 2) := by decide +kernel
theorem dX1_canPrintAll_5 : decode cX1_canPrintAll 5 = .ok (.if_icmp .ge 33, 3) := by decide +kernel
theorem dX1_canPrintAll_8 : decode cX1_canPrintAll 8 = .ok (.iload_n 2, 1) := by decide +kernel
theorem dX1_canPrintAll_9 : decode cX1_canPrintAll 9 = .ok (.iload_n 3, 1) := by decide +kernel
theorem dX1_canPrintAll_10 : decode cX1_canPrintAll 10 = .ok (.invokestatic 38, 3) := by decide +kernel
theorem dX1_canPrintAll_13 : decode cX1_canPrintAll 13 = .ok (.ifCond .eq 19, 3) := by decide +kernel
theorem dX1_canPrintAll_16 : decode cX1_canPrintAll 16 = .ok (.aload_n 0, 1) := by decide +kernel
theorem dX1_canPrintAll_17 : decode cX1_canPrintAll 17 = .ok (.iload_n 1, 1) := by decide +kernel
theorem dX1_canPrintAll_18 : decode cX1_canPrintAll 18 = .ok (.aload_n 0, 1) := by decide +kernel
theorem dX1_canPrintAll_19 : decode cX1_canPrintAll 19 = .ok (.getfield 9, 3) := by decide +kernel
theorem dX1_canPrintAll_22 : decode cX1_canPrintAll 22 = .ok (.iload_n 3, 1) := by decide +kernel
theorem dX1_canPrintAll_23 : decode cX1_canPrintAll 23 = .ok (.iaload, 1) := by decide +kernel
theorem dX1_canPrintAll_24 : decode cX1_canPrintAll 24 = .ok (.invokevirtual 52, 3) := by decide +kernel
theorem dX1_canPrintAll_27 : decode cX1_canPrintAll 27 = .ok (.ifCond .ne 5, 3) := by decide +kernel
theorem dX1_canPrintAll_30 : decode cX1_canPrintAll 30 = .ok (.iconst 0, 1) := by decide +kernel
theorem dX1_canPrintAll_31 : decode cX1_canPrintAll 31 = .ok (.ireturn, 1) := by decide +kernel
theorem dX1_canPrintAll_32 : decode cX1_canPrintAll 32 = .ok (.iinc 3 1, 3) := by decide +kernel
theorem dX1_canPrintAll_35 : decode cX1_canPrintAll 35 = .ok (.goto (-33), 3) := by decide +kernel
theorem dX1_canPrintAll_38 : decode cX1_canPrintAll 38 = .ok (.iconst 1, 1) := by decide +kernel
theorem dX1_canPrintAll_39 : decode cX1_canPrintAll 39 = .ok (.ireturn, 1) := by decide +kernel
theorem dX1_canPrint_0 : decode cX1_canPrint 0 = .ok (.iconst 0, 1) := by decide +kernel
theorem dX1_canPrint_1 : decode cX1_canPrint 1 = .ok (.istore_n 3, 1) := by decide +kernel
theorem dX1_canPrint_2 : decode cX1_canPrint 2 = .ok (.iload_n 3, 1) := by decide +kernel
theorem dX1_canPrint_3 : decode cX1_canPrint 3 = .ok (.bipush 32, 2) := by decide +kernel
theorem dX1_canPrint_5 : decode cX1_canPrint 5 = .ok (.if_icmp .ge 29, 3) := by decide +kernel
theorem dX1_canPrint_8 : decode cX1_canPrint 8 = .ok (.iload_n 3, 1) := by decide +kernel
theorem dX1_canPrint_9 : decode cX1_canPrint 9 = .ok (.iload_n 1, 1) := by decide +kernel
theorem dX1_canPrint_10 : decode cX1_canPrint 10 = .ok (.iconst (-1), 1) := by decide +kernel
theorem dX1_canPrint_11 : decode cX1_canPrint 11 = .ok (.ixor, 1) := by decide +kernel
theorem dX1_canPrint_12 : decode cX1_canPrint 12 = .ok (.iand, 1) := by decide +kernel
theorem dX1_canPrint_13 : decode cX1_canPrint 13 = .ok (.ifCond .ne 15, 3) := by decide +kernel
theorem dX1_canPrint_16 : decode cX1_canPrint 16 = .ok (.aload_n 0, 1) := by decide +kernel
theorem dX1_canPrint_17 : decode cX1_canPrint 17 = .ok (.getfield 9, 3) := by decide +kernel
theorem dX1_canPrint_20 : decode cX1_canPrint 20 = .ok (.iload_n 3, 1) := by decide +kernel
theorem dX1_canPrint_21 : decode cX1_canPrint 21 = .ok (.iaload, 1) := by decide +kernel
theorem dX1_canPrint_22 : decode cX1_canPrint 22 = .ok (.iload_n 2, 1) := by decide +kernel
theorem dX1_canPrint_23 : decode cX1_canPrint 23 = .ok (.if_icmp .ne 5, 3) := by decide +kernel
theorem dX1_canPrint_26 : decode cX1_canPrint 26 = .ok (.iconst 1, 1) := by decide +kernel
theorem dX1_canPrint_27 : decode cX1_canPrint 27 = .ok (.ireturn, 1) := by decide +kernel
theorem dX1_canPrint_28 : decode cX1_canPrint 28 = .ok (.iinc 3 1, 3) := by decide +kernel
theorem dX1_canPrint_31 : decode cX1_canPrint 31 = .ok (.goto (-29), 3) := by decide +kernel
theorem dX1_canPrint_34 : decode cX1_canPrint 34 = .ok (.iconst 0, 1) := by decide +kernel
theorem dX1_canPrint_35 : decode cX1_canPrint 35 = .ok (.ireturn, 1) := by decide +kernel
theorem dX2_init_0 : decode cX2_init 0 = .ok (.aload_n 0, 1) := by decide +kernel
theorem dX2_init_1 : decode cX2_init 1 = .ok (.invokespecial 3, 3) := by decide +kernel
theorem dX2_init_4 : decode cX2_init 4 = .ok (.aload_n 0, 1) := by decide +kernel
theorem dX2_init_5 : decode cX2_init 5 = .ok (.bipush 6, 2) := by decide +kernel
theorem dX2_init_7 : decode cX2_init 7 = .ok (.anewarray 9, 3) := by decide +kernel
theorem dX2_init_10 : decode cX2_init 10 = .ok (.putfield 11, 3) := by decide +kernel
theorem dX2_init_13 : decode cX2_init 13 = .ok (.aload_n 0, 1) := by decide +kernel
theorem dX2_init_14 : decode cX2_init 14 = .ok (.iconst 0, 1) := by decide +kernel
theorem dX2_init_15 : decode cX2_init 15 = .ok (.putfield 17, 3) := by decide +kernel
theorem dX2_init_18 : decode cX2_init 18 = .ok (.iconst 0, 1) := by decide +kernel
theorem dX2_init_19 : decode cX2_init 19 = .ok (.istore_n 1, 1) := by decide +kernel
theorem dX2_init_20 : decode cX2_init 20 = .ok (.iload_n 1, 1) := by decide +kernel
theorem dX2_init_21 : decode cX2_init 21 = .ok (.bipush 6, 2) := by decide +kernel
theorem dX2_init_23 : decode cX2_init 23 = .ok (.if_icmp .ge 22, 3) := by decide +kernel
theorem dX2_init_26 : decode cX2_init 26 = .ok (.aload_n 0, 1) := by decide +kernel
theorem dX2_init_27 : decode cX2_init 27 = .ok (.getfield 11, 3) := by decide +kernel
theorem dX2_init_30 : decode cX2_init 30 = .ok (.iload_n 1, 1) := by decide +kernel
theorem dX2_init_31 : decode cX2_init 31 = .ok (.new 9, 3) := by decide +kernel
theorem dX2_init_34 : decode cX2_init 34 = .ok (.dup, 1) := by decide +kernel
theorem dX2_init_35 : decode cX2_init 35 = .ok (.invokespecial 21, 3) := by decide +kernel
theorem dX2_init_38 : decode cX2_init 38 = .ok (.aastore, 1) := by decide +kernel
theorem dX2_init_39 : decode cX2_init 39 = .ok (.iinc 1 1, 3) := by decide +kernel
theorem dX2_init_42 : decode cX2_init 42 = .ok (.goto (-22), 3) := by decide +kernel
theorem dX2_init_45 : decode cX2_init 45 = .ok (.return_, 1) := by decide +kernel
theorem dX2_keep_0 : decode cX2_keep 0 = .ok (.aload_n 0, 1) := by decide +kernel
theorem dX2_keep_1 : decode cX2_keep 1 = .ok (.getfield 17, 3) := by decide +kernel
theorem dX2_keep_4 : decode cX2_keep 4 = .ok (.bipush 6, 2) := by decide +kernel
theorem dX2_keep_6 : decode cX2_keep 6 = .ok (.if_icmp .lt 7, 3) := by decide +kernel
theorem dX2_keep_9 : decode cX2_keep 9 = .ok (.aload_n 0, 1) := by decide +kernel
theorem dX2_keep_10 : decode cX2_keep 10 = .ok (.invokevirtual 22, 3) := by decide +kernel
theorem dX2_keep_13 : decode cX2_keep 13 = .ok (.aload_n 0, 1) := by decide +kernel
theorem dX2_keep_14 : decode cX2_keep 14 = .ok (.getfield 17, 3) := by decide +kernel
theorem dX2_keep_17 : decode cX2_keep 17 = .ok (.bipush 6, 2) := by decide +kernel
theorem dX2_keep_19 : decode cX2_keep 19 = .ok (.invokestatic 25, 3) := by decide +kernel
theorem dX2_keep_22 : decode cX2_keep 22 = .ok (.ifCond .eq 26, 3) := by decide +kernel
theorem dX2_keep_25 : decode cX2_keep 25 = .ok (.aload_n 0, 1) := by decide +kernel
theorem dX2_keep_26 : decode cX2_keep 26 = .ok (.getfield 11, 3) := by decide +kernel
theorem dX2_keep_29 : decode cX2_keep 29 = .ok (.aload_n 0, 1) := by decide +kernel
theorem dX2_keep_30 : decode cX2_keep 30 = .ok (.getfield 17, 3) := by decide +kernel
theorem dX2_keep_33 : decode cX2_keep 33 = .ok (.aaload, 1) := by decide +kernel
theorem dX2_keep_34 : decode cX2_keep 34 = .ok (.aload_n 1, 1) := by decide +kernel
theorem dX2_keep_35 : decode cX2_keep 35 = .ok (.invokevirtual 29, 3) := by decide +kernel
theorem dX2_keep_38 : decode cX2_keep 38 = .ok (.aload_n 0, 1) := by decide +kernel
theorem dX2_keep_39 : decode cX2_keep 39 = .ok (.dup, 1) := by decide +kernel
theorem dX2_keep_40 : decode cX2_keep 40 = .ok (.getfield 17, 3) := by decide +kernel
theorem dX2_keep_43 : decode cX2_keep 43 = .ok (.iconst 1, 1) := by decide +kernel
theorem dX2_keep_44 : decode cX2_keep 44 = .ok (.iadd, 1) := by decide +kernel
theorem dX2_keep_45 : decode cX2_keep 45 = .ok (.putfield 17, 3) := by decide +kernel
theorem dX2_keep_48 : decode cX2_keep 48 = .ok (.return_, 1) := by decide +kernel
theorem dX2_loseOldest_0 : decode cX2_loseOldest 0 = .ok (.aload_n 0, 1) := by decide +kernel
theorem dX2_loseOldest_1 : decode cX2_loseOldest 1 = .ok (.getfield 11, 3) := by decide +kernel
theorem dX2_loseOldest_4 : decode cX2_loseOldest 4 = .ok (.iconst 0, 1) := by decide +kernel
theorem dX2_loseOldest_5 : decode cX2_loseOldest 5 = .ok (.aaload, 1) := by decide +kernel
theorem dX2_loseOldest_6 : decode cX2_loseOldest 6 = .ok (.astore_n 1, 1) := by decide +kernel
theorem dX2_loseOldest_7 : decode cX2_loseOldest 7 = .ok (.iconst 1, 1) := by decide +kernel
theorem dX2_loseOldest_8 : decode cX2_loseOldest 8 = .ok (.istore_n 2, 1) := by decide +kernel
theorem dX2_loseOldest_9 : decode cX2_loseOldest 9 = .ok (.iload_n 2, 1) := by decide +kernel
theorem dX2_loseOldest_10 : decode cX2_loseOldest 10 = .ok (.bipush 6, 2) := by decide +kernel
theorem dX2_loseOldest_12 : decode cX2_loseOldest 12 = .ok (.if_icmp .ge 23, 3) := by decide +kernel
theorem dX2_loseOldest_15 : decode cX2_loseOldest 15 = .ok (.aload_n 0, 1) := by decide +kernel
theorem dX2_loseOldest_16 : decode cX2_loseOldest 16 = .ok (.getfield 11, 3) := by decide +kernel
theorem dX2_loseOldest_19 : decode cX2_loseOldest 19 = .ok (.iload_n 2, 1) := by decide +kernel
theorem dX2_loseOldest_20 : decode cX2_loseOldest 20 = .ok (.iconst 1, 1) := by decide +kernel
theorem dX2_loseOldest_21 : decode cX2_loseOldest 21 = .ok (.isub, 1) := by decide +kernel
theorem dX2_loseOldest_22 : decode cX2_loseOldest 22 = .ok (.aload_n 0, 1) := by decide +kernel
theorem dX2_loseOldest_23 : decode cX2_loseOldest 23 = .ok (.getfield 11, 3) := by decide +kernel
theorem dX2_loseOldest_26 : decode cX2_loseOldest 26 = .ok (.iload_n 2, 1) := by decide +kernel
theorem dX2_loseOldest_27 : decode cX2_loseOldest 27 = .ok (.aaload, 1) := by decide +kernel
theorem dX2_loseOldest_28 : decode cX2_loseOldest 28 = .ok (.aastore, 1) := by decide +kernel
theorem dX2_loseOldest_29 : decode cX2_loseOldest 29 = .ok (.iinc 2 1, 3) := by decide +kernel
theorem dX2_loseOldest_32 : decode cX2_loseOldest 32 = .ok (.goto (-23), 3) := by decide +kernel
theorem dX2_loseOldest_35 : decode cX2_loseOldest 35 = .ok (.aload_n 0, 1) := by decide +kernel
theorem dX2_loseOldest_36 : decode cX2_loseOldest 36 = .ok (.getfield 11, 3) := by decide +kernel
theorem dX2_loseOldest_39 : decode cX2_loseOldest 39 = .ok (.iconst 5, 1) := by decide +kernel
theorem dX2_loseOldest_40 : decode cX2_loseOldest 40 = .ok (.aload_n 1, 1) := by decide +kernel
theorem dX2_loseOldest_41 : decode cX2_loseOldest 41 = .ok (.aastore, 1) := by decide +kernel
theorem dX2_loseOldest_42 : decode cX2_loseOldest 42 = .ok (.aload_n 0, 1) := by decide +kernel
theorem dX2_loseOldest_43 : decode cX2_loseOldest 43 = .ok (.iconst 5, 1) := by decide +kernel
theorem dX2_loseOldest_44 : decode cX2_loseOldest 44 = .ok (.putfield 17, 3) := by decide +kernel
theorem dX2_loseOldest_47 : decode cX2_loseOldest 47 = .ok (.return_, 1) := by decide +kernel
theorem dX2_bring_0 : decode cX2_bring 0 = .ok (.aload_n 0, 1) := by decide +kernel
theorem dX2_bring_1 : decode cX2_bring 1 = .ok (.getfield 17, 3) := by decide +kernel
theorem dX2_bring_4 : decode cX2_bring 4 = .ok (.iconst 1, 1) := by decide +kernel
theorem dX2_bring_5 : decode cX2_bring 5 = .ok (.if_icmp .lt 12, 3) := by decide +kernel
theorem dX2_bring_8 : decode cX2_bring 8 = .ok (.aload_n 0, 1) := by decide +kernel
theorem dX2_bring_9 : decode cX2_bring 9 = .ok (.getfield 17, 3) := by decide +kernel
theorem dX2_bring_12 : decode cX2_bring 12 = .ok (.bipush 6, 2) := by decide +kernel
theorem dX2_bring_14 : decode cX2_bring 14 = .ok (.if_icmp .le 5, 3) := by decide +kernel
theorem dX2_bring_17 : decode cX2_bring 17 = .ok (.iconst 0, 1) := by decide +kernel
theorem dX2_bring_18 : decode cX2_bring 18 = .ok (.ireturn, 1) := by decide +kernel
theorem dX2_bring_19 : decode cX2_bring 19 = .ok (.aload_n 0, 1) := by decide +kernel
theorem dX2_bring_20 : decode cX2_bring 20 = .ok (.dup, 1) := by decide +kernel
theorem dX2_bring_21 : decode cX2_bring 21 = .ok (.getfield 17, 3) := by decide +kernel
theorem dX2_bring_24 : decode cX2_bring 24 = .ok (.iconst 1, 1) := by decide +kernel
theorem dX2_bring_25 : decode cX2_bring 25 = .ok (.isub, 1) := by decide +kernel
theorem dX2_bring_26 : decode cX2_bring 26 = .ok (.putfield 17, 3) := by decide +kernel
theorem dX2_bring_29 : decode cX2_bring 29 = .ok (.aload_n 1, 1) := by decide +kernel
theorem dX2_bring_30 : decode cX2_bring 30 = .ok (.aload_n 0, 1) := by decide +kernel
theorem dX2_bring_31 : decode cX2_bring 31 = .ok (.getfield 11, 3) := by decide +kernel
theorem dX2_bring_34 : decode cX2_bring 34 = .ok (.aload_n 0, 1) := by decide +kernel
theorem dX2_bring_35 : decode cX2_bring 35 = .ok (.getfield 17, 3) := by decide +kernel
theorem dX2_bring_38 : decode cX2_bring 38 = .ok (.aaload, 1) := by decide +kernel
theorem dX2_bring_39 : decode cX2_bring 39 = .ok (.invokevirtual 29, 3) := by decide +kernel
theorem dX2_bring_42 : decode cX2_bring 42 = .ok (.iconst 1, 1) := by decide +kernel
theorem dX2_bring_43 : decode cX2_bring 43 = .ok (.ireturn, 1) := by decide +kernel
theorem dX2_become_0 : decode cX2_become 0 = .ok (.aload_n 0, 1) := by decide +kernel
theorem dX2_become_1 : decode cX2_become 1 = .ok (.aload_n 1, 1) := by decide +kernel
theorem dX2_become_2 : decode cX2_become 2 = .ok (.getfield 17, 3) := by decide +kernel
theorem dX2_become_5 : decode cX2_become 5 = .ok (.putfield 17, 3) := by decide +kernel
theorem dX2_become_8 : decode cX2_become 8 = .ok (.iconst 0, 1) := by decide +kernel
theorem dX2_become_9 : decode cX2_become 9 = .ok (.istore_n 2, 1) := by decide +kernel
theorem dX2_become_10 : decode cX2_become 10 = .ok (.iload_n 2, 1) := by decide +kernel
theorem dX2_become_11 : decode cX2_become 11 = .ok (.aload_n 0, 1) := by decide +kernel
theorem dX2_become_12 : decode cX2_become 12 = .ok (.getfield 17, 3) := by decide +kernel
theorem dX2_become_15 : decode cX2_become 15 = .ok (.if_icmp .ge 30, 3) := by decide +kernel
theorem dX2_become_18 : decode cX2_become 18 = .ok (.iload_n 2, 1) := by decide +kernel
theorem dX2_become_19 : decode cX2_become 19 = .ok (.bipush 6, 2) := by decide +kernel
theorem dX2_become_21 : decode cX2_become 21 = .ok (.if_icmp .ge 24, 3) := by decide +kernel
theorem dX2_become_24 : decode cX2_become 24 = .ok (.aload_n 0, 1) := by decide +kernel
theorem dX2_become_25 : decode cX2_become 25 = .ok (.getfield 11, 3) := by decide +kernel
theorem dX2_become_28 : decode cX2_become 28 = .ok (.iload_n 2, 1) := by decide +kernel
theorem dX2_become_29 : decode cX2_become 29 = .ok (.aaload, 1) := by decide +kernel
theorem dX2_become_30 : decode cX2_become 30 = .ok (.aload_n 1, 1) := by decide +kernel
theorem dX2_become_31 : decode cX2_become 31 = .ok (.getfield 11, 3) := by decide +kernel
theorem dX2_become_34 : decode cX2_become 34 = .ok (.iload_n 2, 1) := by decide +kernel
theorem dX2_become_35 : decode cX2_become 35 = .ok (.aaload, 1) := by decide +kernel
theorem dX2_become_36 : decode cX2_become 36 = .ok (.invokevirtual 29, 3) := by decide +kernel
theorem dX2_become_39 : decode cX2_become 39 = .ok (.iinc 2 1, 3) := by decide +kernel
theorem dX2_become_42 : decode cX2_become 42 = .ok (.goto (-32), 3) := by decide +kernel
theorem dX2_become_45 : decode cX2_become 45 = .ok (.return_, 1) := by decide +kernel
theorem dX3_init_0 : decode cX3_init 0 = .ok (.aload_n 0, 1) := by decide +kernel
theorem dX3_init_1 : decode cX3_init 1 = .ok (.invokespecial 3, 3) := by decide +kernel
theorem dX3_init_4 : decode cX3_init 4 = .ok (.aload_n 0, 1) := by decide +kernel
theorem dX3_init_5 : decode cX3_init 5 = .ok (.bipush 24, 2) := by decide +kernel
theorem dX3_init_7 : decode cX3_init 7 = .ok (.newarray .long, 2) := by decide +kernel
theorem dX3_init_9 : decode cX3_init 9 = .ok (.putfield 9, 3) := by decide +kernel
theorem dX3_init_12 : decode cX3_init 12 = .ok (.aload_n 0, 1) := by decide +kernel
theorem dX3_init_13 : decode cX3_init 13 = .ok (.iconst 0, 1) := by decide +kernel
theorem dX3_init_14 : decode cX3_init 14 = .ok (.putfield 15, 3) := by decide +kernel
theorem dX3_init_17 : decode cX3_init 17 = .ok (.aload_n 0, 1) := by decide +kernel
theorem dX3_init_18 : decode cX3_init 18 = .ok (.iconst 0, 1) := by decide +kernel
theorem dX3_init_19 : decode cX3_init 19 = .ok (.putfield 19, 3) := by decide +kernel
theorem dX3_init_22 : decode cX3_init 22 = .ok (.aload_n 0, 1) := by decide +kernel
theorem dX3_init_23 : decode cX3_init 23 = .ok (.iconst 0, 1) := by decide +kernel
theorem dX3_init_24 : decode cX3_init 24 = .ok (.putfield 23, 3) := by decide +kernel
theorem dX3_init_27 : decode cX3_init 27 = .ok (.return_, 1) := by decide +kernel
theorem dX3_begin_0 : decode cX3_begin 0 = .ok (.aload_n 0, 1) := by decide +kernel
theorem dX3_begin_1 : decode cX3_begin 1 = .ok (.iconst 1, 1) := by decide +kernel
theorem dX3_begin_2 : decode cX3_begin 2 = .ok (.putfield 15, 3) := by decide +kernel
theorem dX3_begin_5 : decode cX3_begin 5 = .ok (.aload_n 0, 1) := by decide +kernel
theorem dX3_begin_6 : decode cX3_begin 6 = .ok (.iload_n 1, 1) := by decide +kernel
theorem dX3_begin_7 : decode cX3_begin 7 = .ok (.putfield 19, 3) := by decide +kernel
theorem dX3_begin_10 : decode cX3_begin 10 = .ok (.aload_n 0, 1) := by decide +kernel
theorem dX3_begin_11 : decode cX3_begin 11 = .ok (.iload_n 2, 1) := by decide +kernel
theorem dX3_begin_12 : decode cX3_begin 12 = .ok (.putfield 23, 3) := by decide +kernel
theorem dX3_begin_15 : decode cX3_begin 15 = .ok (.iconst 0, 1) := by decide +kernel
theorem dX3_begin_16 : decode cX3_begin 16 = .ok (.istore_n 3, 1) := by decide +kernel
theorem dX3_begin_17 : decode cX3_begin 17 = .ok (.iload_n 3, 1) := by decide +kernel
theorem dX3_begin_18 : decode cX3_begin 18 = .ok (.bipush 24, 2) := by decide +kernel
theorem dX3_begin_20 : decode cX3_begin 20 = .ok (.if_icmp .ge 16, 3) := by decide +kernel
theorem dX3_begin_23 : decode cX3_begin 23 = .ok (.aload_n 0, 1) := by decide +kernel
theorem dX3_begin_24 : decode cX3_begin 24 = .ok (.getfield 9, 3) := by decide +kernel
theorem dX3_begin_27 : decode cX3_begin 27 = .ok (.iload_n 3, 1) := by decide +kernel
theorem dX3_begin_28 : decode cX3_begin 28 = .ok (.lconst 0, 1) := by decide +kernel
theorem dX3_begin_29 : decode cX3_begin 29 = .ok (.lastore, 1) := by decide +kernel
theorem dX3_begin_30 : decode cX3_begin 30 = .ok (.iinc 3 1, 3) := by decide +kernel
theorem dX3_begin_33 : decode cX3_begin 33 = .ok (.goto (-16), 3) := by decide +kernel
theorem dX3_begin_36 : decode cX3_begin 36 = .ok (.return_, 1) := by decide +kernel
theorem dX3_hasItems_0 : decode cX3_hasItems 0 = .ok (.iload_n 1, 1) := by decide +kernel
theorem dX3_hasItems_1 : decode cX3_hasItems 1 = .ok (.ifCond .lt 29, 3) := by decide +kernel
theorem dX3_hasItems_4 : decode cX3_hasItems 4 = .ok (.iload_n 1, 1) := by decide +kernel
theorem dX3_hasItems_5 : decode cX3_hasItems 5 = .ok (.aload_n 0, 1) := by decide +kernel
theorem dX3_hasItems_6 : decode cX3_hasItems 6 = .ok (.getfield 23, 3) := by decide +kernel
theorem dX3_hasItems_9 : decode cX3_hasItems 9 = .ok (.if_icmp .gt 21, 3) := by decide +kernel
theorem dX3_hasItems_12 : decode cX3_hasItems 12 = .ok (.iload_n 2, 1) := by decide +kernel
theorem dX3_hasItems_13 : decode cX3_hasItems 13 = .ok (.ifCond .lt 17, 3) := by decide +kernel
theorem dX3_hasItems_16 : decode cX3_hasItems 16 = .ok (.iload_n 2, 1) := by decide +kernel
theorem dX3_hasItems_17 : decode cX3_hasItems 17 = .ok (.aload_n 0, 1) := by decide +kernel
theorem dX3_hasItems_18 : decode cX3_hasItems 18 = .ok (.getfield 23, 3) := by decide +kernel
theorem dX3_hasItems_21 : decode cX3_hasItems 21 = .ok (.iload_n 1, 1) := by decide +kernel
theorem dX3_hasItems_22 : decode cX3_hasItems 22 = .ok (.isub, 1) := by decide +kernel
theorem dX3_hasItems_23 : decode cX3_hasItems 23 = .ok (.if_icmp .gt 7, 3) := by decide +kernel
theorem dX3_hasItems_26 : decode cX3_hasItems 26 = .ok (.iconst 1, 1) := by decide +kernel
theorem dX3_hasItems_27 : decode cX3_hasItems 27 = .ok (.goto 4, 3) := by decide +kernel
theorem dX3_hasItems_30 : decode cX3_hasItems 30 = .ok (.iconst 0, 1) := by decide +kernel
theorem dX3_hasItems_31 : decode cX3_hasItems 31 = .ok (.ireturn, 1) := by decide +kernel
theorem dX3_whyNot_0 : decode cX3_whyNot 0 = .ok (.aload_n 0, 1) := by decide +kernel
theorem dX3_whyNot_1 : decode cX3_whyNot 1 = .ok (.getfield 15, 3) := by decide +kernel
theorem dX3_whyNot_4 : decode cX3_whyNot 4 = .ok (.ifCond .ne 6, 3) := by decide +kernel
theorem dX3_whyNot_7 : decode cX3_whyNot 7 = .ok (.bipush (-11), 2) := by decide +kernel
theorem dX3_whyNot_9 : decode cX3_whyNot 9 = .ok (.ireturn, 1) := by decide +kernel
theorem dX3_whyNot_10 : decode cX3_whyNot 10 = .ok (.aload_n 0, 1) := by decide +kernel
theorem dX3_whyNot_11 : decode cX3_whyNot 11 = .ok (.getfield 19, 3) := by decide +kernel
theorem dX3_whyNot_14 : decode cX3_whyNot 14 = .ok (.iload_n 1, 1) := by decide +kernel
theorem dX3_whyNot_15 : decode cX3_whyNot 15 = .ok (.if_icmp .eq 6, 3) := by decide +kernel
theorem dX3_whyNot_18 : decode cX3_whyNot 18 = .ok (.bipush (-12), 2) := by decide +kernel
theorem dX3_whyNot_20 : decode cX3_whyNot 20 = .ok (.ireturn, 1) := by decide +kernel
theorem dX3_whyNot_21 : decode cX3_whyNot 21 = .ok (.aload_n 0, 1) := by decide +kernel
theorem dX3_whyNot_22 : decode cX3_whyNot 22 = .ok (.iload_n 2, 1) := by decide +kernel
theorem dX3_whyNot_23 : decode cX3_whyNot 23 = .ok (.iload_n 3, 1) := by decide +kernel
theorem dX3_whyNot_24 : decode cX3_whyNot 24 = .ok (.invokevirtual 26, 3) := by decide +kernel
theorem dX3_whyNot_27 : decode cX3_whyNot 27 = .ok (.ifCond .eq 7, 3) := by decide +kernel
theorem dX3_whyNot_30 : decode cX3_whyNot 30 = .ok (.iconst 0, 1) := by decide +kernel
theorem dX3_whyNot_31 : decode cX3_whyNot 31 = .ok (.goto 5, 3) := by decide +kernel
theorem dX3_whyNot_34 : decode cX3_whyNot 34 = .ok (.bipush (-13), 2) := by decide +kernel
theorem dX3_whyNot_36 : decode cX3_whyNot 36 = .ok (.ireturn, 1) := by decide +kernel
theorem dX3_at_0 : decode cX3_at 0 = .ok (.iload_n 1, 1) := by decide +kernel
theorem dX3_at_1 : decode cX3_at 1 = .ok (.bipush 24, 2) := by decide +kernel
theorem dX3_at_3 : decode cX3_at 3 = .ok (.invokestatic 30, 3) := by decide +kernel
theorem dX3_at_6 : decode cX3_at 6 = .ok (.ifCond .eq 12, 3) := by decide +kernel
theorem dX3_at_9 : decode cX3_at 9 = .ok (.aload_n 0, 1) := by decide +kernel
theorem dX3_at_10 : decode cX3_at 10 = .ok (.getfield 9, 3) := by decide +kernel
theorem dX3_at_13 : decode cX3_at 13 = .ok (.iload_n 1, 1) := by decide +kernel
theorem dX3_at_14 : decode cX3_at 14 = .ok (.laload, 1) := by decide +kernel
theorem dX3_at_15 : decode cX3_at 15 = .ok (.goto 4, 3) := by decide +kernel
theorem dX3_at_18 : decode cX3_at 18 = .ok (.lconst 0, 1) := by decide +kernel
theorem dX3_at_19 : decode cX3_at 19 = .ok (.lreturn, 1) := by decide +kernel
theorem dX3_write_0 : decode cX3_write 0 = .ok (.iload_n 1, 1) := by decide +kernel
theorem dX3_write_1 : decode cX3_write 1 = .ok (.bipush 24, 2) := by decide +kernel
theorem dX3_write_3 : decode cX3_write 3 = .ok (.invokestatic 30, 3) := by decide +kernel
theorem dX3_write_6 : decode cX3_write 6 = .ok (.ifCond .eq 14, 3) := by decide +kernel
theorem dX3_write_9 : decode cX3_write 9 = .ok (.aload_n 0, 1) := by decide +kernel
theorem dX3_write_10 : decode cX3_write 10 = .ok (.getfield 9, 3) := by decide +kernel
theorem dX3_write_13 : decode cX3_write 13 = .ok (.iload_n 1, 1) := by decide +kernel
theorem dX3_write_14 : decode cX3_write 14 = .ok (.aload_n 0, 1) := by decide +kernel
theorem dX3_write_15 : decode cX3_write 15 = .ok (.lload_n 2, 1) := by decide +kernel
theorem dX3_write_16 : decode cX3_write 16 = .ok (.invokevirtual 33, 3) := by decide +kernel
theorem dX3_write_19 : decode cX3_write 19 = .ok (.lastore, 1) := by decide +kernel
theorem dX3_write_20 : decode cX3_write 20 = .ok (.return_, 1) := by decide +kernel
theorem dX3_lowestBits_0 : decode cX3_lowestBits 0 = .ok (.aload_n 0, 1) := by decide +kernel
theorem dX3_lowestBits_1 : decode cX3_lowestBits 1 = .ok (.getfield 19, 3) := by decide +kernel
theorem dX3_lowestBits_4 : decode cX3_lowestBits 4 = .ok (.tableswitch 42 0 2 #[28, 33, 38], 28) := by decide +kernel
theorem dX3_lowestBits_32 : decode cX3_lowestBits 32 = .ok (.lload_n 1, 1) := by decide +kernel
theorem dX3_lowestBits_33 : decode cX3_lowestBits 33 = .ok (.l2i, 1) := by decide +kernel
theorem dX3_lowestBits_34 : decode cX3_lowestBits 34 = .ok (.i2b, 1) := by decide +kernel
theorem dX3_lowestBits_35 : decode cX3_lowestBits 35 = .ok (.i2l, 1) := by decide +kernel
theorem dX3_lowestBits_36 : decode cX3_lowestBits 36 = .ok (.lreturn, 1) := by decide +kernel
theorem dX3_lowestBits_37 : decode cX3_lowestBits 37 = .ok (.lload_n 1, 1) := by decide +kernel
theorem dX3_lowestBits_38 : decode cX3_lowestBits 38 = .ok (.l2i, 1) := by decide +kernel
theorem dX3_lowestBits_39 : decode cX3_lowestBits 39 = .ok (.i2s, 1) := by decide +kernel
theorem dX3_lowestBits_40 : decode cX3_lowestBits 40 = .ok (.i2l, 1) := by decide +kernel
theorem dX3_lowestBits_41 : decode cX3_lowestBits 41 = .ok (.lreturn, 1) := by decide +kernel
theorem dX3_lowestBits_42 : decode cX3_lowestBits 42 = .ok (.lload_n 1, 1) := by decide +kernel
theorem dX3_lowestBits_43 : decode cX3_lowestBits 43 = .ok (.l2i, 1) := by decide +kernel
theorem dX3_lowestBits_44 : decode cX3_lowestBits 44 = .ok (.i2l, 1) := by decide +kernel
theorem dX3_lowestBits_45 : decode cX3_lowestBits 45 = .ok (.lreturn, 1) := by decide +kernel
theorem dX3_lowestBits_46 : decode cX3_lowestBits 46 = .ok (.lload_n 1, 1) := by decide +kernel
theorem dX3_lowestBits_47 : decode cX3_lowestBits 47 = .ok (.lreturn, 1) := by decide +kernel
theorem dX4_init_0 : decode cX4_init 0 = .ok (.aload_n 0, 1) := by decide +kernel
theorem dX4_init_1 : decode cX4_init 1 = .ok (.invokespecial 3, 3) := by decide +kernel
theorem dX4_init_4 : decode cX4_init 4 = .ok (.aload_n 0, 1) := by decide +kernel
theorem dX4_init_5 : decode cX4_init 5 = .ok (.iconst 5, 1) := by decide +kernel
theorem dX4_init_6 : decode cX4_init 6 = .ok (.newarray .int, 2) := by decide +kernel
theorem dX4_init_8 : decode cX4_init 8 = .ok (.putfield 9, 3) := by decide +kernel
theorem dX4_init_11 : decode cX4_init 11 = .ok (.aload_n 0, 1) := by decide +kernel
theorem dX4_init_12 : decode cX4_init 12 = .ok (.iconst 5, 1) := by decide +kernel
theorem dX4_init_13 : decode cX4_init 13 = .ok (.newarray .int, 2) := by decide +kernel
theorem dX4_init_15 : decode cX4_init 15 = .ok (.putfield 15, 3) := by decide +kernel
theorem dX4_init_18 : decode cX4_init 18 = .ok (.aload_n 0, 1) := by decide +kernel
theorem dX4_init_19 : decode cX4_init 19 = .ok (.iconst 5, 1) := by decide +kernel
theorem dX4_init_20 : decode cX4_init 20 = .ok (.newarray .int, 2) := by decide +kernel
theorem dX4_init_22 : decode cX4_init 22 = .ok (.putfield 18, 3) := by decide +kernel
theorem dX4_init_25 : decode cX4_init 25 = .ok (.aload_n 0, 1) := by decide +kernel
theorem dX4_init_26 : decode cX4_init 26 = .ok (.bipush 48, 2) := by decide +kernel
theorem dX4_init_28 : decode cX4_init 28 = .ok (.newarray .int, 2) := by decide +kernel
theorem dX4_init_30 : decode cX4_init 30 = .ok (.putfield 21, 3) := by decide +kernel
theorem dX4_init_33 : decode cX4_init 33 = .ok (.aload_n 0, 1) := by decide +kernel
theorem dX4_init_34 : decode cX4_init 34 = .ok (.iconst 4, 1) := by decide +kernel
theorem dX4_init_35 : decode cX4_init 35 = .ok (.putfield 24, 3) := by decide +kernel
theorem dX4_init_38 : decode cX4_init 38 = .ok (.aload_n 0, 1) := by decide +kernel
theorem dX4_init_39 : decode cX4_init 39 = .ok (.iconst 3, 1) := by decide +kernel
theorem dX4_init_40 : decode cX4_init 40 = .ok (.putfield 28, 3) := by decide +kernel
theorem dX4_init_43 : decode cX4_init 43 = .ok (.aload_n 0, 1) := by decide +kernel
theorem dX4_init_44 : decode cX4_init 44 = .ok (.iconst 1, 1) := by decide +kernel
theorem dX4_init_45 : decode cX4_init 45 = .ok (.putfield 31, 3) := by decide +kernel
theorem dX4_init_48 : decode cX4_init 48 = .ok (.iconst 0, 1) := by decide +kernel
theorem dX4_init_49 : decode cX4_init 49 = .ok (.istore_n 1, 1) := by decide +kernel
theorem dX4_init_50 : decode cX4_init 50 = .ok (.iload_n 1, 1) := by decide +kernel
theorem dX4_init_51 : decode cX4_init 51 = .ok (.iconst 5, 1) := by decide +kernel
theorem dX4_init_52 : decode cX4_init 52 = .ok (.if_icmp .ge 27, 3) := by decide +kernel
theorem dX4_init_55 : decode cX4_init 55 = .ok (.aload_n 0, 1) := by decide +kernel
theorem dX4_init_56 : decode cX4_init 56 = .ok (.getfield 15, 3) := by decide +kernel
theorem dX4_init_59 : decode cX4_init 59 = .ok (.iload_n 1, 1) := by decide +kernel
theorem dX4_init_60 : decode cX4_init 60 = .ok (.getstatic 34, 3) := by decide +kernel
theorem dX4_init_63 : decode cX4_init 63 = .ok (.iload_n 1, 1) := by decide +kernel
theorem dX4_init_64 : decode cX4_init 64 = .ok (.iaload, 1) := by decide +kernel
theorem dX4_init_65 : decode cX4_init 65 = .ok (.iastore, 1) := by decide +kernel
theorem dX4_init_66 : decode cX4_init 66 = .ok (.aload_n 0, 1) := by decide +kernel
theorem dX4_init_67 : decode cX4_init 67 = .ok (.getfield 18, 3) := by decide +kernel
theorem dX4_init_70 : decode cX4_init 70 = .ok (.iload_n 1, 1) := by decide +kernel
theorem dX4_init_71 : decode cX4_init 71 = .ok (.iload_n 1, 1) := by decide +kernel
theorem dX4_init_72 : decode cX4_init 72 = .ok (.iastore, 1) := by decide +kernel
theorem dX4_init_73 : decode cX4_init 73 = .ok (.iinc 1 1, 3) := by decide +kernel
theorem dX4_init_76 : decode cX4_init 76 = .ok (.goto (-26), 3) := by decide +kernel
theorem dX4_init_79 : decode cX4_init 79 = .ok (.return_, 1) := by decide +kernel
theorem dX4_become_0 : decode cX4_become 0 = .ok (.aload_n 1, 1) := by decide +kernel
theorem dX4_become_1 : decode cX4_become 1 = .ok (.getfield 9, 3) := by decide +kernel
theorem dX4_become_4 : decode cX4_become 4 = .ok (.iconst 0, 1) := by decide +kernel
theorem dX4_become_5 : decode cX4_become 5 = .ok (.aload_n 0, 1) := by decide +kernel
theorem dX4_become_6 : decode cX4_become 6 = .ok (.getfield 9, 3) := by decide +kernel
theorem dX4_become_9 : decode cX4_become 9 = .ok (.iconst 0, 1) := by decide +kernel
theorem dX4_become_10 : decode cX4_become 10 = .ok (.iconst 5, 1) := by decide +kernel
theorem dX4_become_11 : decode cX4_become 11 = .ok (.invokestatic 37, 3) := by decide +kernel
theorem dX4_become_14 : decode cX4_become 14 = .ok (.aload_n 1, 1) := by decide +kernel
theorem dX4_become_15 : decode cX4_become 15 = .ok (.getfield 15, 3) := by decide +kernel
theorem dX4_become_18 : decode cX4_become 18 = .ok (.iconst 0, 1) := by decide +kernel
theorem dX4_become_19 : decode cX4_become 19 = .ok (.aload_n 0, 1) := by decide +kernel
theorem dX4_become_20 : decode cX4_become 20 = .ok (.getfield 15, 3) := by decide +kernel
theorem dX4_become_23 : decode cX4_become 23 = .ok (.iconst 0, 1) := by decide +kernel
theorem dX4_become_24 : decode cX4_become 24 = .ok (.iconst 5, 1) := by decide +kernel
theorem dX4_become_25 : decode cX4_become 25 = .ok (.invokestatic 37, 3) := by decide +kernel
theorem dX4_become_28 : decode cX4_become 28 = .ok (.aload_n 1, 1) := by decide +kernel
theorem dX4_become_29 : decode cX4_become 29 = .ok (.getfield 18, 3) := by decide +kernel
theorem dX4_become_32 : decode cX4_become 32 = .ok (.iconst 0, 1) := by decide +kernel
theorem dX4_become_33 : decode cX4_become 33 = .ok (.aload_n 0, 1) := by decide +kernel
theorem dX4_become_34 : decode cX4_become 34 = .ok (.getfield 18, 3) := by decide +kernel
theorem dX4_become_37 : decode cX4_become 37 = .ok (.iconst 0, 1) := by decide +kernel
theorem dX4_become_38 : decode cX4_become 38 = .ok (.iconst 5, 1) := by decide +kernel
theorem dX4_become_39 : decode cX4_become 39 = .ok (.invokestatic 37, 3) := by decide +kernel
theorem dX4_become_42 : decode cX4_become 42 = .ok (.aload_n 1, 1) := by decide +kernel
theorem dX4_become_43 : decode cX4_become 43 = .ok (.getfield 21, 3) := by decide +kernel
theorem dX4_become_46 : decode cX4_become 46 = .ok (.iconst 0, 1) := by decide +kernel
theorem dX4_become_47 : decode cX4_become 47 = .ok (.aload_n 0, 1) := by decide +kernel
theorem dX4_become_48 : decode cX4_become 48 = .ok (.getfield 21, 3) := by decide +kernel
theorem dX4_become_51 : decode cX4_become 51 = .ok (.iconst 0, 1) := by decide +kernel
theorem dX4_become_52 : decode cX4_become 52 = .ok (.bipush 48, 2) := by decide +kernel
theorem dX4_become_54 : decode cX4_become 54 = .ok (.invokestatic 37, 3) := by decide +kernel
theorem dX4_become_57 : decode cX4_become 57 = .ok (.aload_n 0, 1) := by decide +kernel
theorem dX4_become_58 : decode cX4_become 58 = .ok (.aload_n 1, 1) := by decide +kernel
theorem dX4_become_59 : decode cX4_become 59 = .ok (.getfield 24, 3) := by decide +kernel
theorem dX4_become_62 : decode cX4_become 62 = .ok (.putfield 24, 3) := by decide +kernel
theorem dX4_become_65 : decode cX4_become 65 = .ok (.aload_n 0, 1) := by decide +kernel
theorem dX4_become_66 : decode cX4_become 66 = .ok (.aload_n 1, 1) := by decide +kernel
theorem dX4_become_67 : decode cX4_become 67 = .ok (.getfield 28, 3) := by decide +kernel
theorem dX4_become_70 : decode cX4_become 70 = .ok (.putfield 28, 3) := by decide +kernel
theorem dX4_become_73 : decode cX4_become 73 = .ok (.aload_n 0, 1) := by decide +kernel
theorem dX4_become_74 : decode cX4_become 74 = .ok (.aload_n 1, 1) := by decide +kernel
theorem dX4_become_75 : decode cX4_become 75 = .ok (.getfield 31, 3) := by decide +kernel
theorem dX4_become_78 : decode cX4_become 78 = .ok (.putfield 31, 3) := by decide +kernel
theorem dX4_become_81 : decode cX4_become 81 = .ok (.return_, 1) := by decide +kernel
theorem dX4_become__0 : decode cX4_become_ 0 = .ok (.aload_n 1, 1) := by decide +kernel
theorem dX4_become__1 : decode cX4_become_ 1 = .ok (.iconst 0, 1) := by decide +kernel
theorem dX4_become__2 : decode cX4_become_ 2 = .ok (.aload_n 0, 1) := by decide +kernel
theorem dX4_become__3 : decode cX4_become_ 3 = .ok (.getfield 21, 3) := by decide +kernel
theorem dX4_become__6 : decode cX4_become_ 6 = .ok (.iconst 0, 1) := by decide +kernel
theorem dX4_become__7 : decode cX4_become_ 7 = .ok (.bipush 48, 2) := by decide +kernel
theorem dX4_become__9 : decode cX4_become_ 9 = .ok (.invokestatic 37, 3) := by decide +kernel
theorem dX4_become__12 : decode cX4_become_ 12 = .ok (.aload_n 0, 1) := by decide +kernel
theorem dX4_become__13 : decode cX4_become_ 13 = .ok (.iload_n 2, 1) := by decide +kernel
theorem dX4_become__14 : decode cX4_become_ 14 = .ok (.putfield 24, 3) := by decide +kernel
theorem dX4_become__17 : decode cX4_become_ 17 = .ok (.aload_n 0, 1) := by decide +kernel
theorem dX4_become__18 : decode cX4_become_ 18 = .ok (.iload_n 3, 1) := by decide +kernel
theorem dX4_become__19 : decode cX4_become_ 19 = .ok (.putfield 28, 3) := by decide +kernel
theorem dX4_become__22 : decode cX4_become_ 22 = .ok (.return_, 1) := by decide +kernel
theorem dX4_indexOf_0 : decode cX4_indexOf 0 = .ok (.iload_n 1, 1) := by decide +kernel
theorem dX4_indexOf_1 : decode cX4_indexOf 1 = .ok (.bipush 8, 2) := by decide +kernel
theorem dX4_indexOf_3 : decode cX4_indexOf 3 = .ok (.imul, 1) := by decide +kernel
theorem dX4_indexOf_4 : decode cX4_indexOf 4 = .ok (.iload_n 0, 1) := by decide +kernel
theorem dX4_indexOf_5 : decode cX4_indexOf 5 = .ok (.iadd, 1) := by decide +kernel
theorem dX4_indexOf_6 : decode cX4_indexOf 6 = .ok (.ireturn, 1) := by decide +kernel
theorem dX4_isInside_0 : decode cX4_isInside 0 = .ok (.iload_n 1, 1) := by decide +kernel
theorem dX4_isInside_1 : decode cX4_isInside 1 = .ok (.ifCond .lt 27, 3) := by decide +kernel
theorem dX4_isInside_4 : decode cX4_isInside 4 = .ok (.iload_n 1, 1) := by decide +kernel
theorem dX4_isInside_5 : decode cX4_isInside 5 = .ok (.aload_n 0, 1) := by decide +kernel
theorem dX4_isInside_6 : decode cX4_isInside 6 = .ok (.getfield 24, 3) := by decide +kernel
theorem dX4_isInside_9 : decode cX4_isInside 9 = .ok (.if_icmp .ge 19, 3) := by decide +kernel
theorem dX4_isInside_12 : decode cX4_isInside 12 = .ok (.iload_n 2, 1) := by decide +kernel
theorem dX4_isInside_13 : decode cX4_isInside 13 = .ok (.ifCond .lt 15, 3) := by decide +kernel
theorem dX4_isInside_16 : decode cX4_isInside 16 = .ok (.iload_n 2, 1) := by decide +kernel
theorem dX4_isInside_17 : decode cX4_isInside 17 = .ok (.aload_n 0, 1) := by decide +kernel
theorem dX4_isInside_18 : decode cX4_isInside 18 = .ok (.getfield 28, 3) := by decide +kernel
theorem dX4_isInside_21 : decode cX4_isInside 21 = .ok (.if_icmp .ge 7, 3) := by decide +kernel
theorem dX4_isInside_24 : decode cX4_isInside 24 = .ok (.iconst 1, 1) := by decide +kernel
theorem dX4_isInside_25 : decode cX4_isInside 25 = .ok (.goto 4, 3) := by decide +kernel
theorem dX4_isInside_28 : decode cX4_isInside 28 = .ok (.iconst 0, 1) := by decide +kernel
theorem dX4_isInside_29 : decode cX4_isInside 29 = .ok (.ireturn, 1) := by decide +kernel
theorem dX4_at_0 : decode cX4_at 0 = .ok (.aload_n 0, 1) := by decide +kernel
theorem dX4_at_1 : decode cX4_at 1 = .ok (.iload_n 1, 1) := by decide +kernel
theorem dX4_at_2 : decode cX4_at 2 = .ok (.iload_n 2, 1) := by decide +kernel
theorem dX4_at_3 : decode cX4_at 3 = .ok (.invokevirtual 43, 3) := by decide +kernel
theorem dX4_at_6 : decode cX4_at 6 = .ok (.ifCond .eq 16, 3) := by decide +kernel
theorem dX4_at_9 : decode cX4_at 9 = .ok (.aload_n 0, 1) := by decide +kernel
theorem dX4_at_10 : decode cX4_at 10 = .ok (.getfield 21, 3) := by decide +kernel
theorem dX4_at_13 : decode cX4_at 13 = .ok (.iload_n 1, 1) := by decide +kernel
theorem dX4_at_14 : decode cX4_at 14 = .ok (.iload_n 2, 1) := by decide +kernel
theorem dX4_at_15 : decode cX4_at 15 = .ok (.invokestatic 47, 3) := by decide +kernel
theorem dX4_at_18 : decode cX4_at 18 = .ok (.iaload, 1) := by decide +kernel
theorem dX4_at_19 : decode cX4_at 19 = .ok (.goto 4, 3) := by decide +kernel
theorem dX4_at_22 : decode cX4_at 22 = .ok (.iconst 0, 1) := by decide +kernel
theorem dX4_at_23 : decode cX4_at 23 = .ok (.ireturn, 1) := by decide +kernel
theorem dX4_write_0 : decode cX4_write 0 = .ok (.aload_n 0, 1) := by decide +kernel
theorem dX4_write_1 : decode cX4_write 1 = .ok (.iload_n 1, 1) := by decide +kernel
theorem dX4_write_2 : decode cX4_write 2 = .ok (.iload_n 2, 1) := by decide +kernel
theorem dX4_write_3 : decode cX4_write 3 = .ok (.invokevirtual 43, 3) := by decide +kernel
theorem dX4_write_6 : decode cX4_write 6 = .ok (.ifCond .eq 14, 3) := by decide +kernel
theorem dX4_write_9 : decode cX4_write 9 = .ok (.aload_n 0, 1) := by decide +kernel
theorem dX4_write_10 : decode cX4_write 10 = .ok (.getfield 21, 3) := by decide +kernel
theorem dX4_write_13 : decode cX4_write 13 = .ok (.iload_n 1, 1) := by decide +kernel
theorem dX4_write_14 : decode cX4_write 14 = .ok (.iload_n 2, 1) := by decide +kernel
theorem dX4_write_15 : decode cX4_write 15 = .ok (.invokestatic 47, 3) := by decide +kernel
theorem dX4_write_18 : decode cX4_write 18 = .ok (.iload_n 3, 1) := by decide +kernel
theorem dX4_write_19 : decode cX4_write 19 = .ok (.iastore, 1) := by decide +kernel
theorem dX4_write_20 : decode cX4_write 20 = .ok (.return_, 1) := by decide +kernel
theorem dX4_clearOutside_0 : decode cX4_clearOutside 0 = .ok (.iconst 0, 1) := by decide +kernel
theorem dX4_clearOutside_1 : decode cX4_clearOutside 1 = .ok (.istore_n 1, 1) := by decide +kernel
theorem dX4_clearOutside_2 : decode cX4_clearOutside 2 = .ok (.iload_n 1, 1) := by decide +kernel
theorem dX4_clearOutside_3 : decode cX4_clearOutside 3 = .ok (.bipush 6, 2) := by decide +kernel
theorem dX4_clearOutside_5 : decode cX4_clearOutside 5 = .ok (.if_icmp .ge 43, 3) := by decide +kernel
theorem dX4_clearOutside_8 : decode cX4_clearOutside 8 = .ok (.iconst 0, 1) := by decide +kernel
theorem dX4_clearOutside_9 : decode cX4_clearOutside 9 = .ok (.istore_n 2, 1) := by decide +kernel
theorem dX4_clearOutside_10 : decode cX4_clearOutside 10 = .ok (.iload_n 2, 1) := by decide +kernel
theorem dX4_clearOutside_11 : decode cX4_clearOutside 11 = .ok (.bipush 8, 2) := by decide +kernel
theorem dX4_clearOutside_13 : decode cX4_clearOutside 13 = .ok (.if_icmp .ge 29, 3) := by decide +kernel
theorem dX4_clearOutside_16 : decode cX4_clearOutside 16 = .ok (.aload_n 0, 1) := by decide +kernel
theorem dX4_clearOutside_17 : decode cX4_clearOutside 17 = .ok (.iload_n 2, 1) := by decide +kernel
theorem dX4_clearOutside_18 : decode cX4_clearOutside 18 = .ok (.iload_n 1, 1) := by decide +kernel
theorem dX4_clearOutside_19 : decode cX4_clearOutside 19 = .ok (.invokevirtual 43, 3) := by decide +kernel
theorem dX4_clearOutside_22 : decode cX4_clearOutside 22 = .ok (.ifCond .ne 14, 3) := by decide +kernel
theorem dX4_clearOutside_25 : decode cX4_clearOutside 25 = .ok (.aload_n 0, 1) := by decide +kernel
theorem dX4_clearOutside_26 : decode cX4_clearOutside 26 = .ok (.getfield 21, 3) := by decide +kernel
theorem dX4_clearOutside_29 : decode cX4_clearOutside 29 = .ok (.iload_n 2, 1) := by decide +kernel
theorem dX4_clearOutside_30 : decode cX4_clearOutside 30 = .ok (.iload_n 1, 1) := by decide +kernel
theorem dX4_clearOutside_31 : decode cX4_clearOutside 31 = .ok (.invokestatic 47, 3) := by decide +kernel
theorem dX4_clearOutside_34 : decode cX4_clearOutside 34 = .ok (.iconst 0, 1) := by decide +kernel
theorem dX4_clearOutside_35 : decode cX4_clearOutside 35 = .ok (.iastore, 1) := by decide +kernel
theorem dX4_clearOutside_36 : decode cX4_clearOutside 36 = .ok (.iinc 2 1, 3) := by decide +kernel
theorem dX4_clearOutside_39 : decode cX4_clearOutside 39 = .ok (.goto (-29), 3) := by decide +kernel
theorem dX4_clearOutside_42 : decode cX4_clearOutside 42 = .ok (.iinc 1 1, 3) := by decide +kernel
theorem dX4_clearOutside_45 : decode cX4_clearOutside 45 = .ok (.goto (-43), 3) := by decide +kernel
theorem dX4_clearOutside_48 : decode cX4_clearOutside 48 = .ok (.return_, 1) := by decide +kernel
theorem dX4_placeInOrder_0 : decode cX4_placeInOrder 0 = .ok (.iconst 0, 1) := by decide +kernel
theorem dX4_placeInOrder_1 : decode cX4_placeInOrder 1 = .ok (.istore_n 2, 1) := by decide +kernel
theorem dX4_placeInOrder_2 : decode cX4_placeInOrder 2 = .ok (.iload_n 2, 1) := by decide +kernel
theorem dX4_placeInOrder_3 : decode cX4_placeInOrder 3 = .ok (.iconst 5, 1) := by decide +kernel
theorem dX4_placeInOrder_4 : decode cX4_placeInOrder 4 = .ok (.if_icmp .ge 21, 3) := by decide +kernel
theorem dX4_placeInOrder_7 : decode cX4_placeInOrder 7 = .ok (.aload_n 0, 1) := by decide +kernel
theorem dX4_placeInOrder_8 : decode cX4_placeInOrder 8 = .ok (.getfield 18, 3) := by decide +kernel
theorem dX4_placeInOrder_11 : decode cX4_placeInOrder 11 = .ok (.iload_n 2, 1) := by decide +kernel
theorem dX4_placeInOrder_12 : decode cX4_placeInOrder 12 = .ok (.iaload, 1) := by decide +kernel
theorem dX4_placeInOrder_13 : decode cX4_placeInOrder 13 = .ok (.iload_n 1, 1) := by decide +kernel
theorem dX4_placeInOrder_14 : decode cX4_placeInOrder 14 = .ok (.if_icmp .ne 5, 3) := by decide +kernel
theorem dX4_placeInOrder_17 : decode cX4_placeInOrder 17 = .ok (.iload_n 2, 1) := by decide +kernel
theorem dX4_placeInOrder_18 : decode cX4_placeInOrder 18 = .ok (.ireturn, 1) := by decide +kernel
theorem dX4_placeInOrder_19 : decode cX4_placeInOrder 19 = .ok (.iinc 2 1, 3) := by decide +kernel
theorem dX4_placeInOrder_22 : decode cX4_placeInOrder 22 = .ok (.goto (-20), 3) := by decide +kernel
theorem dX4_placeInOrder_25 : decode cX4_placeInOrder 25 = .ok (.iconst (-1), 1) := by decide +kernel
theorem dX4_placeInOrder_26 : decode cX4_placeInOrder 26 = .ok (.ireturn, 1) := by decide +kernel
theorem dX4_placesWithInk_0 : decode cX4_placesWithInk 0 = .ok (.iconst 0, 1) := by decide +kernel
theorem dX4_placesWithInk_1 : decode cX4_placesWithInk 1 = .ok (.istore_n 2, 1) := by decide +kernel
theorem dX4_placesWithInk_2 : decode cX4_placesWithInk 2 = .ok (.iconst 0, 1) := by decide +kernel
theorem dX4_placesWithInk_3 : decode cX4_placesWithInk 3 = .ok (.istore_n 3, 1) := by decide +kernel
theorem dX4_placesWithInk_4 : decode cX4_placesWithInk 4 = .ok (.iload_n 3, 1) := by decide +kernel
theorem dX4_placesWithInk_5 : decode cX4_placesWithInk 5 = .ok (.bipush 48, 2) := by decide +kernel
theorem dX4_placesWithInk_7 : decode cX4_placesWithInk 7 = .ok (.if_icmp .ge 25, 3) := by decide +kernel
theorem dX4_placesWithInk_10 : decode cX4_placesWithInk 10 = .ok (.aload_n 0, 1) := by decide +kernel
theorem dX4_placesWithInk_11 : decode cX4_placesWithInk 11 = .ok (.getfield 21, 3) := by decide +kernel
theorem dX4_placesWithInk_14 : decode cX4_placesWithInk 14 = .ok (.iload_n 3, 1) := by decide +kernel
theorem dX4_placesWithInk_15 : decode cX4_placesWithInk 15 = .ok (.iaload, 1) := by decide +kernel
theorem dX4_placesWithInk_16 : decode cX4_placesWithInk 16 = .ok (.iload_n 1, 1) := by decide +kernel
theorem dX4_placesWithInk_17 : decode cX4_placesWithInk 17 = .ok (.invokestatic 51, 3) := by decide +kernel
theorem dX4_placesWithInk_20 : decode cX4_placesWithInk 20 = .ok (.ifCond .eq 6, 3) := by decide +kernel
theorem dX4_placesWithInk_23 : decode cX4_placesWithInk 23 = .ok (.iinc 2 1, 3) := by decide +kernel
theorem dX4_placesWithInk_26 : decode cX4_placesWithInk 26 = .ok (.iinc 3 1, 3) := by decide +kernel
theorem dX4_placesWithInk_29 : decode cX4_placesWithInk 29 = .ok (.goto (-25), 3) := by decide +kernel
theorem dX4_placesWithInk_32 : decode cX4_placesWithInk 32 = .ok (.iload_n 2, 1) := by decide +kernel
theorem dX4_placesWithInk_33 : decode cX4_placesWithInk 33 = .ok (.ireturn, 1) := by decide +kernel
theorem dX4_placesOfSet_0 : decode cX4_placesOfSet 0 = .ok (.iconst 0, 1) := by decide +kernel
theorem dX4_placesOfSet_1 : decode cX4_placesOfSet 1 = .ok (.istore_n 2, 1) := by decide +kernel
theorem dX4_placesOfSet_2 : decode cX4_placesOfSet 2 = .ok (.iconst 0, 1) := by decide +kernel
theorem dX4_placesOfSet_3 : decode cX4_placesOfSet 3 = .ok (.istore_n 3, 1) := by decide +kernel
theorem dX4_placesOfSet_4 : decode cX4_placesOfSet 4 = .ok (.iload_n 3, 1) := by decide +kernel
theorem dX4_placesOfSet_5 : decode cX4_placesOfSet 5 = .ok (.aload_n 0, 1) := by decide +kernel
theorem dX4_placesOfSet_6 : decode cX4_placesOfSet 6 = .ok (.getfield 28, 3) := by decide +kernel
theorem dX4_placesOfSet_9 : decode cX4_placesOfSet 9 = .ok (.if_icmp .ge 41, 3) := by decide +kernel
theorem dX4_placesOfSet_12 : decode cX4_placesOfSet 12 = .ok (.iconst 0, 1) := by decide +kernel
theorem dX4_placesOfSet_13 : decode cX4_placesOfSet 13 = .ok (.istore 4, 2) := by decide +kernel
theorem dX4_placesOfSet_15 : decode cX4_placesOfSet 15 = .ok (.iload 4, 2) := by decide +kernel
theorem dX4_placesOfSet_17 : decode cX4_placesOfSet 17 = .ok (.aload_n 0, 1) := by decide +kernel
theorem dX4_placesOfSet_18 : decode cX4_placesOfSet 18 = .ok (.getfield 24, 3) := by decide +kernel
theorem dX4_placesOfSet_21 : decode cX4_placesOfSet 21 = .ok (.if_icmp .ge 23, 3) := by decide +kernel
theorem dX4_placesOfSet_24 : decode cX4_placesOfSet 24 = .ok (.aload_n 0, 1) := by decide +kernel
theorem dX4_placesOfSet_25 : decode cX4_placesOfSet 25 = .ok (.iload 4, 2) := by decide +kernel
theorem dX4_placesOfSet_27 : decode cX4_placesOfSet 27 = .ok (.iload_n 3, 1) := by decide +kernel
theorem dX4_placesOfSet_28 : decode cX4_placesOfSet 28 = .ok (.invokevirtual 54, 3) := by decide +kernel
theorem dX4_placesOfSet_31 : decode cX4_placesOfSet 31 = .ok (.iload_n 1, 1) := by decide +kernel
theorem dX4_placesOfSet_32 : decode cX4_placesOfSet 32 = .ok (.if_icmp .ne 6, 3) := by decide +kernel
theorem dX4_placesOfSet_35 : decode cX4_placesOfSet 35 = .ok (.iinc 2 1, 3) := by decide +kernel
theorem dX4_placesOfSet_38 : decode cX4_placesOfSet 38 = .ok (.iinc 4 1, 3) := by decide +kernel
theorem dX4_placesOfSet_41 : decode cX4_placesOfSet 41 = .ok (.goto (-26), 3) := by decide +kernel
theorem dX4_placesOfSet_44 : decode cX4_placesOfSet 44 = .ok (.iinc 3 1, 3) := by decide +kernel
theorem dX4_placesOfSet_47 : decode cX4_placesOfSet 47 = .ok (.goto (-43), 3) := by decide +kernel
theorem dX4_placesOfSet_50 : decode cX4_placesOfSet 50 = .ok (.iload_n 2, 1) := by decide +kernel
theorem dX4_placesOfSet_51 : decode cX4_placesOfSet 51 = .ok (.ireturn, 1) := by decide +kernel
theorem dX4_inksDrawn_0 : decode cX4_inksDrawn 0 = .ok (.iconst 0, 1) := by decide +kernel
theorem dX4_inksDrawn_1 : decode cX4_inksDrawn 1 = .ok (.istore_n 1, 1) := by decide +kernel
theorem dX4_inksDrawn_2 : decode cX4_inksDrawn 2 = .ok (.iconst 0, 1) := by decide +kernel
theorem dX4_inksDrawn_3 : decode cX4_inksDrawn 3 = .ok (.istore_n 2, 1) := by decide +kernel
theorem dX4_inksDrawn_4 : decode cX4_inksDrawn 4 = .ok (.iload_n 2, 1) := by decide +kernel
theorem dX4_inksDrawn_5 : decode cX4_inksDrawn 5 = .ok (.bipush 48, 2) := by decide +kernel
theorem dX4_inksDrawn_7 : decode cX4_inksDrawn 7 = .ok (.if_icmp .ge 18, 3) := by decide +kernel
theorem dX4_inksDrawn_10 : decode cX4_inksDrawn 10 = .ok (.iload_n 1, 1) := by decide +kernel
theorem dX4_inksDrawn_11 : decode cX4_inksDrawn 11 = .ok (.aload_n 0, 1) := by decide +kernel
theorem dX4_inksDrawn_12 : decode cX4_inksDrawn 12 = .ok (.getfield 21, 3) := by decide +kernel
theorem dX4_inksDrawn_15 : decode cX4_inksDrawn 15 = .ok (.iload_n 2, 1) := by decide +kernel
theorem dX4_inksDrawn_16 : decode cX4_inksDrawn 16 = .ok (.iaload, 1) := by decide +kernel
theorem dX4_inksDrawn_17 : decode cX4_inksDrawn 17 = .ok (.ior, 1) := by decide +kernel
theorem dX4_inksDrawn_18 : decode cX4_inksDrawn 18 = .ok (.istore_n 1, 1) := by decide +kernel
theorem dX4_inksDrawn_19 : decode cX4_inksDrawn 19 = .ok (.iinc 2 1, 3) := by decide +kernel
theorem dX4_inksDrawn_22 : decode cX4_inksDrawn 22 = .ok (.goto (-18), 3) := by decide +kernel
theorem dX4_inksDrawn_25 : decode cX4_inksDrawn 25 = .ok (.iload_n 1, 1) := by decide +kernel
theorem dX4_inksDrawn_26 : decode cX4_inksDrawn 26 = .ok (.ireturn, 1) := by decide +kernel
theorem dX4_setsDrawn_0 : decode cX4_setsDrawn 0 = .ok (.iconst 0, 1) := by decide +kernel
theorem dX4_setsDrawn_1 : decode cX4_setsDrawn 1 = .ok (.istore_n 1, 1) := by decide +kernel
theorem dX4_setsDrawn_2 : decode cX4_setsDrawn 2 = .ok (.iconst 0, 1) := by decide +kernel
theorem dX4_setsDrawn_3 : decode cX4_setsDrawn 3 = .ok (.istore_n 2, 1) := by decide +kernel
theorem dX4_setsDrawn_4 : decode cX4_setsDrawn 4 = .ok (.iload_n 2, 1) := by decide +kernel
theorem dX4_setsDrawn_5 : decode cX4_setsDrawn 5 = .ok (.aload_n 0, 1) := by decide +kernel
theorem dX4_setsDrawn_6 : decode cX4_setsDrawn 6 = .ok (.getfield 28, 3) := by decide +kernel
theorem dX4_setsDrawn_9 : decode cX4_setsDrawn 9 = .ok (.if_icmp .ge 36, 3) := by decide +kernel
theorem dX4_setsDrawn_12 : decode cX4_setsDrawn 12 = .ok (.iconst 0, 1) := by decide +kernel
theorem dX4_setsDrawn_13 : decode cX4_setsDrawn 13 = .ok (.istore_n 3, 1) := by decide +kernel
theorem dX4_setsDrawn_14 : decode cX4_setsDrawn 14 = .ok (.iload_n 3, 1) := by decide +kernel
theorem dX4_setsDrawn_15 : decode cX4_setsDrawn 15 = .ok (.aload_n 0, 1) := by decide +kernel
theorem dX4_setsDrawn_16 : decode cX4_setsDrawn 16 = .ok (.getfield 24, 3) := by decide +kernel
theorem dX4_setsDrawn_19 : decode cX4_setsDrawn 19 = .ok (.if_icmp .ge 20, 3) := by decide +kernel
theorem dX4_setsDrawn_22 : decode cX4_setsDrawn 22 = .ok (.iload_n 1, 1) := by decide +kernel
theorem dX4_setsDrawn_23 : decode cX4_setsDrawn 23 = .ok (.iconst 1, 1) := by decide +kernel
theorem dX4_setsDrawn_24 : decode cX4_setsDrawn 24 = .ok (.aload_n 0, 1) := by decide +kernel
theorem dX4_setsDrawn_25 : decode cX4_setsDrawn 25 = .ok (.iload_n 3, 1) := by decide +kernel
theorem dX4_setsDrawn_26 : decode cX4_setsDrawn 26 = .ok (.iload_n 2, 1) := by decide +kernel
theorem dX4_setsDrawn_27 : decode cX4_setsDrawn 27 = .ok (.invokevirtual 54, 3) := by decide +kernel
theorem dX4_setsDrawn_30 : decode cX4_setsDrawn 30 = .ok (.ishl, 1) := by decide +kernel
theorem dX4_setsDrawn_31 : decode cX4_setsDrawn 31 = .ok (.ior, 1) := by decide +kernel
theorem dX4_setsDrawn_32 : decode cX4_setsDrawn 32 = .ok (.istore_n 1, 1) := by decide +kernel
theorem dX4_setsDrawn_33 : decode cX4_setsDrawn 33 = .ok (.iinc 3 1, 3) := by decide +kernel
theorem dX4_setsDrawn_36 : decode cX4_setsDrawn 36 = .ok (.goto (-22), 3) := by decide +kernel
theorem dX4_setsDrawn_39 : decode cX4_setsDrawn 39 = .ok (.iinc 2 1, 3) := by decide +kernel
theorem dX4_setsDrawn_42 : decode cX4_setsDrawn 42 = .ok (.goto (-38), 3) := by decide +kernel
theorem dX4_setsDrawn_45 : decode cX4_setsDrawn 45 = .ok (.iload_n 1, 1) := by decide +kernel
theorem dX4_setsDrawn_46 : decode cX4_setsDrawn 46 = .ok (.ireturn, 1) := by decide +kernel
theorem dX5_init_0 : decode cX5_init 0 = .ok (.aload_n 0, 1) := by decide +kernel
theorem dX5_init_1 : decode cX5_init 1 = .ok (.invokespecial 3, 3) := by decide +kernel
theorem dX5_init_4 : decode cX5_init 4 = .ok (.aload_n 0, 1) := by decide +kernel
theorem dX5_init_5 : decode cX5_init 5 = .ok (.bipush 100, 2) := by decide +kernel
theorem dX5_init_7 : decode cX5_init 7 = .ok (.newarray .int, 2) := by decide +kernel
theorem dX5_init_9 : decode cX5_init 9 = .ok (.putfield 9, 3) := by decide +kernel
theorem dX5_init_12 : decode cX5_init 12 = .ok (.aload_n 0, 1) := by decide +kernel
theorem dX5_init_13 : decode cX5_init 13 = .ok (.bipush 48, 2) := by decide +kernel
theorem dX5_init_15 : decode cX5_init 15 = .ok (.newarray .int, 2) := by decide +kernel
theorem dX5_init_17 : decode cX5_init 17 = .ok (.putfield 15, 3) := by decide +kernel
theorem dX5_init_20 : decode cX5_init 20 = .ok (.aload_n 0, 1) := by decide +kernel
theorem dX5_init_21 : decode cX5_init 21 = .ok (.iconst 0, 1) := by decide +kernel
theorem dX5_init_22 : decode cX5_init 22 = .ok (.putfield 18, 3) := by decide +kernel
theorem dX5_init_25 : decode cX5_init 25 = .ok (.aload_n 0, 1) := by decide +kernel
theorem dX5_init_26 : decode cX5_init 26 = .ok (.iconst 0, 1) := by decide +kernel
theorem dX5_init_27 : decode cX5_init 27 = .ok (.putfield 22, 3) := by decide +kernel
theorem dX5_init_30 : decode cX5_init 30 = .ok (.aload_n 0, 1) := by decide +kernel
theorem dX5_init_31 : decode cX5_init 31 = .ok (.iconst 0, 1) := by decide +kernel
theorem dX5_init_32 : decode cX5_init 32 = .ok (.putfield 25, 3) := by decide +kernel
theorem dX5_init_35 : decode cX5_init 35 = .ok (.aload_n 0, 1) := by decide +kernel
theorem dX5_init_36 : decode cX5_init 36 = .ok (.iconst 0, 1) := by decide +kernel
theorem dX5_init_37 : decode cX5_init 37 = .ok (.putfield 28, 3) := by decide +kernel
theorem dX5_init_40 : decode cX5_init 40 = .ok (.aload_n 0, 1) := by decide +kernel
theorem dX5_init_41 : decode cX5_init 41 = .ok (.iconst 0, 1) := by decide +kernel
theorem dX5_init_42 : decode cX5_init 42 = .ok (.putfield 31, 3) := by decide +kernel
theorem dX5_init_45 : decode cX5_init 45 = .ok (.return_, 1) := by decide +kernel
theorem dX5_add_0 : decode cX5_add 0 = .ok (.aload_n 0, 1) := by decide +kernel
theorem dX5_add_1 : decode cX5_add 1 = .ok (.getfield 18, 3) := by decide +kernel
theorem dX5_add_4 : decode cX5_add 4 = .ok (.bipush 100, 2) := by decide +kernel
theorem dX5_add_6 : decode cX5_add 6 = .ok (.invokestatic 34, 3) := by decide +kernel
theorem dX5_add_9 : decode cX5_add 9 = .ok (.ifCond .ne 5, 3) := by decide +kernel
theorem dX5_add_12 : decode cX5_add 12 = .ok (.iconst 0, 1) := by decide +kernel
theorem dX5_add_13 : decode cX5_add 13 = .ok (.ireturn, 1) := by decide +kernel
theorem dX5_add_14 : decode cX5_add 14 = .ok (.aload_n 0, 1) := by decide +kernel
theorem dX5_add_15 : decode cX5_add 15 = .ok (.getfield 9, 3) := by decide +kernel
theorem dX5_add_18 : decode cX5_add 18 = .ok (.aload_n 0, 1) := by decide +kernel
theorem dX5_add_19 : decode cX5_add 19 = .ok (.getfield 18, 3) := by decide +kernel
theorem dX5_add_22 : decode cX5_add 22 = .ok (.iload_n 1, 1) := by decide +kernel
theorem dX5_add_23 : decode cX5_add 23 = .ok (.iastore, 1) := by decide +kernel
theorem dX5_add_24 : decode cX5_add 24 = .ok (.aload_n 0, 1) := by decide +kernel
theorem dX5_add_25 : decode cX5_add 25 = .ok (.dup, 1) := by decide +kernel
theorem dX5_add_26 : decode cX5_add 26 = .ok (.getfield 18, 3) := by decide +kernel
theorem dX5_add_29 : decode cX5_add 29 = .ok (.iconst 1, 1) := by decide +kernel
theorem dX5_add_30 : decode cX5_add 30 = .ok (.iadd, 1) := by decide +kernel
theorem dX5_add_31 : decode cX5_add 31 = .ok (.putfield 18, 3) := by decide +kernel
theorem dX5_add_34 : decode cX5_add 34 = .ok (.iconst 1, 1) := by decide +kernel
theorem dX5_add_35 : decode cX5_add 35 = .ok (.ireturn, 1) := by decide +kernel
theorem dX5_read_0 : decode cX5_read 0 = .ok (.aload_n 0, 1) := by decide +kernel
theorem dX5_read_1 : decode cX5_read 1 = .ok (.invokevirtual 38, 3) := by decide +kernel
theorem dX5_read_4 : decode cX5_read 4 = .ok (.iconst 0, 1) := by decide +kernel
theorem dX5_read_5 : decode cX5_read 5 = .ok (.istore_n 1, 1) := by decide +kernel
theorem dX5_read_6 : decode cX5_read 6 = .ok (.iload_n 1, 1) := by decide +kernel
theorem dX5_read_7 : decode cX5_read 7 = .ok (.bipush 100, 2) := by decide +kernel
theorem dX5_read_9 : decode cX5_read 9 = .ok (.if_icmp .gt 81, 3) := by decide +kernel
theorem dX5_read_12 : decode cX5_read 12 = .ok (.aload_n 0, 1) := by decide +kernel
theorem dX5_read_13 : decode cX5_read 13 = .ok (.invokevirtual 41, 3) := by decide +kernel
theorem dX5_read_16 : decode cX5_read 16 = .ok (.istore_n 2, 1) := by decide +kernel
theorem dX5_read_17 : decode cX5_read 17 = .ok (.iload_n 2, 1) := by decide +kernel
theorem dX5_read_18 : decode cX5_read 18 = .ok (.ifCond .ne 8, 3) := by decide +kernel
theorem dX5_read_21 : decode cX5_read 21 = .ok (.aload_n 0, 1) := by decide +kernel
theorem dX5_read_22 : decode cX5_read 22 = .ok (.invokevirtual 45, 3) := by decide +kernel
theorem dX5_read_25 : decode cX5_read 25 = .ok (.ireturn, 1) := by decide +kernel
theorem dX5_read_26 : decode cX5_read 26 = .ok (.iload_n 2, 1) := by decide +kernel
theorem dX5_read_27 : decode cX5_read 27 = .ok (.bipush 47, 2) := by decide +kernel
theorem dX5_read_29 : decode cX5_read 29 = .ok (.if_icmp .ne 27, 3) := by decide +kernel
theorem dX5_read_32 : decode cX5_read 32 = .ok (.aload_n 0, 1) := by decide +kernel
theorem dX5_read_33 : decode cX5_read 33 = .ok (.invokevirtual 45, 3) := by decide +kernel
theorem dX5_read_36 : decode cX5_read 36 = .ok (.ifCond .eq 16, 3) := by decide +kernel
theorem dX5_read_39 : decode cX5_read 39 = .ok (.aload_n 0, 1) := by decide +kernel
theorem dX5_read_40 : decode cX5_read 40 = .ok (.getfield 28, 3) := by decide +kernel
theorem dX5_read_43 : decode cX5_read 43 = .ok (.bipush 6, 2) := by decide +kernel
theorem dX5_read_45 : decode cX5_read 45 = .ok (.if_icmp .ge 7, 3) := by decide +kernel
theorem dX5_read_48 : decode cX5_read 48 = .ok (.iconst 1, 1) := by decide +kernel
theorem dX5_read_49 : decode cX5_read 49 = .ok (.goto 12, 3) := by decide +kernel
theorem dX5_read_52 : decode cX5_read 52 = .ok (.iconst 0, 1) := by decide +kernel
theorem dX5_read_53 : decode cX5_read 53 = .ok (.goto 8, 3) := by decide +kernel
theorem dX5_read_56 : decode cX5_read 56 = .ok (.aload_n 0, 1) := by decide +kernel
theorem dX5_read_57 : decode cX5_read 57 = .ok (.iload_n 2, 1) := by decide +kernel
theorem dX5_read_58 : decode cX5_read 58 = .ok (.invokevirtual 49, 3) := by decide +kernel
theorem dX5_read_61 : decode cX5_read 61 = .ok (.istore_n 3, 1) := by decide +kernel
theorem dX5_read_62 : decode cX5_read 62 = .ok (.iload_n 3, 1) := by decide +kernel
theorem dX5_read_63 : decode cX5_read 63 = .ok (.ifCond .ne 5, 3) := by decide +kernel
theorem dX5_read_66 : decode cX5_read 66 = .ok (.iconst 0, 1) := by decide +kernel
theorem dX5_read_67 : decode cX5_read 67 = .ok (.ireturn, 1) := by decide +kernel
theorem dX5_read_68 : decode cX5_read 68 = .ok (.iload_n 2, 1) := by decide +kernel
theorem dX5_read_69 : decode cX5_read 69 = .ok (.bipush 47, 2) := by decide +kernel
theorem dX5_read_71 : decode cX5_read 71 = .ok (.if_icmp .ne 13, 3) := by decide +kernel
theorem dX5_read_74 : decode cX5_read 74 = .ok (.aload_n 0, 1) := by decide +kernel
theorem dX5_read_75 : decode cX5_read 75 = .ok (.dup, 1) := by decide +kernel
theorem dX5_read_76 : decode cX5_read 76 = .ok (.getfield 22, 3) := by decide +kernel
theorem dX5_read_79 : decode cX5_read 79 = .ok (.iconst 1, 1) := by decide +kernel
theorem dX5_read_80 : decode cX5_read 80 = .ok (.iadd, 1) := by decide +kernel
theorem dX5_read_81 : decode cX5_read 81 = .ok (.putfield 22, 3) := by decide +kernel
theorem dX5_read_84 : decode cX5_read 84 = .ok (.iinc 1 1, 3) := by decide +kernel
theorem dX5_read_87 : decode cX5_read 87 = .ok (.goto (-81), 3) := by decide +kernel
theorem dX5_read_90 : decode cX5_read 90 = .ok (.iconst 0, 1) := by decide +kernel
theorem dX5_read_91 : decode cX5_read 91 = .ok (.ireturn, 1) := by decide +kernel
theorem dX5_begin_0 : decode cX5_begin 0 = .ok (.aload_n 0, 1) := by decide +kernel
theorem dX5_begin_1 : decode cX5_begin 1 = .ok (.iconst 0, 1) := by decide +kernel
theorem dX5_begin_2 : decode cX5_begin 2 = .ok (.putfield 22, 3) := by decide +kernel
theorem dX5_begin_5 : decode cX5_begin 5 = .ok (.aload_n 0, 1) := by decide +kernel
theorem dX5_begin_6 : decode cX5_begin 6 = .ok (.iconst 0, 1) := by decide +kernel
theorem dX5_begin_7 : decode cX5_begin 7 = .ok (.putfield 25, 3) := by decide +kernel
theorem dX5_begin_10 : decode cX5_begin 10 = .ok (.aload_n 0, 1) := by decide +kernel
theorem dX5_begin_11 : decode cX5_begin 11 = .ok (.iconst 0, 1) := by decide +kernel
theorem dX5_begin_12 : decode cX5_begin 12 = .ok (.putfield 28, 3) := by decide +kernel
theorem dX5_begin_15 : decode cX5_begin 15 = .ok (.aload_n 0, 1) := by decide +kernel
theorem dX5_begin_16 : decode cX5_begin 16 = .ok (.iconst 0, 1) := by decide +kernel
theorem dX5_begin_17 : decode cX5_begin 17 = .ok (.putfield 31, 3) := by decide +kernel
theorem dX5_begin_20 : decode cX5_begin 20 = .ok (.iconst 0, 1) := by decide +kernel
theorem dX5_begin_21 : decode cX5_begin 21 = .ok (.istore_n 1, 1) := by decide +kernel
theorem dX5_begin_22 : decode cX5_begin 22 = .ok (.iload_n 1, 1) := by decide +kernel
theorem dX5_begin_23 : decode cX5_begin 23 = .ok (.bipush 48, 2) := by decide +kernel
theorem dX5_begin_25 : decode cX5_begin 25 = .ok (.if_icmp .ge 16, 3) := by decide +kernel
theorem dX5_begin_28 : decode cX5_begin 28 = .ok (.aload_n 0, 1) := by decide +kernel
theorem dX5_begin_29 : decode cX5_begin 29 = .ok (.getfield 15, 3) := by decide +kernel
theorem dX5_begin_32 : decode cX5_begin 32 = .ok (.iload_n 1, 1) := by decide +kernel
theorem dX5_begin_33 : decode cX5_begin 33 = .ok (.iconst 0, 1) := by decide +kernel
theorem dX5_begin_34 : decode cX5_begin 34 = .ok (.iastore, 1) := by decide +kernel
theorem dX5_begin_35 : decode cX5_begin 35 = .ok (.iinc 1 1, 3) := by decide +kernel
theorem dX5_begin_38 : decode cX5_begin 38 = .ok (.goto (-16), 3) := by decide +kernel
theorem dX5_begin_41 : decode cX5_begin 41 = .ok (.return_, 1) := by decide +kernel
theorem dX5_letterBehindBlanks_0 : decode cX5_letterBehindBlanks 0 = .ok (.aload_n 0, 1) := by decide +kernel
theorem dX5_letterBehindBlanks_1 : decode cX5_letterBehindBlanks 1 = .ok (.getfield 22, 3) := by decide +kernel
theorem dX5_letterBehindBlanks_4 : decode cX5_letterBehindBlanks 4 = .ok (.aload_n 0, 1) := by decide +kernel
theorem dX5_letterBehindBlanks_5 : decode cX5_letterBehindBlanks 5 = .ok (.getfield 18, 3) := by decide +kernel
theorem dX5_letterBehindBlanks_8 : decode cX5_letterBehindBlanks 8 = .ok (.if_icmp .ge 39, 3) := by decide +kernel
theorem dX5_letterBehindBlanks_11 : decode cX5_letterBehindBlanks 11 = .ok (.aload_n 0, 1) := by decide +kernel
theorem dX5_letterBehindBlanks_12 : decode cX5_letterBehindBlanks 12 = .ok (.getfield 22, 3) := by decide +kernel
theorem dX5_letterBehindBlanks_15 : decode cX5_letterBehindBlanks 15 = .ok (.bipush 100, 2) := by decide +kernel
theorem dX5_letterBehindBlanks_17 : decode cX5_letterBehindBlanks 17 = .ok (.if_icmp .ge 30, 3) := by decide +kernel
theorem dX5_letterBehindBlanks_20 : decode cX5_letterBehindBlanks 20 = .ok (.aload_n 0, 1) := by decide +kernel
theorem dX5_letterBehindBlanks_21 : decode cX5_letterBehindBlanks 21 = .ok (.getfield 9, 3) := by decide +kernel
theorem dX5_letterBehindBlanks_24 : decode cX5_letterBehindBlanks 24 = .ok (.aload_n 0, 1) := by decide +kernel
theorem dX5_letterBehindBlanks_25 : decode cX5_letterBehindBlanks 25 = .ok (.getfield 22, 3) := by decide +kernel
theorem dX5_letterBehindBlanks_28 : decode cX5_letterBehindBlanks 28 = .ok (.iaload, 1) := by decide +kernel
theorem dX5_letterBehindBlanks_29 : decode cX5_letterBehindBlanks 29 = .ok (.bipush 32, 2) := by decide +kernel
theorem dX5_letterBehindBlanks_31 : decode cX5_letterBehindBlanks 31 = .ok (.if_icmp .ne 16, 3) := by decide +kernel
theorem dX5_letterBehindBlanks_34 : decode cX5_letterBehindBlanks 34 = .ok (.aload_n 0, 1) := by decide +kernel
theorem dX5_letterBehindBlanks_35 : decode cX5_letterBehindBlanks 35 = .ok (.dup, 1) := by decide +kernel
theorem dX5_letterBehindBlanks_36 : decode cX5_letterBehindBlanks 36 = .ok (.getfield 22, 3) := by decide +kernel
theorem dX5_letterBehindBlanks_39 : decode cX5_letterBehindBlanks 39 = .ok (.iconst 1, 1) := by decide +kernel
theorem dX5_letterBehindBlanks_40 : decode cX5_letterBehindBlanks 40 = .ok (.iadd, 1) := by decide +kernel
theorem dX5_letterBehindBlanks_41 : decode cX5_letterBehindBlanks 41 = .ok (.putfield 22, 3) := by decide +kernel
theorem dX5_letterBehindBlanks_44 : decode cX5_letterBehindBlanks 44 = .ok (.goto (-44), 3) := by decide +kernel
theorem dX5_letterBehindBlanks_47 : decode cX5_letterBehindBlanks 47 = .ok (.aload_n 0, 1) := by decide +kernel
theorem dX5_letterBehindBlanks_48 : decode cX5_letterBehindBlanks 48 = .ok (.getfield 22, 3) := by decide +kernel
theorem dX5_letterBehindBlanks_51 : decode cX5_letterBehindBlanks 51 = .ok (.aload_n 0, 1) := by decide +kernel
theorem dX5_letterBehindBlanks_52 : decode cX5_letterBehindBlanks 52 = .ok (.getfield 18, 3) := by decide +kernel
theorem dX5_letterBehindBlanks_55 : decode cX5_letterBehindBlanks 55 = .ok (.if_icmp .ge 27, 3) := by decide +kernel
theorem dX5_letterBehindBlanks_58 : decode cX5_letterBehindBlanks 58 = .ok (.aload_n 0, 1) := by decide +kernel
theorem dX5_letterBehindBlanks_59 : decode cX5_letterBehindBlanks 59 = .ok (.getfield 22, 3) := by decide +kernel
theorem dX5_letterBehindBlanks_62 : decode cX5_letterBehindBlanks 62 = .ok (.bipush 100, 2) := by decide +kernel
theorem dX5_letterBehindBlanks_64 : decode cX5_letterBehindBlanks 64 = .ok (.invokestatic 34, 3) := by decide +kernel
theorem dX5_letterBehindBlanks_67 : decode cX5_letterBehindBlanks 67 = .ok (.ifCond .eq 15, 3) := by decide +kernel
theorem dX5_letterBehindBlanks_70 : decode cX5_letterBehindBlanks 70 = .ok (.aload_n 0, 1) := by decide +kernel
theorem dX5_letterBehindBlanks_71 : decode cX5_letterBehindBlanks 71 = .ok (.getfield 9, 3) := by decide +kernel
theorem dX5_letterBehindBlanks_74 : decode cX5_letterBehindBlanks 74 = .ok (.aload_n 0, 1) := by decide +kernel
theorem dX5_letterBehindBlanks_75 : decode cX5_letterBehindBlanks 75 = .ok (.getfield 22, 3) := by decide +kernel
theorem dX5_letterBehindBlanks_78 : decode cX5_letterBehindBlanks 78 = .ok (.iaload, 1) := by decide +kernel
theorem dX5_letterBehindBlanks_79 : decode cX5_letterBehindBlanks 79 = .ok (.goto 4, 3) := by decide +kernel
theorem dX5_letterBehindBlanks_82 : decode cX5_letterBehindBlanks 82 = .ok (.iconst 0, 1) := by decide +kernel
theorem dX5_letterBehindBlanks_83 : decode cX5_letterBehindBlanks 83 = .ok (.ireturn, 1) := by decide +kernel
theorem dX5_endLine_0 : decode cX5_endLine 0 = .ok (.aload_n 0, 1) := by decide +kernel
theorem dX5_endLine_1 : decode cX5_endLine 1 = .ok (.getfield 31, 3) := by decide +kernel
theorem dX5_endLine_4 : decode cX5_endLine 4 = .ok (.ifCond .eq 21, 3) := by decide +kernel
theorem dX5_endLine_7 : decode cX5_endLine 7 = .ok (.aload_n 0, 1) := by decide +kernel
theorem dX5_endLine_8 : decode cX5_endLine 8 = .ok (.getfield 28, 3) := by decide +kernel
theorem dX5_endLine_11 : decode cX5_endLine 11 = .ok (.ifCond .le 16, 3) := by decide +kernel
theorem dX5_endLine_14 : decode cX5_endLine 14 = .ok (.aload_n 0, 1) := by decide +kernel
theorem dX5_endLine_15 : decode cX5_endLine 15 = .ok (.getfield 31, 3) := by decide +kernel
theorem dX5_endLine_18 : decode cX5_endLine 18 = .ok (.aload_n 0, 1) := by decide +kernel
theorem dX5_endLine_19 : decode cX5_endLine 19 = .ok (.getfield 25, 3) := by decide +kernel
theorem dX5_endLine_22 : decode cX5_endLine 22 = .ok (.if_icmp .eq 5, 3) := by decide +kernel
theorem dX5_endLine_25 : decode cX5_endLine 25 = .ok (.iconst 0, 1) := by decide +kernel
theorem dX5_endLine_26 : decode cX5_endLine 26 = .ok (.ireturn, 1) := by decide +kernel
theorem dX5_endLine_27 : decode cX5_endLine 27 = .ok (.aload_n 0, 1) := by decide +kernel
theorem dX5_endLine_28 : decode cX5_endLine 28 = .ok (.aload_n 0, 1) := by decide +kernel
theorem dX5_endLine_29 : decode cX5_endLine 29 = .ok (.getfield 31, 3) := by decide +kernel
theorem dX5_endLine_32 : decode cX5_endLine 32 = .ok (.putfield 25, 3) := by decide +kernel
theorem dX5_endLine_35 : decode cX5_endLine 35 = .ok (.aload_n 0, 1) := by decide +kernel
theorem dX5_endLine_36 : decode cX5_endLine 36 = .ok (.iconst 0, 1) := by decide +kernel
theorem dX5_endLine_37 : decode cX5_endLine 37 = .ok (.putfield 31, 3) := by decide +kernel
theorem dX5_endLine_40 : decode cX5_endLine 40 = .ok (.aload_n 0, 1) := by decide +kernel
theorem dX5_endLine_41 : decode cX5_endLine 41 = .ok (.dup, 1) := by decide +kernel
theorem dX5_endLine_42 : decode cX5_endLine 42 = .ok (.getfield 28, 3) := by decide +kernel
theorem dX5_endLine_45 : decode cX5_endLine 45 = .ok (.iconst 1, 1) := by decide +kernel
theorem dX5_endLine_46 : decode cX5_endLine 46 = .ok (.iadd, 1) := by decide +kernel
theorem dX5_endLine_47 : decode cX5_endLine 47 = .ok (.putfield 28, 3) := by decide +kernel
theorem dX5_endLine_50 : decode cX5_endLine 50 = .ok (.iconst 1, 1) := by decide +kernel
theorem dX5_endLine_51 : decode cX5_endLine 51 = .ok (.ireturn, 1) := by decide +kernel
theorem dX5_readRun_0 : decode cX5_readRun 0 = .ok (.iload_n 1, 1) := by decide +kernel
theorem dX5_readRun_1 : decode cX5_readRun 1 = .ok (.bipush 49, 2) := by decide +kernel
theorem dX5_readRun_3 : decode cX5_readRun 3 = .ok (.if_icmp .lt 13, 3) := by decide +kernel
theorem dX5_readRun_6 : decode cX5_readRun 6 = .ok (.iload_n 1, 1) := by decide +kernel
theorem dX5_readRun_7 : decode cX5_readRun 7 = .ok (.bipush 56, 2) := by decide +kernel
theorem dX5_readRun_9 : decode cX5_readRun 9 = .ok (.if_icmp .gt 7, 3) := by decide +kernel
theorem dX5_readRun_12 : decode cX5_readRun 12 = .ok (.iconst 1, 1) := by decide +kernel
theorem dX5_readRun_13 : decode cX5_readRun 13 = .ok (.goto 4, 3) := by decide +kernel
theorem dX5_readRun_16 : decode cX5_readRun 16 = .ok (.iconst 0, 1) := by decide +kernel
theorem dX5_readRun_17 : decode cX5_readRun 17 = .ok (.istore_n 2, 1) := by decide +kernel
theorem dX5_readRun_18 : decode cX5_readRun 18 = .ok (.iload_n 2, 1) := by decide +kernel
theorem dX5_readRun_19 : decode cX5_readRun 19 = .ok (.ifCond .eq 10, 3) := by decide +kernel
theorem dX5_readRun_22 : decode cX5_readRun 22 = .ok (.iload_n 1, 1) := by decide +kernel
theorem dX5_readRun_23 : decode cX5_readRun 23 = .ok (.bipush 48, 2) := by decide +kernel
theorem dX5_readRun_25 : decode cX5_readRun 25 = .ok (.isub, 1) := by decide +kernel
theorem dX5_readRun_26 : decode cX5_readRun 26 = .ok (.goto 4, 3) := by decide +kernel
theorem dX5_readRun_29 : decode cX5_readRun 29 = .ok (.iconst 1, 1) := by decide +kernel
theorem dX5_readRun_30 : decode cX5_readRun 30 = .ok (.istore_n 3, 1) := by decide +kernel
theorem dX5_readRun_31 : decode cX5_readRun 31 = .ok (.aload_n 0, 1) := by decide +kernel
theorem dX5_readRun_32 : decode cX5_readRun 32 = .ok (.getfield 31, 3) := by decide +kernel
theorem dX5_readRun_35 : decode cX5_readRun 35 = .ok (.iload_n 3, 1) := by decide +kernel
theorem dX5_readRun_36 : decode cX5_readRun 36 = .ok (.iadd, 1) := by decide +kernel
theorem dX5_readRun_37 : decode cX5_readRun 37 = .ok (.aload_n 0, 1) := by decide +kernel
theorem dX5_readRun_38 : decode cX5_readRun 38 = .ok (.getfield 28, 3) := by decide +kernel
theorem dX5_readRun_41 : decode cX5_readRun 41 = .ok (.ifCond .ne 8, 3) := by decide +kernel
theorem dX5_readRun_44 : decode cX5_readRun 44 = .ok (.bipush 8, 2) := by decide +kernel
theorem dX5_readRun_46 : decode cX5_readRun 46 = .ok (.goto 7, 3) := by decide +kernel
theorem dX5_readRun_49 : decode cX5_readRun 49 = .ok (.aload_n 0, 1) := by decide +kernel
theorem dX5_readRun_50 : decode cX5_readRun 50 = .ok (.getfield 25, 3) := by decide +kernel
theorem dX5_readRun_53 : decode cX5_readRun 53 = .ok (.if_icmp .le 5, 3) := by decide +kernel
theorem dX5_readRun_56 : decode cX5_readRun 56 = .ok (.iconst 0, 1) := by decide +kernel
theorem dX5_readRun_57 : decode cX5_readRun 57 = .ok (.ireturn, 1) := by decide +kernel
theorem dX5_readRun_58 : decode cX5_readRun 58 = .ok (.iload_n 2, 1) := by decide +kernel
theorem dX5_readRun_59 : decode cX5_readRun 59 = .ok (.ifCond .eq 13, 3) := by decide +kernel
theorem dX5_readRun_62 : decode cX5_readRun 62 = .ok (.aload_n 0, 1) := by decide +kernel
theorem dX5_readRun_63 : decode cX5_readRun 63 = .ok (.dup, 1) := by decide +kernel
theorem dX5_readRun_64 : decode cX5_readRun 64 = .ok (.getfield 22, 3) := by decide +kernel
theorem dX5_readRun_67 : decode cX5_readRun 67 = .ok (.iconst 1, 1) := by decide +kernel
theorem dX5_readRun_68 : decode cX5_readRun 68 = .ok (.iadd, 1) := by decide +kernel
theorem dX5_readRun_69 : decode cX5_readRun 69 = .ok (.putfield 22, 3) := by decide +kernel
theorem dX5_readRun_72 : decode cX5_readRun 72 = .ok (.aload_n 0, 1) := by decide +kernel
theorem dX5_readRun_73 : decode cX5_readRun 73 = .ok (.aload_n 0, 1) := by decide +kernel
theorem dX5_readRun_74 : decode cX5_readRun 74 = .ok (.invokevirtual 41, 3) := by decide +kernel
theorem dX5_readRun_77 : decode cX5_readRun 77 = .ok (.invokevirtual 53, 3) := by decide +kernel
theorem dX5_readRun_80 : decode cX5_readRun 80 = .ok (.istore 4, 2) := by decide +kernel
theorem dX5_readRun_82 : decode cX5_readRun 82 = .ok (.iload 4, 2) := by decide +kernel
theorem dX5_readRun_84 : decode cX5_readRun 84 = .ok (.ifCond .ge 5, 3) := by decide +kernel
theorem dX5_readRun_87 : decode cX5_readRun 87 = .ok (.iconst 0, 1) := by decide +kernel
theorem dX5_readRun_88 : decode cX5_readRun 88 = .ok (.ireturn, 1) := by decide +kernel
theorem dX5_readRun_89 : decode cX5_readRun 89 = .ok (.iconst 0, 1) := by decide +kernel
theorem dX5_readRun_90 : decode cX5_readRun 90 = .ok (.istore 5, 2) := by decide +kernel
theorem dX5_readRun_92 : decode cX5_readRun 92 = .ok (.iload 5, 2) := by decide +kernel
theorem dX5_readRun_94 : decode cX5_readRun 94 = .ok (.iload_n 3, 1) := by decide +kernel
theorem dX5_readRun_95 : decode cX5_readRun 95 = .ok (.if_icmp .ge 15, 3) := by decide +kernel
theorem dX5_readRun_98 : decode cX5_readRun 98 = .ok (.aload_n 0, 1) := by decide +kernel
theorem dX5_readRun_99 : decode cX5_readRun 99 = .ok (.iload 4, 2) := by decide +kernel
theorem dX5_readRun_101 : decode cX5_readRun 101 = .ok (.invokevirtual 57, 3) := by decide +kernel
theorem dX5_readRun_104 : decode cX5_readRun 104 = .ok (.iinc 5 1, 3) := by decide +kernel
theorem dX5_readRun_107 : decode cX5_readRun 107 = .ok (.goto (-15), 3) := by decide +kernel
theorem dX5_readRun_110 : decode cX5_readRun 110 = .ok (.iconst 1, 1) := by decide +kernel
theorem dX5_readRun_111 : decode cX5_readRun 111 = .ok (.ireturn, 1) := by decide +kernel
theorem dX5_writeNext_0 : decode cX5_writeNext 0 = .ok (.aload_n 0, 1) := by decide +kernel
theorem dX5_writeNext_1 : decode cX5_writeNext 1 = .ok (.getfield 31, 3) := by decide +kernel
theorem dX5_writeNext_4 : decode cX5_writeNext 4 = .ok (.aload_n 0, 1) := by decide +kernel
theorem dX5_writeNext_5 : decode cX5_writeNext 5 = .ok (.getfield 28, 3) := by decide +kernel
theorem dX5_writeNext_8 : decode cX5_writeNext 8 = .ok (.invokestatic 61, 3) := by decide +kernel
theorem dX5_writeNext_11 : decode cX5_writeNext 11 = .ok (.istore_n 2, 1) := by decide +kernel
theorem dX5_writeNext_12 : decode cX5_writeNext 12 = .ok (.iload_n 2, 1) := by decide +kernel
theorem dX5_writeNext_13 : decode cX5_writeNext 13 = .ok (.bipush 48, 2) := by decide +kernel
theorem dX5_writeNext_15 : decode cX5_writeNext 15 = .ok (.invokestatic 34, 3) := by decide +kernel
theorem dX5_writeNext_18 : decode cX5_writeNext 18 = .ok (.ifCond .eq 10, 3) := by decide +kernel
theorem dX5_writeNext_21 : decode cX5_writeNext 21 = .ok (.aload_n 0, 1) := by decide +kernel
theorem dX5_writeNext_22 : decode cX5_writeNext 22 = .ok (.getfield 15, 3) := by decide +kernel
theorem dX5_writeNext_25 : decode cX5_writeNext 25 = .ok (.iload_n 2, 1) := by decide +kernel
theorem dX5_writeNext_26 : decode cX5_writeNext 26 = .ok (.iload_n 1, 1) := by decide +kernel
theorem dX5_writeNext_27 : decode cX5_writeNext 27 = .ok (.iastore, 1) := by decide +kernel
theorem dX5_writeNext_28 : decode cX5_writeNext 28 = .ok (.aload_n 0, 1) := by decide +kernel
theorem dX5_writeNext_29 : decode cX5_writeNext 29 = .ok (.dup, 1) := by decide +kernel
theorem dX5_writeNext_30 : decode cX5_writeNext 30 = .ok (.getfield 31, 3) := by decide +kernel
theorem dX5_writeNext_33 : decode cX5_writeNext 33 = .ok (.iconst 1, 1) := by decide +kernel
theorem dX5_writeNext_34 : decode cX5_writeNext 34 = .ok (.iadd, 1) := by decide +kernel
theorem dX5_writeNext_35 : decode cX5_writeNext 35 = .ok (.putfield 31, 3) := by decide +kernel
theorem dX5_writeNext_38 : decode cX5_writeNext 38 = .ok (.return_, 1) := by decide +kernel
theorem dX5_readSet_0 : decode cX5_readSet 0 = .ok (.iload_n 1, 1) := by decide +kernel
theorem dX5_readSet_1 : decode cX5_readSet 1 = .ok (.bipush 40, 2) := by decide +kernel
theorem dX5_readSet_3 : decode cX5_readSet 3 = .ok (.if_icmp .ne 18, 3) := by decide +kernel
theorem dX5_readSet_6 : decode cX5_readSet 6 = .ok (.aload_n 0, 1) := by decide +kernel
theorem dX5_readSet_7 : decode cX5_readSet 7 = .ok (.dup, 1) := by decide +kernel
theorem dX5_readSet_8 : decode cX5_readSet 8 = .ok (.getfield 22, 3) := by decide +kernel
theorem dX5_readSet_11 : decode cX5_readSet 11 = .ok (.iconst 1, 1) := by decide +kernel
theorem dX5_readSet_12 : decode cX5_readSet 12 = .ok (.iadd, 1) := by decide +kernel
theorem dX5_readSet_13 : decode cX5_readSet 13 = .ok (.putfield 22, 3) := by decide +kernel
theorem dX5_readSet_16 : decode cX5_readSet 16 = .ok (.aload_n 0, 1) := by decide +kernel
theorem dX5_readSet_17 : decode cX5_readSet 17 = .ok (.invokevirtual 67, 3) := by decide +kernel
theorem dX5_readSet_20 : decode cX5_readSet 20 = .ok (.ireturn, 1) := by decide +kernel
theorem dX5_readSet_21 : decode cX5_readSet 21 = .ok (.iload_n 1, 1) := by decide +kernel
theorem dX5_readSet_22 : decode cX5_readSet 22 = .ok (.bipush 46, 2) := by decide +kernel
theorem dX5_readSet_24 : decode cX5_readSet 24 = .ok (.if_icmp .eq 12, 3) := by decide +kernel
theorem dX5_readSet_27 : decode cX5_readSet 27 = .ok (.iload_n 1, 1) := by decide +kernel
theorem dX5_readSet_28 : decode cX5_readSet 28 = .ok (.invokestatic 70, 3) := by decide +kernel
theorem dX5_readSet_31 : decode cX5_readSet 31 = .ok (.ifCond .ne 5, 3) := by decide +kernel
theorem dX5_readSet_34 : decode cX5_readSet 34 = .ok (.iconst (-1), 1) := by decide +kernel
theorem dX5_readSet_35 : decode cX5_readSet 35 = .ok (.ireturn, 1) := by decide +kernel
theorem dX5_readSet_36 : decode cX5_readSet 36 = .ok (.aload_n 0, 1) := by decide +kernel
theorem dX5_readSet_37 : decode cX5_readSet 37 = .ok (.dup, 1) := by decide +kernel
theorem dX5_readSet_38 : decode cX5_readSet 38 = .ok (.getfield 22, 3) := by decide +kernel
theorem dX5_readSet_41 : decode cX5_readSet 41 = .ok (.iconst 1, 1) := by decide +kernel
theorem dX5_readSet_42 : decode cX5_readSet 42 = .ok (.iadd, 1) := by decide +kernel
theorem dX5_readSet_43 : decode cX5_readSet 43 = .ok (.putfield 22, 3) := by decide +kernel
theorem dX5_readSet_46 : decode cX5_readSet 46 = .ok (.iload_n 1, 1) := by decide +kernel
theorem dX5_readSet_47 : decode cX5_readSet 47 = .ok (.bipush 46, 2) := by decide +kernel
theorem dX5_readSet_49 : decode cX5_readSet 49 = .ok (.if_icmp .ne 7, 3) := by decide +kernel
theorem dX5_readSet_52 : decode cX5_readSet 52 = .ok (.iconst 0, 1) := by decide +kernel
theorem dX5_readSet_53 : decode cX5_readSet 53 = .ok (.goto 9, 3) := by decide +kernel
theorem dX5_readSet_56 : decode cX5_readSet 56 = .ok (.iconst 1, 1) := by decide +kernel
theorem dX5_readSet_57 : decode cX5_readSet 57 = .ok (.iload_n 1, 1) := by decide +kernel
theorem dX5_readSet_58 : decode cX5_readSet 58 = .ok (.bipush 97, 2) := by decide +kernel
theorem dX5_readSet_60 : decode cX5_readSet 60 = .ok (.isub, 1) := by decide +kernel
theorem dX5_readSet_61 : decode cX5_readSet 61 = .ok (.ishl, 1) := by decide +kernel
theorem dX5_readSet_62 : decode cX5_readSet 62 = .ok (.ireturn, 1) := by decide +kernel
theorem dX5_readManyInks_0 : decode cX5_readManyInks 0 = .ok (.iconst 0, 1) := by decide +kernel
theorem dX5_readManyInks_1 : decode cX5_readManyInks 1 = .ok (.istore_n 1, 1) := by decide +kernel
theorem dX5_readManyInks_2 : decode cX5_readManyInks 2 = .ok (.iconst 0, 1) := by decide +kernel
theorem dX5_readManyInks_3 : decode cX5_readManyInks 3 = .ok (.istore_n 2, 1) := by decide +kernel
theorem dX5_readManyInks_4 : decode cX5_readManyInks 4 = .ok (.iload_n 2, 1) := by decide +kernel
theorem dX5_readManyInks_5 : decode cX5_readManyInks 5 = .ok (.bipush 100, 2) := by decide +kernel
theorem dX5_readManyInks_7 : decode cX5_readManyInks 7 = .ok (.if_icmp .gt 64, 3) := by decide +kernel
theorem dX5_readManyInks_10 : decode cX5_readManyInks 10 = .ok (.aload_n 0, 1) := by decide +kernel
theorem dX5_readManyInks_11 : decode cX5_readManyInks 11 = .ok (.invokevirtual 41, 3) := by decide +kernel
theorem dX5_readManyInks_14 : decode cX5_readManyInks 14 = .ok (.istore_n 3, 1) := by decide +kernel
theorem dX5_readManyInks_15 : decode cX5_readManyInks 15 = .ok (.iload_n 3, 1) := by decide +kernel
theorem dX5_readManyInks_16 : decode cX5_readManyInks 16 = .ok (.bipush 41, 2) := by decide +kernel
theorem dX5_readManyInks_18 : decode cX5_readManyInks 18 = .ok (.if_icmp .ne 19, 3) := by decide +kernel
theorem dX5_readManyInks_21 : decode cX5_readManyInks 21 = .ok (.iload_n 1, 1) := by decide +kernel
theorem dX5_readManyInks_22 : decode cX5_readManyInks 22 = .ok (.ifCond .eq 15, 3) := by decide +kernel
theorem dX5_readManyInks_25 : decode cX5_readManyInks 25 = .ok (.aload_n 0, 1) := by decide +kernel
theorem dX5_readManyInks_26 : decode cX5_readManyInks 26 = .ok (.dup, 1) := by decide +kernel
theorem dX5_readManyInks_27 : decode cX5_readManyInks 27 = .ok (.getfield 22, 3) := by decide +kernel
theorem dX5_readManyInks_30 : decode cX5_readManyInks 30 = .ok (.iconst 1, 1) := by decide +kernel
theorem dX5_readManyInks_31 : decode cX5_readManyInks 31 = .ok (.iadd, 1) := by decide +kernel
theorem dX5_readManyInks_32 : decode cX5_readManyInks 32 = .ok (.putfield 22, 3) := by decide +kernel
theorem dX5_readManyInks_35 : decode cX5_readManyInks 35 = .ok (.iload_n 1, 1) := by decide +kernel
theorem dX5_readManyInks_36 : decode cX5_readManyInks 36 = .ok (.ireturn, 1) := by decide +kernel
theorem dX5_readManyInks_37 : decode cX5_readManyInks 37 = .ok (.iload_n 3, 1) := by decide +kernel
theorem dX5_readManyInks_38 : decode cX5_readManyInks 38 = .ok (.invokestatic 70, 3) := by decide +kernel
theorem dX5_readManyInks_41 : decode cX5_readManyInks 41 = .ok (.ifCond .ne 5, 3) := by decide +kernel
theorem dX5_readManyInks_44 : decode cX5_readManyInks 44 = .ok (.iconst (-1), 1) := by decide +kernel
theorem dX5_readManyInks_45 : decode cX5_readManyInks 45 = .ok (.ireturn, 1) := by decide +kernel
theorem dX5_readManyInks_46 : decode cX5_readManyInks 46 = .ok (.iload_n 1, 1) := by decide +kernel
theorem dX5_readManyInks_47 : decode cX5_readManyInks 47 = .ok (.iconst 1, 1) := by decide +kernel
theorem dX5_readManyInks_48 : decode cX5_readManyInks 48 = .ok (.iload_n 3, 1) := by decide +kernel
theorem dX5_readManyInks_49 : decode cX5_readManyInks 49 = .ok (.bipush 97, 2) := by decide +kernel
theorem dX5_readManyInks_51 : decode cX5_readManyInks 51 = .ok (.isub, 1) := by decide +kernel
theorem dX5_readManyInks_52 : decode cX5_readManyInks 52 = .ok (.ishl, 1) := by decide +kernel
theorem dX5_readManyInks_53 : decode cX5_readManyInks 53 = .ok (.ior, 1) := by decide +kernel
theorem dX5_readManyInks_54 : decode cX5_readManyInks 54 = .ok (.istore_n 1, 1) := by decide +kernel
theorem dX5_readManyInks_55 : decode cX5_readManyInks 55 = .ok (.aload_n 0, 1) := by decide +kernel
theorem dX5_readManyInks_56 : decode cX5_readManyInks 56 = .ok (.dup, 1) := by decide +kernel
theorem dX5_readManyInks_57 : decode cX5_readManyInks 57 = .ok (.getfield 22, 3) := by decide +kernel
theorem dX5_readManyInks_60 : decode cX5_readManyInks 60 = .ok (.iconst 1, 1) := by decide +kernel
theorem dX5_readManyInks_61 : decode cX5_readManyInks 61 = .ok (.iadd, 1) := by decide +kernel
theorem dX5_readManyInks_62 : decode cX5_readManyInks 62 = .ok (.putfield 22, 3) := by decide +kernel
theorem dX5_readManyInks_65 : decode cX5_readManyInks 65 = .ok (.iinc 2 1, 3) := by decide +kernel
theorem dX5_readManyInks_68 : decode cX5_readManyInks 68 = .ok (.goto (-64), 3) := by decide +kernel
theorem dX5_readManyInks_71 : decode cX5_readManyInks 71 = .ok (.iconst (-1), 1) := by decide +kernel
theorem dX5_readManyInks_72 : decode cX5_readManyInks 72 = .ok (.ireturn, 1) := by decide +kernel
theorem dX5_isInkLetter_0 : decode cX5_isInkLetter 0 = .ok (.iload_n 0, 1) := by decide +kernel
theorem dX5_isInkLetter_1 : decode cX5_isInkLetter 1 = .ok (.bipush 97, 2) := by decide +kernel
theorem dX5_isInkLetter_3 : decode cX5_isInkLetter 3 = .ok (.if_icmp .lt 13, 3) := by decide +kernel
theorem dX5_isInkLetter_6 : decode cX5_isInkLetter 6 = .ok (.iload_n 0, 1) := by decide +kernel
theorem dX5_isInkLetter_7 : decode cX5_isInkLetter 7 = .ok (.bipush 101, 2) := by decide +kernel
theorem dX5_isInkLetter_9 : decode cX5_isInkLetter 9 = .ok (.if_icmp .gt 7, 3) := by decide +kernel
theorem dX5_isInkLetter_12 : decode cX5_isInkLetter 12 = .ok (.iconst 1, 1) := by decide +kernel
theorem dX5_isInkLetter_13 : decode cX5_isInkLetter 13 = .ok (.goto 4, 3) := by decide +kernel
theorem dX5_isInkLetter_16 : decode cX5_isInkLetter 16 = .ok (.iconst 0, 1) := by decide +kernel
theorem dX5_isInkLetter_17 : decode cX5_isInkLetter 17 = .ok (.ireturn, 1) := by decide +kernel
theorem dJ6_bitCount_0f7a4_0 : decode cJ6_bitCount_0f7a4 0 = .ok (.iload_n 0, 1) := by decide +kernel
theorem dJ6_bitCount_0f7a4_1 : decode cJ6_bitCount_0f7a4 1 = .ok (.iload_n 0, 1) := by decide +kernel
theorem dJ6_bitCount_0f7a4_2 : decode cJ6_bitCount_0f7a4 2 = .ok (.iconst 1, 1) := by decide +kernel
theorem dJ6_bitCount_0f7a4_3 : decode cJ6_bitCount_0f7a4 3 = .ok (.iushr, 1) := by decide +kernel
theorem dJ6_bitCount_0f7a4_4 : decode cJ6_bitCount_0f7a4 4 = .ok (.ldc_w 265, 3) := by decide +kernel
theorem dJ6_bitCount_0f7a4_7 : decode cJ6_bitCount_0f7a4 7 = .ok (.iand, 1) := by decide +kernel
theorem dJ6_bitCount_0f7a4_8 : decode cJ6_bitCount_0f7a4 8 = .ok (.isub, 1) := by decide +kernel
theorem dJ6_bitCount_0f7a4_9 : decode cJ6_bitCount_0f7a4 9 = .ok (.istore_n 0, 1) := by decide +kernel
theorem dJ6_bitCount_0f7a4_10 : decode cJ6_bitCount_0f7a4 10 = .ok (.iload_n 0, 1) := by decide +kernel
theorem dJ6_bitCount_0f7a4_11 : decode cJ6_bitCount_0f7a4 11 = .ok (.ldc_w 266, 3) := by decide +kernel
theorem dJ6_bitCount_0f7a4_14 : decode cJ6_bitCount_0f7a4 14 = .ok (.iand, 1) := by decide +kernel
theorem dJ6_bitCount_0f7a4_15 : decode cJ6_bitCount_0f7a4 15 = .ok (.iload_n 0, 1) := by decide +kernel
theorem dJ6_bitCount_0f7a4_16 : decode cJ6_bitCount_0f7a4 16 = .ok (.iconst 2, 1) := by decide +kernel
theorem dJ6_bitCount_0f7a4_17 : decode cJ6_bitCount_0f7a4 17 = .ok (.iushr, 1) := by decide +kernel
theorem dJ6_bitCount_0f7a4_18 : decode cJ6_bitCount_0f7a4 18 = .ok (.ldc_w 266, 3) := by decide +kernel
theorem dJ6_bitCount_0f7a4_21 : decode cJ6_bitCount_0f7a4 21 = .ok (.iand, 1) := by decide +kernel
theorem dJ6_bitCount_0f7a4_22 : decode cJ6_bitCount_0f7a4 22 = .ok (.iadd, 1) := by decide +kernel
theorem dJ6_bitCount_0f7a4_23 : decode cJ6_bitCount_0f7a4 23 = .ok (.istore_n 0, 1) := by decide +kernel
theorem dJ6_bitCount_0f7a4_24 : decode cJ6_bitCount_0f7a4 24 = .ok (.iload_n 0, 1) := by decide +kernel
theorem dJ6_bitCount_0f7a4_25 : decode cJ6_bitCount_0f7a4 25 = .ok (.iload_n 0, 1) := by decide +kernel
theorem dJ6_bitCount_0f7a4_26 : decode cJ6_bitCount_0f7a4 26 = .ok (.iconst 4, 1) := by decide +kernel
theorem dJ6_bitCount_0f7a4_27 : decode cJ6_bitCount_0f7a4 27 = .ok (.iushr, 1) := by decide +kernel
theorem dJ6_bitCount_0f7a4_28 : decode cJ6_bitCount_0f7a4 28 = .ok (.iadd, 1) := by decide +kernel
theorem dJ6_bitCount_0f7a4_29 : decode cJ6_bitCount_0f7a4 29 = .ok (.ldc_w 267, 3) := by decide +kernel
theorem dJ6_bitCount_0f7a4_32 : decode cJ6_bitCount_0f7a4 32 = .ok (.iand, 1) := by decide +kernel
theorem dJ6_bitCount_0f7a4_33 : decode cJ6_bitCount_0f7a4 33 = .ok (.istore_n 0, 1) := by decide +kernel
theorem dJ6_bitCount_0f7a4_34 : decode cJ6_bitCount_0f7a4 34 = .ok (.iload_n 0, 1) := by decide +kernel
theorem dJ6_bitCount_0f7a4_35 : decode cJ6_bitCount_0f7a4 35 = .ok (.iload_n 0, 1) := by decide +kernel
theorem dJ6_bitCount_0f7a4_36 : decode cJ6_bitCount_0f7a4 36 = .ok (.bipush 8, 2) := by decide +kernel
theorem dJ6_bitCount_0f7a4_38 : decode cJ6_bitCount_0f7a4 38 = .ok (.iushr, 1) := by decide +kernel
theorem dJ6_bitCount_0f7a4_39 : decode cJ6_bitCount_0f7a4 39 = .ok (.iadd, 1) := by decide +kernel
theorem dJ6_bitCount_0f7a4_40 : decode cJ6_bitCount_0f7a4 40 = .ok (.istore_n 0, 1) := by decide +kernel
theorem dJ6_bitCount_0f7a4_41 : decode cJ6_bitCount_0f7a4 41 = .ok (.iload_n 0, 1) := by decide +kernel
theorem dJ6_bitCount_0f7a4_42 : decode cJ6_bitCount_0f7a4 42 = .ok (.iload_n 0, 1) := by decide +kernel
theorem dJ6_bitCount_0f7a4_43 : decode cJ6_bitCount_0f7a4 43 = .ok (.bipush 16, 2) := by decide +kernel
theorem dJ6_bitCount_0f7a4_45 : decode cJ6_bitCount_0f7a4 45 = .ok (.iushr, 1) := by decide +kernel
theorem dJ6_bitCount_0f7a4_46 : decode cJ6_bitCount_0f7a4 46 = .ok (.iadd, 1) := by decide +kernel
theorem dJ6_bitCount_0f7a4_47 : decode cJ6_bitCount_0f7a4 47 = .ok (.istore_n 0, 1) := by decide +kernel
theorem dJ6_bitCount_0f7a4_48 : decode cJ6_bitCount_0f7a4 48 = .ok (.iload_n 0, 1) := by decide +kernel
theorem dJ6_bitCount_0f7a4_49 : decode cJ6_bitCount_0f7a4 49 = .ok (.bipush 63, 2) := by decide +kernel
theorem dJ6_bitCount_0f7a4_51 : decode cJ6_bitCount_0f7a4 51 = .ok (.iand, 1) := by decide +kernel
theorem dJ6_bitCount_0f7a4_52 : decode cJ6_bitCount_0f7a4 52 = .ok (.ireturn, 1) := by decide +kernel
theorem dJ9_max_7cf53_0 : decode cJ9_max_7cf53 0 = .ok (.iload_n 0, 1) := by decide +kernel
theorem dJ9_max_7cf53_1 : decode cJ9_max_7cf53 1 = .ok (.iload_n 1, 1) := by decide +kernel
theorem dJ9_max_7cf53_2 : decode cJ9_max_7cf53 2 = .ok (.if_icmp .lt 7, 3) := by decide +kernel
theorem dJ9_max_7cf53_5 : decode cJ9_max_7cf53 5 = .ok (.iload_n 0, 1) := by decide +kernel
theorem dJ9_max_7cf53_6 : decode cJ9_max_7cf53 6 = .ok (.goto 4, 3) := by decide +kernel
theorem dJ9_max_7cf53_9 : decode cJ9_max_7cf53 9 = .ok (.iload_n 1, 1) := by decide +kernel
theorem dJ9_max_7cf53_10 : decode cJ9_max_7cf53 10 = .ok (.ireturn, 1) := by decide +kernel
theorem dJ9_min_7cf53_0 : decode cJ9_min_7cf53 0 = .ok (.iload_n 0, 1) := by decide +kernel
theorem dJ9_min_7cf53_1 : decode cJ9_min_7cf53 1 = .ok (.iload_n 1, 1) := by decide +kernel
theorem dJ9_min_7cf53_2 : decode cJ9_min_7cf53 2 = .ok (.if_icmp .gt 7, 3) := by decide +kernel
theorem dJ9_min_7cf53_5 : decode cJ9_min_7cf53 5 = .ok (.iload_n 0, 1) := by decide +kernel
theorem dJ9_min_7cf53_6 : decode cJ9_min_7cf53 6 = .ok (.goto 4, 3) := by decide +kernel
theorem dJ9_min_7cf53_9 : decode cJ9_min_7cf53 9 = .ok (.iload_n 1, 1) := by decide +kernel
theorem dJ9_min_7cf53_10 : decode cJ9_min_7cf53 10 = .ok (.ireturn, 1) := by decide +kernel
