theorem dX6_init_0 : decode cX6_init 0 = .ok (.aload_n 0, 1) := by decide +kernel
theorem dX6_init_1 : decode cX6_init 1 = .ok (.invokespecial 1, 3) := by decide +kernel
theorem dX6_init_4 : decode cX6_init 4 = .ok (.aload_n 0, 1) := by decide +kernel
theorem dX6_init_5 : decode cX6_init 5 = .ok (.new 7, 3) := by decide +kernel
theorem dX6_init_8 : decode cX6_init 8 = .ok (.dup, 1) := by decide +kernel
theorem dX6_init_9 : decode cX6_init 9 = .ok (.invokespecial 9, 3) := by decide +kernel
theorem dX6_init_12 : decode cX6_init 12 = .ok (.putfield 10, 3) := by decide +kernel
theorem dX6_init_15 : decode cX6_init 15 = .ok (.aload_n 0, 1) := by decide +kernel
theorem dX6_init_16 : decode cX6_init 16 = .ok (.new 16, 3) := by decide +kernel
theorem dX6_init_19 : decode cX6_init 19 = .ok (.dup, 1) := by decide +kernel
theorem dX6_init_20 : decode cX6_init 20 = .ok (.invokespecial 18, 3) := by decide +kernel
theorem dX6_init_23 : decode cX6_init 23 = .ok (.putfield 19, 3) := by decide +kernel
theorem dX6_init_26 : decode cX6_init 26 = .ok (.aload_n 0, 1) := by decide +kernel
theorem dX6_init_27 : decode cX6_init 27 = .ok (.new 7, 3) := by decide +kernel
theorem dX6_init_30 : decode cX6_init 30 = .ok (.dup, 1) := by decide +kernel
theorem dX6_init_31 : decode cX6_init 31 = .ok (.invokespecial 9, 3) := by decide +kernel
theorem dX6_init_34 : decode cX6_init 34 = .ok (.putfield 23, 3) := by decide +kernel
theorem dX6_init_37 : decode cX6_init 37 = .ok (.aload_n 0, 1) := by decide +kernel
theorem dX6_init_38 : decode cX6_init 38 = .ok (.new 16, 3) := by decide +kernel
theorem dX6_init_41 : decode cX6_init 41 = .ok (.dup, 1) := by decide +kernel
theorem dX6_init_42 : decode cX6_init 42 = .ok (.invokespecial 18, 3) := by decide +kernel
theorem dX6_init_45 : decode cX6_init 45 = .ok (.putfield 26, 3) := by decide +kernel
theorem dX6_init_48 : decode cX6_init 48 = .ok (.aload_n 0, 1) := by decide +kernel
theorem dX6_init_49 : decode cX6_init 49 = .ok (.iconst 0, 1) := by decide +kernel
theorem dX6_init_50 : decode cX6_init 50 = .ok (.putfield 29, 3) := by decide +kernel
theorem dX6_init_53 : decode cX6_init 53 = .ok (.aload_n 0, 1) := by decide +kernel
theorem dX6_init_54 : decode cX6_init 54 = .ok (.new 33, 3) := by decide +kernel
theorem dX6_init_57 : decode cX6_init 57 = .ok (.dup, 1) := by decide +kernel
theorem dX6_init_58 : decode cX6_init 58 = .ok (.invokespecial 35, 3) := by decide +kernel
theorem dX6_init_61 : decode cX6_init 61 = .ok (.putfield 36, 3) := by decide +kernel
theorem dX6_init_64 : decode cX6_init 64 = .ok (.aload_n 0, 1) := by decide +kernel
theorem dX6_init_65 : decode cX6_init 65 = .ok (.new 40, 3) := by decide +kernel
theorem dX6_init_68 : decode cX6_init 68 = .ok (.dup, 1) := by decide +kernel
theorem dX6_init_69 : decode cX6_init 69 = .ok (.invokespecial 42, 3) := by decide +kernel
theorem dX6_init_72 : decode cX6_init 72 = .ok (.putfield 43, 3) := by decide +kernel
theorem dX6_init_75 : decode cX6_init 75 = .ok (.aload_n 0, 1) := by decide +kernel
theorem dX6_init_76 : decode cX6_init 76 = .ok (.new 47, 3) := by decide +kernel
theorem dX6_init_79 : decode cX6_init 79 = .ok (.dup, 1) := by decide +kernel
theorem dX6_init_80 : decode cX6_init 80 = .ok (.invokespecial 49, 3) := by decide +kernel
theorem dX6_init_83 : decode cX6_init 83 = .ok (.putfield 50, 3) := by decide +kernel
theorem dX6_init_86 : decode cX6_init 86 = .ok (.aload_n 0, 1) := by decide +kernel
theorem dX6_init_87 : decode cX6_init 87 = .ok (.iconst 4, 1) := by decide +kernel
theorem dX6_init_88 : decode cX6_init 88 = .ok (.anewarray 54, 3) := by decide +kernel
theorem dX6_init_91 : decode cX6_init 91 = .ok (.putfield 56, 3) := by decide +kernel
theorem dX6_init_94 : decode cX6_init 94 = .ok (.aload_n 0, 1) := by decide +kernel
theorem dX6_init_95 : decode cX6_init 95 = .ok (.bipush 48, 2) := by decide +kernel
theorem dX6_init_97 : decode cX6_init 97 = .ok (.newarray .int, 2) := by decide +kernel
theorem dX6_init_99 : decode cX6_init 99 = .ok (.putfield 60, 3) := by decide +kernel
theorem dX6_init_102 : decode cX6_init 102 = .ok (.aload_n 0, 1) := by decide +kernel
theorem dX6_init_103 : decode cX6_init 103 = .ok (.iconst 5, 1) := by decide +kernel
theorem dX6_init_104 : decode cX6_init 104 = .ok (.newarray .int, 2) := by decide +kernel
theorem dX6_init_106 : decode cX6_init 106 = .ok (.putfield 64, 3) := by decide +kernel
theorem dX6_init_109 : decode cX6_init 109 = .ok (.aload_n 0, 1) := by decide +kernel
theorem dX6_init_110 : decode cX6_init 110 = .ok (.iconst 5, 1) := by decide +kernel
theorem dX6_init_111 : decode cX6_init 111 = .ok (.newarray .int, 2) := by decide +kernel
theorem dX6_init_113 : decode cX6_init 113 = .ok (.putfield 67, 3) := by decide +kernel
theorem dX6_init_116 : decode cX6_init 116 = .ok (.iconst 0, 1) := by decide +kernel
theorem dX6_init_117 : decode cX6_init 117 = .ok (.istore_n 1, 1) := by decide +kernel
theorem dX6_init_118 : decode cX6_init 118 = .ok (.iload_n 1, 1) := by decide +kernel
theorem dX6_init_119 : decode cX6_init 119 = .ok (.iconst 4, 1) := by decide +kernel
theorem dX6_init_120 : decode cX6_init 120 = .ok (.if_icmp .ge 22, 3) := by decide +kernel
theorem dX6_init_123 : decode cX6_init 123 = .ok (.aload_n 0, 1) := by decide +kernel
theorem dX6_init_124 : decode cX6_init 124 = .ok (.getfield 56, 3) := by decide +kernel
theorem dX6_init_127 : decode cX6_init 127 = .ok (.iload_n 1, 1) := by decide +kernel
theorem dX6_init_128 : decode cX6_init 128 = .ok (.new 54, 3) := by decide +kernel
theorem dX6_init_131 : decode cX6_init 131 = .ok (.dup, 1) := by decide +kernel
theorem dX6_init_132 : decode cX6_init 132 = .ok (.invokespecial 70, 3) := by decide +kernel
theorem dX6_init_135 : decode cX6_init 135 = .ok (.aastore, 1) := by decide +kernel
theorem dX6_init_136 : decode cX6_init 136 = .ok (.iinc 1 1, 3) := by decide +kernel
theorem dX6_init_139 : decode cX6_init 139 = .ok (.goto (-21), 3) := by decide +kernel
theorem dX6_init_142 : decode cX6_init 142 = .ok (.return_, 1) := by decide +kernel
theorem dX6_ink_0 : decode cX6_ink 0 = .ok (.iload_n 1, 1) := by decide +kernel
theorem dX6_ink_1 : decode cX6_ink 1 = .ok (.iconst 5, 1) := by decide +kernel
theorem dX6_ink_2 : decode cX6_ink 2 = .ok (.invokestatic 71, 3) := by decide +kernel
theorem dX6_ink_5 : decode cX6_ink 5 = .ok (.ifCond .ne 5, 3) := by decide +kernel
theorem dX6_ink_8 : decode cX6_ink 8 = .ok (.iconst (-1), 1) := by decide +kernel
theorem dX6_ink_9 : decode cX6_ink 9 = .ok (.ireturn, 1) := by decide +kernel
theorem dX6_ink_10 : decode cX6_ink 10 = .ok (.iload_n 2, 1) := by decide +kernel
theorem dX6_ink_11 : decode cX6_ink 11 = .ok (.tableswitch 82 0 4 #[33, 43, 53, 62, 73], 33) := by decide +kernel
theorem dX6_ink_44 : decode cX6_ink 44 = .ok (.aload_n 0, 1) := by decide +kernel
theorem dX6_ink_45 : decode cX6_ink 45 = .ok (.getfield 10, 3) := by decide +kernel
theorem dX6_ink_48 : decode cX6_ink 48 = .ok (.getfield 75, 3) := by decide +kernel
theorem dX6_ink_51 : decode cX6_ink 51 = .ok (.iload_n 1, 1) := by decide +kernel
theorem dX6_ink_52 : decode cX6_ink 52 = .ok (.iaload, 1) := by decide +kernel
theorem dX6_ink_53 : decode cX6_ink 53 = .ok (.ireturn, 1) := by decide +kernel
theorem dX6_ink_54 : decode cX6_ink 54 = .ok (.aload_n 0, 1) := by decide +kernel
theorem dX6_ink_55 : decode cX6_ink 55 = .ok (.getfield 10, 3) := by decide +kernel
theorem dX6_ink_58 : decode cX6_ink 58 = .ok (.getfield 78, 3) := by decide +kernel
theorem dX6_ink_61 : decode cX6_ink 61 = .ok (.iload_n 1, 1) := by decide +kernel
theorem dX6_ink_62 : decode cX6_ink 62 = .ok (.iaload, 1) := by decide +kernel
theorem dX6_ink_63 : decode cX6_ink 63 = .ok (.ireturn, 1) := by decide +kernel
theorem dX6_ink_64 : decode cX6_ink 64 = .ok (.aload_n 0, 1) := by decide +kernel
theorem dX6_ink_65 : decode cX6_ink 65 = .ok (.getfield 10, 3) := by decide +kernel
theorem dX6_ink_68 : decode cX6_ink 68 = .ok (.iload_n 1, 1) := by decide +kernel
theorem dX6_ink_69 : decode cX6_ink 69 = .ok (.invokevirtual 81, 3) := by decide +kernel
theorem dX6_ink_72 : decode cX6_ink 72 = .ok (.ireturn, 1) := by decide +kernel
theorem dX6_ink_73 : decode cX6_ink 73 = .ok (.aload_n 0, 1) := by decide +kernel
theorem dX6_ink_74 : decode cX6_ink 74 = .ok (.iconst 1, 1) := by decide +kernel
theorem dX6_ink_75 : decode cX6_ink 75 = .ok (.iload_n 1, 1) := by decide +kernel
theorem dX6_ink_76 : decode cX6_ink 76 = .ok (.ishl, 1) := by decide +kernel
theorem dX6_ink_77 : decode cX6_ink 77 = .ok (.invokevirtual 85, 3) := by decide +kernel
theorem dX6_ink_80 : decode cX6_ink 80 = .ok (.invokestatic 88, 3) := by decide +kernel
theorem dX6_ink_83 : decode cX6_ink 83 = .ok (.ireturn, 1) := by decide +kernel
theorem dX6_ink_84 : decode cX6_ink 84 = .ok (.aload_n 0, 1) := by decide +kernel
theorem dX6_ink_85 : decode cX6_ink 85 = .ok (.getfield 10, 3) := by decide +kernel
theorem dX6_ink_88 : decode cX6_ink 88 = .ok (.iload_n 1, 1) := by decide +kernel
theorem dX6_ink_89 : decode cX6_ink 89 = .ok (.invokevirtual 91, 3) := by decide +kernel
theorem dX6_ink_92 : decode cX6_ink 92 = .ok (.ireturn, 1) := by decide +kernel
theorem dX6_ink_93 : decode cX6_ink 93 = .ok (.iconst (-1), 1) := by decide +kernel
theorem dX6_ink_94 : decode cX6_ink 94 = .ok (.ireturn, 1) := by decide +kernel
theorem dX6_set_0 : decode cX6_set 0 = .ok (.iload_n 1, 1) := by decide +kernel
theorem dX6_set_1 : decode cX6_set 1 = .ok (.bipush 32, 2) := by decide +kernel
theorem dX6_set_3 : decode cX6_set 3 = .ok (.invokestatic 71, 3) := by decide +kernel
theorem dX6_set_6 : decode cX6_set 6 = .ok (.ifCond .ne 5, 3) := by decide +kernel
theorem dX6_set_9 : decode cX6_set 9 = .ok (.iconst (-1), 1) := by decide +kernel
theorem dX6_set_10 : decode cX6_set 10 = .ok (.ireturn, 1) := by decide +kernel
theorem dX6_set_11 : decode cX6_set 11 = .ok (.iload_n 2, 1) := by decide +kernel
theorem dX6_set_12 : decode cX6_set 12 = .ok (.tableswitch 62 0 3 #[32, 38, 47, 53], 32) := by decide +kernel
theorem dX6_set_44 : decode cX6_set 44 = .ok (.aload_n 0, 1) := by decide +kernel
theorem dX6_set_45 : decode cX6_set 45 = .ok (.iload_n 1, 1) := by decide +kernel
theorem dX6_set_46 : decode cX6_set 46 = .ok (.invokevirtual 85, 3) := by decide +kernel
theorem dX6_set_49 : decode cX6_set 49 = .ok (.ireturn, 1) := by decide +kernel
theorem dX6_set_50 : decode cX6_set 50 = .ok (.aload_n 0, 1) := by decide +kernel
theorem dX6_set_51 : decode cX6_set 51 = .ok (.iload_n 1, 1) := by decide +kernel
theorem dX6_set_52 : decode cX6_set 52 = .ok (.invokevirtual 85, 3) := by decide +kernel
theorem dX6_set_55 : decode cX6_set 55 = .ok (.invokestatic 88, 3) := by decide +kernel
theorem dX6_set_58 : decode cX6_set 58 = .ok (.ireturn, 1) := by decide +kernel
theorem dX6_set_59 : decode cX6_set 59 = .ok (.aload_n 0, 1) := by decide +kernel
theorem dX6_set_60 : decode cX6_set 60 = .ok (.iload_n 1, 1) := by decide +kernel
theorem dX6_set_61 : decode cX6_set 61 = .ok (.invokevirtual 94, 3) := by decide +kernel
theorem dX6_set_64 : decode cX6_set 64 = .ok (.ireturn, 1) := by decide +kernel
theorem dX6_set_65 : decode cX6_set 65 = .ok (.aload_n 0, 1) := by decide +kernel
theorem dX6_set_66 : decode cX6_set 66 = .ok (.getfield 10, 3) := by decide +kernel
theorem dX6_set_69 : decode cX6_set 69 = .ok (.iload_n 1, 1) := by decide +kernel
theorem dX6_set_70 : decode cX6_set 70 = .ok (.invokevirtual 97, 3) := by decide +kernel
theorem dX6_set_73 : decode cX6_set 73 = .ok (.ireturn, 1) := by decide +kernel
theorem dX6_set_74 : decode cX6_set 74 = .ok (.iconst (-1), 1) := by decide +kernel
theorem dX6_set_75 : decode cX6_set 75 = .ok (.ireturn, 1) := by decide +kernel
theorem dX6_place_0 : decode cX6_place 0 = .ok (.aload_n 0, 1) := by decide +kernel
theorem dX6_place_1 : decode cX6_place 1 = .ok (.getfield 10, 3) := by decide +kernel
theorem dX6_place_4 : decode cX6_place 4 = .ok (.iload_n 1, 1) := by decide +kernel
theorem dX6_place_5 : decode cX6_place 5 = .ok (.iload_n 2, 1) := by decide +kernel
theorem dX6_place_6 : decode cX6_place 6 = .ok (.invokevirtual 100, 3) := by decide +kernel
theorem dX6_place_9 : decode cX6_place 9 = .ok (.ifCond .ne 5, 3) := by decide +kernel
theorem dX6_place_12 : decode cX6_place 12 = .ok (.iconst (-1), 1) := by decide +kernel
theorem dX6_place_13 : decode cX6_place 13 = .ok (.ireturn, 1) := by decide +kernel
theorem dX6_place_14 : decode cX6_place 14 = .ok (.iload_n 3, 1) := by decide +kernel
theorem dX6_place_15 : decode cX6_place 15 = .ok (.tableswitch 70 0 2 #[25, 35, 49], 25) := by decide +kernel
theorem dX6_place_40 : decode cX6_place 40 = .ok (.aload_n 0, 1) := by decide +kernel
theorem dX6_place_41 : decode cX6_place 41 = .ok (.getfield 10, 3) := by decide +kernel
theorem dX6_place_44 : decode cX6_place 44 = .ok (.iload_n 1, 1) := by decide +kernel
theorem dX6_place_45 : decode cX6_place 45 = .ok (.iload_n 2, 1) := by decide +kernel
theorem dX6_place_46 : decode cX6_place 46 = .ok (.invokevirtual 103, 3) := by decide +kernel
theorem dX6_place_49 : decode cX6_place 49 = .ok (.ireturn, 1) := by decide +kernel
theorem dX6_place_50 : decode cX6_place 50 = .ok (.aload_n 0, 1) := by decide +kernel
theorem dX6_place_51 : decode cX6_place 51 = .ok (.aload_n 0, 1) := by decide +kernel
theorem dX6_place_52 : decode cX6_place 52 = .ok (.getfield 10, 3) := by decide +kernel
theorem dX6_place_55 : decode cX6_place 55 = .ok (.iload_n 1, 1) := by decide +kernel
theorem dX6_place_56 : decode cX6_place 56 = .ok (.iload_n 2, 1) := by decide +kernel
theorem dX6_place_57 : decode cX6_place 57 = .ok (.invokevirtual 103, 3) := by decide +kernel
theorem dX6_place_60 : decode cX6_place 60 = .ok (.invokevirtual 85, 3) := by decide +kernel
theorem dX6_place_63 : decode cX6_place 63 = .ok (.ireturn, 1) := by decide +kernel
theorem dX6_place_64 : decode cX6_place 64 = .ok (.aload_n 0, 1) := by decide +kernel
theorem dX6_place_65 : decode cX6_place 65 = .ok (.getfield 43, 3) := by decide +kernel
theorem dX6_place_68 : decode cX6_place 68 = .ok (.aload_n 0, 1) := by decide +kernel
theorem dX6_place_69 : decode cX6_place 69 = .ok (.getfield 10, 3) := by decide +kernel
theorem dX6_place_72 : decode cX6_place 72 = .ok (.invokevirtual 107, 3) := by decide +kernel
theorem dX6_place_75 : decode cX6_place 75 = .ok (.aload_n 0, 1) := by decide +kernel
theorem dX6_place_76 : decode cX6_place 76 = .ok (.getfield 43, 3) := by decide +kernel
theorem dX6_place_79 : decode cX6_place 79 = .ok (.iload_n 1, 1) := by decide +kernel
theorem dX6_place_80 : decode cX6_place 80 = .ok (.iload_n 2, 1) := by decide +kernel
theorem dX6_place_81 : decode cX6_place 81 = .ok (.invokevirtual 111, 3) := by decide +kernel
theorem dX6_place_84 : decode cX6_place 84 = .ok (.ireturn, 1) := by decide +kernel
theorem dX6_place_85 : decode cX6_place 85 = .ok (.iconst (-1), 1) := by decide +kernel
theorem dX6_place_86 : decode cX6_place 86 = .ok (.ireturn, 1) := by decide +kernel
theorem dX6_area_0 : decode cX6_area 0 = .ok (.aload_n 0, 1) := by decide +kernel
theorem dX6_area_1 : decode cX6_area 1 = .ok (.getfield 43, 3) := by decide +kernel
theorem dX6_area_4 : decode cX6_area 4 = .ok (.aload_n 0, 1) := by decide +kernel
theorem dX6_area_5 : decode cX6_area 5 = .ok (.getfield 10, 3) := by decide +kernel
theorem dX6_area_8 : decode cX6_area 8 = .ok (.invokevirtual 107, 3) := by decide +kernel
theorem dX6_area_11 : decode cX6_area 11 = .ok (.iload_n 1, 1) := by decide +kernel
theorem dX6_area_12 : decode cX6_area 12 = .ok (.aload_n 0, 1) := by decide +kernel
theorem dX6_area_13 : decode cX6_area 13 = .ok (.getfield 43, 3) := by decide +kernel
theorem dX6_area_16 : decode cX6_area 16 = .ok (.getfield 112, 3) := by decide +kernel
theorem dX6_area_19 : decode cX6_area 19 = .ok (.invokestatic 71, 3) := by decide +kernel
theorem dX6_area_22 : decode cX6_area 22 = .ok (.ifCond .ne 5, 3) := by decide +kernel
theorem dX6_area_25 : decode cX6_area 25 = .ok (.iconst (-1), 1) := by decide +kernel
theorem dX6_area_26 : decode cX6_area 26 = .ok (.ireturn, 1) := by decide +kernel
theorem dX6_area_27 : decode cX6_area 27 = .ok (.aload_n 0, 1) := by decide +kernel
theorem dX6_area_28 : decode cX6_area 28 = .ok (.getfield 43, 3) := by decide +kernel
theorem dX6_area_31 : decode cX6_area 31 = .ok (.iload_n 1, 1) := by decide +kernel
theorem dX6_area_32 : decode cX6_area 32 = .ok (.invokevirtual 116, 3) := by decide +kernel
theorem dX6_area_35 : decode cX6_area 35 = .ok (.istore_n 3, 1) := by decide +kernel
theorem dX6_area_36 : decode cX6_area 36 = .ok (.aload_n 0, 1) := by decide +kernel
theorem dX6_area_37 : decode cX6_area 37 = .ok (.getfield 43, 3) := by decide +kernel
theorem dX6_area_40 : decode cX6_area 40 = .ok (.iload_n 1, 1) := by decide +kernel
theorem dX6_area_41 : decode cX6_area 41 = .ok (.invokevirtual 119, 3) := by decide +kernel
theorem dX6_area_44 : decode cX6_area 44 = .ok (.istore 4, 2) := by decide +kernel
theorem dX6_area_46 : decode cX6_area 46 = .ok (.iload_n 2, 1) := by decide +kernel
theorem dX6_area_47 : decode cX6_area 47 = .ok (.tableswitch 84 0 5 #[37, 48, 57, 70, 72, 75], 37) := by decide +kernel
theorem dX6_area_84 : decode cX6_area 84 = .ok (.aload_n 0, 1) := by decide +kernel
theorem dX6_area_85 : decode cX6_area 85 = .ok (.getfield 10, 3) := by decide +kernel
theorem dX6_area_88 : decode cX6_area 88 = .ok (.iload_n 3, 1) := by decide +kernel
theorem dX6_area_89 : decode cX6_area 89 = .ok (.iload 4, 2) := by decide +kernel
theorem dX6_area_91 : decode cX6_area 91 = .ok (.invokevirtual 103, 3) := by decide +kernel
theorem dX6_area_94 : decode cX6_area 94 = .ok (.ireturn, 1) := by decide +kernel
theorem dX6_area_95 : decode cX6_area 95 = .ok (.aload_n 0, 1) := by decide +kernel
theorem dX6_area_96 : decode cX6_area 96 = .ok (.getfield 43, 3) := by decide +kernel
theorem dX6_area_99 : decode cX6_area 99 = .ok (.iload_n 1, 1) := by decide +kernel
theorem dX6_area_100 : decode cX6_area 100 = .ok (.invokevirtual 122, 3) := by decide +kernel
theorem dX6_area_103 : decode cX6_area 103 = .ok (.ireturn, 1) := by decide +kernel
theorem dX6_area_104 : decode cX6_area 104 = .ok (.aload_n 0, 1) := by decide +kernel
theorem dX6_area_105 : decode cX6_area 105 = .ok (.getfield 43, 3) := by decide +kernel
theorem dX6_area_108 : decode cX6_area 108 = .ok (.iload_n 1, 1) := by decide +kernel
theorem dX6_area_109 : decode cX6_area 109 = .ok (.aload_n 0, 1) := by decide +kernel
theorem dX6_area_110 : decode cX6_area 110 = .ok (.getfield 10, 3) := by decide +kernel
theorem dX6_area_113 : decode cX6_area 113 = .ok (.invokevirtual 125, 3) := by decide +kernel
theorem dX6_area_116 : decode cX6_area 116 = .ok (.ireturn, 1) := by decide +kernel
theorem dX6_area_117 : decode cX6_area 117 = .ok (.iload_n 3, 1) := by decide +kernel
theorem dX6_area_118 : decode cX6_area 118 = .ok (.ireturn, 1) := by decide +kernel
theorem dX6_area_119 : decode cX6_area 119 = .ok (.iload 4, 2) := by decide +kernel
theorem dX6_area_121 : decode cX6_area 121 = .ok (.ireturn, 1) := by decide +kernel
theorem dX6_area_122 : decode cX6_area 122 = .ok (.aload_n 0, 1) := by decide +kernel
theorem dX6_area_123 : decode cX6_area 123 = .ok (.getfield 43, 3) := by decide +kernel
theorem dX6_area_126 : decode cX6_area 126 = .ok (.iload_n 1, 1) := by decide +kernel
theorem dX6_area_127 : decode cX6_area 127 = .ok (.invokevirtual 129, 3) := by decide +kernel
theorem dX6_area_130 : decode cX6_area 130 = .ok (.ireturn, 1) := by decide +kernel
theorem dX6_area_131 : decode cX6_area 131 = .ok (.iconst (-1), 1) := by decide +kernel
theorem dX6_area_132 : decode cX6_area 132 = .ok (.ireturn, 1) := by decide +kernel
theorem dX6_type_0 : decode cX6_type 0 = .ok (.iload_n 1, 1) := by decide +kernel
theorem dX6_type_1 : decode cX6_type 1 = .ok (.bipush 32, 2) := by decide +kernel
theorem dX6_type_3 : decode cX6_type 3 = .ok (.if_icmp .lt 9, 3) := by decide +kernel
theorem dX6_type_6 : decode cX6_type 6 = .ok (.iload_n 1, 1) := by decide +kernel
theorem dX6_type_7 : decode cX6_type 7 = .ok (.bipush 126, 2) := by decide +kernel
theorem dX6_type_9 : decode cX6_type 9 = .ok (.if_icmp .le 5, 3) := by decide +kernel
theorem dX6_type_12 : decode cX6_type 12 = .ok (.iconst (-1), 1) := by decide +kernel
theorem dX6_type_13 : decode cX6_type 13 = .ok (.ireturn, 1) := by decide +kernel
theorem dX6_type_14 : decode cX6_type 14 = .ok (.aload_n 0, 1) := by decide +kernel
theorem dX6_type_15 : decode cX6_type 15 = .ok (.getfield 50, 3) := by decide +kernel
theorem dX6_type_18 : decode cX6_type 18 = .ok (.iload_n 1, 1) := by decide +kernel
theorem dX6_type_19 : decode cX6_type 19 = .ok (.invokevirtual 132, 3) := by decide +kernel
theorem dX6_type_22 : decode cX6_type 22 = .ok (.ifCond .eq 13, 3) := by decide +kernel
theorem dX6_type_25 : decode cX6_type 25 = .ok (.aload_n 0, 1) := by decide +kernel
theorem dX6_type_26 : decode cX6_type 26 = .ok (.getfield 50, 3) := by decide +kernel
theorem dX6_type_29 : decode cX6_type 29 = .ok (.getfield 136, 3) := by decide +kernel
theorem dX6_type_32 : decode cX6_type 32 = .ok (.goto 5, 3) := by decide +kernel
theorem dX6_type_35 : decode cX6_type 35 = .ok (.bipush (-3), 2) := by decide +kernel
theorem dX6_type_37 : decode cX6_type 37 = .ok (.ireturn, 1) := by decide +kernel
theorem dX6_draw_0 : decode cX6_draw 0 = .ok (.aload_n 0, 1) := by decide +kernel
theorem dX6_draw_1 : decode cX6_draw 1 = .ok (.getfield 50, 3) := by decide +kernel
theorem dX6_draw_4 : decode cX6_draw 4 = .ok (.invokevirtual 137, 3) := by decide +kernel
theorem dX6_draw_7 : decode cX6_draw 7 = .ok (.istore_n 1, 1) := by decide +kernel
theorem dX6_draw_8 : decode cX6_draw 8 = .ok (.aload_n 0, 1) := by decide +kernel
theorem dX6_draw_9 : decode cX6_draw 9 = .ok (.getfield 50, 3) := by decide +kernel
theorem dX6_draw_12 : decode cX6_draw 12 = .ok (.iconst 0, 1) := by decide +kernel
theorem dX6_draw_13 : decode cX6_draw 13 = .ok (.putfield 136, 3) := by decide +kernel
theorem dX6_draw_16 : decode cX6_draw 16 = .ok (.iload_n 1, 1) := by decide +kernel
theorem dX6_draw_17 : decode cX6_draw 17 = .ok (.ifCond .ne 14, 3) := by decide +kernel
theorem dX6_draw_20 : decode cX6_draw 20 = .ok (.bipush (-20), 2) := by decide +kernel
theorem dX6_draw_22 : decode cX6_draw 22 = .ok (.aload_n 0, 1) := by decide +kernel
theorem dX6_draw_23 : decode cX6_draw 23 = .ok (.getfield 50, 3) := by decide +kernel
theorem dX6_draw_26 : decode cX6_draw 26 = .ok (.getfield 141, 3) := by decide +kernel
theorem dX6_draw_29 : decode cX6_draw 29 = .ok (.isub, 1) := by decide +kernel
theorem dX6_draw_30 : decode cX6_draw 30 = .ok (.ireturn, 1) := by decide +kernel
theorem dX6_draw_31 : decode cX6_draw 31 = .ok (.aload_n 0, 1) := by decide +kernel
theorem dX6_draw_32 : decode cX6_draw 32 = .ok (.getfield 10, 3) := by decide +kernel
theorem dX6_draw_35 : decode cX6_draw 35 = .ok (.aload_n 0, 1) := by decide +kernel
theorem dX6_draw_36 : decode cX6_draw 36 = .ok (.getfield 50, 3) := by decide +kernel
theorem dX6_draw_39 : decode cX6_draw 39 = .ok (.getfield 144, 3) := by decide +kernel
theorem dX6_draw_42 : decode cX6_draw 42 = .ok (.aload_n 0, 1) := by decide +kernel
theorem dX6_draw_43 : decode cX6_draw 43 = .ok (.getfield 50, 3) := by decide +kernel
theorem dX6_draw_46 : decode cX6_draw 46 = .ok (.getfield 147, 3) := by decide +kernel
theorem dX6_draw_49 : decode cX6_draw 49 = .ok (.aload_n 0, 1) := by decide +kernel
theorem dX6_draw_50 : decode cX6_draw 50 = .ok (.getfield 50, 3) := by decide +kernel
theorem dX6_draw_53 : decode cX6_draw 53 = .ok (.getfield 150, 3) := by decide +kernel
theorem dX6_draw_56 : decode cX6_draw 56 = .ok (.invokevirtual 153, 3) := by decide +kernel
theorem dX6_draw_59 : decode cX6_draw 59 = .ok (.aload_n 0, 1) := by decide +kernel
theorem dX6_draw_60 : decode cX6_draw 60 = .ok (.getfield 19, 3) := by decide +kernel
theorem dX6_draw_63 : decode cX6_draw 63 = .ok (.iconst 0, 1) := by decide +kernel
theorem dX6_draw_64 : decode cX6_draw 64 = .ok (.putfield 157, 3) := by decide +kernel
theorem dX6_draw_67 : decode cX6_draw 67 = .ok (.aload_n 0, 1) := by decide +kernel
theorem dX6_draw_68 : decode cX6_draw 68 = .ok (.getfield 10, 3) := by decide +kernel
theorem dX6_draw_71 : decode cX6_draw 71 = .ok (.getfield 160, 3) := by decide +kernel
theorem dX6_draw_74 : decode cX6_draw 74 = .ok (.aload_n 0, 1) := by decide +kernel
theorem dX6_draw_75 : decode cX6_draw 75 = .ok (.getfield 10, 3) := by decide +kernel
theorem dX6_draw_78 : decode cX6_draw 78 = .ok (.getfield 161, 3) := by decide +kernel
theorem dX6_draw_81 : decode cX6_draw 81 = .ok (.imul, 1) := by decide +kernel
theorem dX6_draw_82 : decode cX6_draw 82 = .ok (.ireturn, 1) := by decide +kernel
theorem dX6_count_0 : decode cX6_count 0 = .ok (.iload_n 1, 1) := by decide +kernel
theorem dX6_count_1 : decode cX6_count 1 = .ok (.tableswitch 164 0 12 #[67, 75, 83, 94, 113, 118, 123, 128, 133, 138, 143, 148, 156], 67) := by decide +kernel
theorem dX6_count_68 : decode cX6_count 68 = .ok (.aload_n 0, 1) := by decide +kernel
theorem dX6_count_69 : decode cX6_count 69 = .ok (.getfield 10, 3) := by decide +kernel
theorem dX6_count_72 : decode cX6_count 72 = .ok (.getfield 160, 3) := by decide +kernel
theorem dX6_count_75 : decode cX6_count 75 = .ok (.ireturn, 1) := by decide +kernel
theorem dX6_count_76 : decode cX6_count 76 = .ok (.aload_n 0, 1) := by decide +kernel
theorem dX6_count_77 : decode cX6_count 77 = .ok (.getfield 10, 3) := by decide +kernel
theorem dX6_count_80 : decode cX6_count 80 = .ok (.getfield 161, 3) := by decide +kernel
theorem dX6_count_83 : decode cX6_count 83 = .ok (.ireturn, 1) := by decide +kernel
theorem dX6_count_84 : decode cX6_count 84 = .ok (.aload_n 0, 1) := by decide +kernel
theorem dX6_count_85 : decode cX6_count 85 = .ok (.getfield 10, 3) := by decide +kernel
theorem dX6_count_88 : decode cX6_count 88 = .ok (.getfield 164, 3) := by decide +kernel
theorem dX6_count_91 : decode cX6_count 91 = .ok (.invokestatic 167, 3) := by decide +kernel
theorem dX6_count_94 : decode cX6_count 94 = .ok (.ireturn, 1) := by decide +kernel
theorem dX6_count_95 : decode cX6_count 95 = .ok (.aload_n 0, 1) := by decide +kernel
theorem dX6_count_96 : decode cX6_count 96 = .ok (.getfield 43, 3) := by decide +kernel
theorem dX6_count_99 : decode cX6_count 99 = .ok (.aload_n 0, 1) := by decide +kernel
theorem dX6_count_100 : decode cX6_count 100 = .ok (.getfield 10, 3) := by decide +kernel
theorem dX6_count_103 : decode cX6_count 103 = .ok (.invokevirtual 107, 3) := by decide +kernel
theorem dX6_count_106 : decode cX6_count 106 = .ok (.aload_n 0, 1) := by decide +kernel
theorem dX6_count_107 : decode cX6_count 107 = .ok (.getfield 43, 3) := by decide +kernel
theorem dX6_count_110 : decode cX6_count 110 = .ok (.getfield 112, 3) := by decide +kernel
theorem dX6_count_113 : decode cX6_count 113 = .ok (.ireturn, 1) := by decide +kernel
theorem dX6_count_114 : decode cX6_count 114 = .ok (.aload_n 0, 1) := by decide +kernel
theorem dX6_count_115 : decode cX6_count 115 = .ok (.invokevirtual 171, 3) := by decide +kernel
theorem dX6_count_118 : decode cX6_count 118 = .ok (.ireturn, 1) := by decide +kernel
theorem dX6_count_119 : decode cX6_count 119 = .ok (.aload_n 0, 1) := by decide +kernel
theorem dX6_count_120 : decode cX6_count 120 = .ok (.invokevirtual 175, 3) := by decide +kernel
theorem dX6_count_123 : decode cX6_count 123 = .ok (.ireturn, 1) := by decide +kernel
theorem dX6_count_124 : decode cX6_count 124 = .ok (.aload_n 0, 1) := by decide +kernel
theorem dX6_count_125 : decode cX6_count 125 = .ok (.invokevirtual 178, 3) := by decide +kernel
theorem dX6_count_128 : decode cX6_count 128 = .ok (.ireturn, 1) := by decide +kernel
theorem dX6_count_129 : decode cX6_count 129 = .ok (.aload_n 0, 1) := by decide +kernel
theorem dX6_count_130 : decode cX6_count 130 = .ok (.invokevirtual 181, 3) := by decide +kernel
theorem dX6_count_133 : decode cX6_count 133 = .ok (.ireturn, 1) := by decide +kernel
theorem dX6_count_134 : decode cX6_count 134 = .ok (.aload_n 0, 1) := by decide +kernel
theorem dX6_count_135 : decode cX6_count 135 = .ok (.invokevirtual 184, 3) := by decide +kernel
theorem dX6_count_138 : decode cX6_count 138 = .ok (.ireturn, 1) := by decide +kernel
theorem dX6_count_139 : decode cX6_count 139 = .ok (.aload_n 0, 1) := by decide +kernel
theorem dX6_count_140 : decode cX6_count 140 = .ok (.invokevirtual 187, 3) := by decide +kernel
theorem dX6_count_143 : decode cX6_count 143 = .ok (.ireturn, 1) := by decide +kernel
theorem dX6_count_144 : decode cX6_count 144 = .ok (.aload_n 0, 1) := by decide +kernel
theorem dX6_count_145 : decode cX6_count 145 = .ok (.invokevirtual 190, 3) := by decide +kernel
theorem dX6_count_148 : decode cX6_count 148 = .ok (.ireturn, 1) := by decide +kernel
theorem dX6_count_149 : decode cX6_count 149 = .ok (.aload_n 0, 1) := by decide +kernel
theorem dX6_count_150 : decode cX6_count 150 = .ok (.getfield 10, 3) := by decide +kernel
theorem dX6_count_153 : decode cX6_count 153 = .ok (.invokevirtual 193, 3) := by decide +kernel
theorem dX6_count_156 : decode cX6_count 156 = .ok (.ireturn, 1) := by decide +kernel
theorem dX6_count_157 : decode cX6_count 157 = .ok (.aload_n 0, 1) := by decide +kernel
theorem dX6_count_158 : decode cX6_count 158 = .ok (.getfield 19, 3) := by decide +kernel
theorem dX6_count_161 : decode cX6_count 161 = .ok (.getfield 157, 3) := by decide +kernel
theorem dX6_count_164 : decode cX6_count 164 = .ok (.ireturn, 1) := by decide +kernel
theorem dX6_count_165 : decode cX6_count 165 = .ok (.iconst (-1), 1) := by decide +kernel
theorem dX6_count_166 : decode cX6_count 166 = .ok (.ireturn, 1) := by decide +kernel
theorem dX6_tell_0 : decode cX6_tell 0 = .ok (.iload_n 1, 1) := by decide +kernel
theorem dX6_tell_1 : decode cX6_tell 1 = .ok (.iconst 5, 1) := by decide +kernel
theorem dX6_tell_2 : decode cX6_tell 2 = .ok (.invokestatic 71, 3) := by decide +kernel
theorem dX6_tell_5 : decode cX6_tell 5 = .ok (.ifCond .eq 21, 3) := by decide +kernel
theorem dX6_tell_8 : decode cX6_tell 8 = .ok (.iload_n 2, 1) := by decide +kernel
theorem dX6_tell_9 : decode cX6_tell 9 = .ok (.iconst 4, 1) := by decide +kernel
theorem dX6_tell_10 : decode cX6_tell 10 = .ok (.invokestatic 71, 3) := by decide +kernel
theorem dX6_tell_13 : decode cX6_tell 13 = .ok (.ifCond .eq 13, 3) := by decide +kernel
theorem dX6_tell_16 : decode cX6_tell 16 = .ok (.iload_n 3, 1) := by decide +kernel
theorem dX6_tell_17 : decode cX6_tell 17 = .ok (.sipush 4096, 3) := by decide +kernel
theorem dX6_tell_20 : decode cX6_tell 20 = .ok (.invokestatic 71, 3) := by decide +kernel
theorem dX6_tell_23 : decode cX6_tell 23 = .ok (.ifCond .ne 5, 3) := by decide +kernel
theorem dX6_tell_26 : decode cX6_tell 26 = .ok (.iconst (-1), 1) := by decide +kernel
theorem dX6_tell_27 : decode cX6_tell 27 = .ok (.ireturn, 1) := by decide +kernel
theorem dX6_tell_28 : decode cX6_tell 28 = .ok (.aload_n 0, 1) := by decide +kernel
theorem dX6_tell_29 : decode cX6_tell 29 = .ok (.getfield 10, 3) := by decide +kernel
theorem dX6_tell_32 : decode cX6_tell 32 = .ok (.getfield 75, 3) := by decide +kernel
theorem dX6_tell_35 : decode cX6_tell 35 = .ok (.iload_n 1, 1) := by decide +kernel
theorem dX6_tell_36 : decode cX6_tell 36 = .ok (.iaload, 1) := by decide +kernel
theorem dX6_tell_37 : decode cX6_tell 37 = .ok (.iload_n 2, 1) := by decide +kernel
theorem dX6_tell_38 : decode cX6_tell 38 = .ok (.if_icmp .ne 19, 3) := by decide +kernel
theorem dX6_tell_41 : decode cX6_tell 41 = .ok (.aload_n 0, 1) := by decide +kernel
theorem dX6_tell_42 : decode cX6_tell 42 = .ok (.getfield 10, 3) := by decide +kernel
theorem dX6_tell_45 : decode cX6_tell 45 = .ok (.getfield 78, 3) := by decide +kernel
theorem dX6_tell_48 : decode cX6_tell 48 = .ok (.iload_n 1, 1) := by decide +kernel
theorem dX6_tell_49 : decode cX6_tell 49 = .ok (.iaload, 1) := by decide +kernel
theorem dX6_tell_50 : decode cX6_tell 50 = .ok (.iload_n 3, 1) := by decide +kernel
theorem dX6_tell_51 : decode cX6_tell 51 = .ok (.if_icmp .ne 6, 3) := by decide +kernel
theorem dX6_tell_54 : decode cX6_tell 54 = .ok (.bipush (-2), 2) := by decide +kernel
theorem dX6_tell_56 : decode cX6_tell 56 = .ok (.ireturn, 1) := by decide +kernel
theorem dX6_tell_57 : decode cX6_tell 57 = .ok (.aload_n 0, 1) := by decide +kernel
theorem dX6_tell_58 : decode cX6_tell 58 = .ok (.getfield 19, 3) := by decide +kernel
theorem dX6_tell_61 : decode cX6_tell 61 = .ok (.aload_n 0, 1) := by decide +kernel
theorem dX6_tell_62 : decode cX6_tell 62 = .ok (.getfield 10, 3) := by decide +kernel
theorem dX6_tell_65 : decode cX6_tell 65 = .ok (.invokevirtual 196, 3) := by decide +kernel
theorem dX6_tell_68 : decode cX6_tell 68 = .ok (.aload_n 0, 1) := by decide +kernel
theorem dX6_tell_69 : decode cX6_tell 69 = .ok (.getfield 10, 3) := by decide +kernel
theorem dX6_tell_72 : decode cX6_tell 72 = .ok (.getfield 75, 3) := by decide +kernel
theorem dX6_tell_75 : decode cX6_tell 75 = .ok (.iload_n 1, 1) := by decide +kernel
theorem dX6_tell_76 : decode cX6_tell 76 = .ok (.iload_n 2, 1) := by decide +kernel
theorem dX6_tell_77 : decode cX6_tell 77 = .ok (.iastore, 1) := by decide +kernel
theorem dX6_tell_78 : decode cX6_tell 78 = .ok (.aload_n 0, 1) := by decide +kernel
theorem dX6_tell_79 : decode cX6_tell 79 = .ok (.getfield 10, 3) := by decide +kernel
theorem dX6_tell_82 : decode cX6_tell 82 = .ok (.getfield 78, 3) := by decide +kernel
theorem dX6_tell_85 : decode cX6_tell 85 = .ok (.iload_n 1, 1) := by decide +kernel
theorem dX6_tell_86 : decode cX6_tell 86 = .ok (.iload_n 3, 1) := by decide +kernel
theorem dX6_tell_87 : decode cX6_tell 87 = .ok (.iastore, 1) := by decide +kernel
theorem dX6_tell_88 : decode cX6_tell 88 = .ok (.iconst 1, 1) := by decide +kernel
theorem dX6_tell_89 : decode cX6_tell 89 = .ok (.ireturn, 1) := by decide +kernel
theorem dX6_order_0 : decode cX6_order 0 = .ok (.iload_n 1, 1) := by decide +kernel
theorem dX6_order_1 : decode cX6_order 1 = .ok (.invokestatic 199, 3) := by decide +kernel
theorem dX6_order_4 : decode cX6_order 4 = .ok (.ifCond .ne 5, 3) := by decide +kernel
theorem dX6_order_7 : decode cX6_order 7 = .ok (.iconst (-1), 1) := by decide +kernel
theorem dX6_order_8 : decode cX6_order 8 = .ok (.ireturn, 1) := by decide +kernel
theorem dX6_order_9 : decode cX6_order 9 = .ok (.aload_n 0, 1) := by decide +kernel
theorem dX6_order_10 : decode cX6_order 10 = .ok (.getfield 10, 3) := by decide +kernel
theorem dX6_order_13 : decode cX6_order 13 = .ok (.getfield 164, 3) := by decide +kernel
theorem dX6_order_16 : decode cX6_order 16 = .ok (.invokestatic 167, 3) := by decide +kernel
theorem dX6_order_19 : decode cX6_order 19 = .ok (.istore_n 2, 1) := by decide +kernel
theorem dX6_order_20 : decode cX6_order 20 = .ok (.iload_n 2, 1) := by decide +kernel
theorem dX6_order_21 : decode cX6_order 21 = .ok (.iload_n 1, 1) := by decide +kernel
theorem dX6_order_22 : decode cX6_order 22 = .ok (.if_icmp .ne 6, 3) := by decide +kernel
theorem dX6_order_25 : decode cX6_order 25 = .ok (.bipush (-2), 2) := by decide +kernel
theorem dX6_order_27 : decode cX6_order 27 = .ok (.ireturn, 1) := by decide +kernel
theorem dX6_order_28 : decode cX6_order 28 = .ok (.aload_n 0, 1) := by decide +kernel
theorem dX6_order_29 : decode cX6_order 29 = .ok (.getfield 19, 3) := by decide +kernel
theorem dX6_order_32 : decode cX6_order 32 = .ok (.aload_n 0, 1) := by decide +kernel
theorem dX6_order_33 : decode cX6_order 33 = .ok (.getfield 10, 3) := by decide +kernel
theorem dX6_order_36 : decode cX6_order 36 = .ok (.invokevirtual 196, 3) := by decide +kernel
theorem dX6_order_39 : decode cX6_order 39 = .ok (.iload_n 1, 1) := by decide +kernel
theorem dX6_order_40 : decode cX6_order 40 = .ok (.istore_n 3, 1) := by decide +kernel
theorem dX6_order_41 : decode cX6_order 41 = .ok (.iconst 4, 1) := by decide +kernel
theorem dX6_order_42 : decode cX6_order 42 = .ok (.istore 4, 2) := by decide +kernel
theorem dX6_order_44 : decode cX6_order 44 = .ok (.iload 4, 2) := by decide +kernel
theorem dX6_order_46 : decode cX6_order 46 = .ok (.ifCond .lt 28, 3) := by decide +kernel
theorem dX6_order_49 : decode cX6_order 49 = .ok (.aload_n 0, 1) := by decide +kernel
theorem dX6_order_50 : decode cX6_order 50 = .ok (.getfield 10, 3) := by decide +kernel
theorem dX6_order_53 : decode cX6_order 53 = .ok (.getfield 164, 3) := by decide +kernel
theorem dX6_order_56 : decode cX6_order 56 = .ok (.iload 4, 2) := by decide +kernel
theorem dX6_order_58 : decode cX6_order 58 = .ok (.iload_n 3, 1) := by decide +kernel
theorem dX6_order_59 : decode cX6_order 59 = .ok (.bipush 10, 2) := by decide +kernel
theorem dX6_order_61 : decode cX6_order 61 = .ok (.irem, 1) := by decide +kernel
theorem dX6_order_62 : decode cX6_order 62 = .ok (.iastore, 1) := by decide +kernel
theorem dX6_order_63 : decode cX6_order 63 = .ok (.iload_n 3, 1) := by decide +kernel
theorem dX6_order_64 : decode cX6_order 64 = .ok (.bipush 10, 2) := by decide +kernel
theorem dX6_order_66 : decode cX6_order 66 = .ok (.idiv, 1) := by decide +kernel
theorem dX6_order_67 : decode cX6_order 67 = .ok (.istore_n 3, 1) := by decide +kernel
theorem dX6_order_68 : decode cX6_order 68 = .ok (.iinc 4 (-1), 3) := by decide +kernel
theorem dX6_order_71 : decode cX6_order 71 = .ok (.goto (-27), 3) := by decide +kernel
theorem dX6_order_74 : decode cX6_order 74 = .ok (.iload_n 2, 1) := by decide +kernel
theorem dX6_order_75 : decode cX6_order 75 = .ok (.ireturn, 1) := by decide +kernel
theorem dX6_put_0 : decode cX6_put 0 = .ok (.aload_n 0, 1) := by decide +kernel
theorem dX6_put_1 : decode cX6_put 1 = .ok (.getfield 10, 3) := by decide +kernel
theorem dX6_put_4 : decode cX6_put 4 = .ok (.iload_n 1, 1) := by decide +kernel
theorem dX6_put_5 : decode cX6_put 5 = .ok (.iload_n 2, 1) := by decide +kernel
theorem dX6_put_6 : decode cX6_put 6 = .ok (.invokevirtual 100, 3) := by decide +kernel
theorem dX6_put_9 : decode cX6_put 9 = .ok (.ifCond .eq 12, 3) := by decide +kernel
theorem dX6_put_12 : decode cX6_put 12 = .ok (.iload_n 3, 1) := by decide +kernel
theorem dX6_put_13 : decode cX6_put 13 = .ok (.bipush 32, 2) := by decide +kernel
theorem dX6_put_15 : decode cX6_put 15 = .ok (.invokestatic 71, 3) := by decide +kernel
theorem dX6_put_18 : decode cX6_put 18 = .ok (.ifCond .ne 5, 3) := by decide +kernel
theorem dX6_put_21 : decode cX6_put 21 = .ok (.iconst (-1), 1) := by decide +kernel
theorem dX6_put_22 : decode cX6_put 22 = .ok (.ireturn, 1) := by decide +kernel
theorem dX6_put_23 : decode cX6_put 23 = .ok (.aload_n 0, 1) := by decide +kernel
theorem dX6_put_24 : decode cX6_put 24 = .ok (.getfield 10, 3) := by decide +kernel
theorem dX6_put_27 : decode cX6_put 27 = .ok (.iload_n 1, 1) := by decide +kernel
theorem dX6_put_28 : decode cX6_put 28 = .ok (.iload_n 2, 1) := by decide +kernel
theorem dX6_put_29 : decode cX6_put 29 = .ok (.invokevirtual 103, 3) := by decide +kernel
theorem dX6_put_32 : decode cX6_put 32 = .ok (.istore 4, 2) := by decide +kernel
theorem dX6_put_34 : decode cX6_put 34 = .ok (.iload 4, 2) := by decide +kernel
theorem dX6_put_36 : decode cX6_put 36 = .ok (.iload_n 3, 1) := by decide +kernel
theorem dX6_put_37 : decode cX6_put 37 = .ok (.if_icmp .ne 6, 3) := by decide +kernel
theorem dX6_put_40 : decode cX6_put 40 = .ok (.bipush (-2), 2) := by decide +kernel
theorem dX6_put_42 : decode cX6_put 42 = .ok (.ireturn, 1) := by decide +kernel
theorem dX6_put_43 : decode cX6_put 43 = .ok (.aload_n 0, 1) := by decide +kernel
theorem dX6_put_44 : decode cX6_put 44 = .ok (.getfield 19, 3) := by decide +kernel
theorem dX6_put_47 : decode cX6_put 47 = .ok (.aload_n 0, 1) := by decide +kernel
theorem dX6_put_48 : decode cX6_put 48 = .ok (.getfield 10, 3) := by decide +kernel
theorem dX6_put_51 : decode cX6_put 51 = .ok (.invokevirtual 196, 3) := by decide +kernel
theorem dX6_put_54 : decode cX6_put 54 = .ok (.aload_n 0, 1) := by decide +kernel
theorem dX6_put_55 : decode cX6_put 55 = .ok (.getfield 10, 3) := by decide +kernel
theorem dX6_put_58 : decode cX6_put 58 = .ok (.iload_n 1, 1) := by decide +kernel
theorem dX6_put_59 : decode cX6_put 59 = .ok (.iload_n 2, 1) := by decide +kernel
theorem dX6_put_60 : decode cX6_put 60 = .ok (.iload_n 3, 1) := by decide +kernel
theorem dX6_put_61 : decode cX6_put 61 = .ok (.invokevirtual 202, 3) := by decide +kernel
theorem dX6_put_64 : decode cX6_put 64 = .ok (.iload 4, 2) := by decide +kernel
theorem dX6_put_66 : decode cX6_put 66 = .ok (.ireturn, 1) := by decide +kernel
theorem dX6_fill_0 : decode cX6_fill 0 = .ok (.aload_n 0, 1) := by decide +kernel
theorem dX6_fill_1 : decode cX6_fill 1 = .ok (.getfield 43, 3) := by decide +kernel
theorem dX6_fill_4 : decode cX6_fill 4 = .ok (.aload_n 0, 1) := by decide +kernel
theorem dX6_fill_5 : decode cX6_fill 5 = .ok (.getfield 10, 3) := by decide +kernel
theorem dX6_fill_8 : decode cX6_fill 8 = .ok (.invokevirtual 107, 3) := by decide +kernel
theorem dX6_fill_11 : decode cX6_fill 11 = .ok (.iload_n 1, 1) := by decide +kernel
theorem dX6_fill_12 : decode cX6_fill 12 = .ok (.aload_n 0, 1) := by decide +kernel
theorem dX6_fill_13 : decode cX6_fill 13 = .ok (.getfield 43, 3) := by decide +kernel
theorem dX6_fill_16 : decode cX6_fill 16 = .ok (.getfield 112, 3) := by decide +kernel
theorem dX6_fill_19 : decode cX6_fill 19 = .ok (.invokestatic 71, 3) := by decide +kernel
theorem dX6_fill_22 : decode cX6_fill 22 = .ok (.ifCond .eq 12, 3) := by decide +kernel
theorem dX6_fill_25 : decode cX6_fill 25 = .ok (.iload_n 2, 1) := by decide +kernel
theorem dX6_fill_26 : decode cX6_fill 26 = .ok (.bipush 32, 2) := by decide +kernel
theorem dX6_fill_28 : decode cX6_fill 28 = .ok (.invokestatic 71, 3) := by decide +kernel
theorem dX6_fill_31 : decode cX6_fill 31 = .ok (.ifCond .ne 5, 3) := by decide +kernel
theorem dX6_fill_34 : decode cX6_fill 34 = .ok (.iconst (-1), 1) := by decide +kernel
theorem dX6_fill_35 : decode cX6_fill 35 = .ok (.ireturn, 1) := by decide +kernel
theorem dX6_fill_36 : decode cX6_fill 36 = .ok (.aload_n 0, 1) := by decide +kernel
theorem dX6_fill_37 : decode cX6_fill 37 = .ok (.getfield 10, 3) := by decide +kernel
theorem dX6_fill_40 : decode cX6_fill 40 = .ok (.aload_n 0, 1) := by decide +kernel
theorem dX6_fill_41 : decode cX6_fill 41 = .ok (.getfield 43, 3) := by decide +kernel
theorem dX6_fill_44 : decode cX6_fill 44 = .ok (.iload_n 1, 1) := by decide +kernel
theorem dX6_fill_45 : decode cX6_fill 45 = .ok (.invokevirtual 116, 3) := by decide +kernel
theorem dX6_fill_48 : decode cX6_fill 48 = .ok (.aload_n 0, 1) := by decide +kernel
theorem dX6_fill_49 : decode cX6_fill 49 = .ok (.getfield 43, 3) := by decide +kernel
theorem dX6_fill_52 : decode cX6_fill 52 = .ok (.iload_n 1, 1) := by decide +kernel
theorem dX6_fill_53 : decode cX6_fill 53 = .ok (.invokevirtual 119, 3) := by decide +kernel
theorem dX6_fill_56 : decode cX6_fill 56 = .ok (.invokevirtual 103, 3) := by decide +kernel
theorem dX6_fill_59 : decode cX6_fill 59 = .ok (.iload_n 2, 1) := by decide +kernel
theorem dX6_fill_60 : decode cX6_fill 60 = .ok (.if_icmp .ne 6, 3) := by decide +kernel
theorem dX6_fill_63 : decode cX6_fill 63 = .ok (.bipush (-2), 2) := by decide +kernel
theorem dX6_fill_65 : decode cX6_fill 65 = .ok (.ireturn, 1) := by decide +kernel
theorem dX6_fill_66 : decode cX6_fill 66 = .ok (.aload_n 0, 1) := by decide +kernel
theorem dX6_fill_67 : decode cX6_fill 67 = .ok (.getfield 19, 3) := by decide +kernel
theorem dX6_fill_70 : decode cX6_fill 70 = .ok (.aload_n 0, 1) := by decide +kernel
theorem dX6_fill_71 : decode cX6_fill 71 = .ok (.getfield 10, 3) := by decide +kernel
theorem dX6_fill_74 : decode cX6_fill 74 = .ok (.invokevirtual 196, 3) := by decide +kernel
theorem dX6_fill_77 : decode cX6_fill 77 = .ok (.iconst 0, 1) := by decide +kernel
theorem dX6_fill_78 : decode cX6_fill 78 = .ok (.istore_n 3, 1) := by decide +kernel
theorem dX6_fill_79 : decode cX6_fill 79 = .ok (.iload_n 3, 1) := by decide +kernel
theorem dX6_fill_80 : decode cX6_fill 80 = .ok (.aload_n 0, 1) := by decide +kernel
theorem dX6_fill_81 : decode cX6_fill 81 = .ok (.getfield 10, 3) := by decide +kernel
theorem dX6_fill_84 : decode cX6_fill 84 = .ok (.getfield 161, 3) := by decide +kernel
theorem dX6_fill_87 : decode cX6_fill 87 = .ok (.if_icmp .ge 55, 3) := by decide +kernel
theorem dX6_fill_90 : decode cX6_fill 90 = .ok (.iconst 0, 1) := by decide +kernel
theorem dX6_fill_91 : decode cX6_fill 91 = .ok (.istore 4, 2) := by decide +kernel
theorem dX6_fill_93 : decode cX6_fill 93 = .ok (.iload 4, 2) := by decide +kernel
theorem dX6_fill_95 : decode cX6_fill 95 = .ok (.aload_n 0, 1) := by decide +kernel
theorem dX6_fill_96 : decode cX6_fill 96 = .ok (.getfield 10, 3) := by decide +kernel
theorem dX6_fill_99 : decode cX6_fill 99 = .ok (.getfield 160, 3) := by decide +kernel
theorem dX6_fill_102 : decode cX6_fill 102 = .ok (.if_icmp .ge 34, 3) := by decide +kernel
theorem dX6_fill_105 : decode cX6_fill 105 = .ok (.aload_n 0, 1) := by decide +kernel
theorem dX6_fill_106 : decode cX6_fill 106 = .ok (.getfield 43, 3) := by decide +kernel
theorem dX6_fill_109 : decode cX6_fill 109 = .ok (.iload 4, 2) := by decide +kernel
theorem dX6_fill_111 : decode cX6_fill 111 = .ok (.iload_n 3, 1) := by decide +kernel
theorem dX6_fill_112 : decode cX6_fill 112 = .ok (.invokevirtual 111, 3) := by decide +kernel
theorem dX6_fill_115 : decode cX6_fill 115 = .ok (.iload_n 1, 1) := by decide +kernel
theorem dX6_fill_116 : decode cX6_fill 116 = .ok (.if_icmp .ne 14, 3) := by decide +kernel
theorem dX6_fill_119 : decode cX6_fill 119 = .ok (.aload_n 0, 1) := by decide +kernel
theorem dX6_fill_120 : decode cX6_fill 120 = .ok (.getfield 10, 3) := by decide +kernel
theorem dX6_fill_123 : decode cX6_fill 123 = .ok (.iload 4, 2) := by decide +kernel
theorem dX6_fill_125 : decode cX6_fill 125 = .ok (.iload_n 3, 1) := by decide +kernel
theorem dX6_fill_126 : decode cX6_fill 126 = .ok (.iload_n 2, 1) := by decide +kernel
theorem dX6_fill_127 : decode cX6_fill 127 = .ok (.invokevirtual 202, 3) := by decide +kernel
theorem dX6_fill_130 : decode cX6_fill 130 = .ok (.iinc 4 1, 3) := by decide +kernel
theorem dX6_fill_133 : decode cX6_fill 133 = .ok (.goto (-40), 3) := by decide +kernel
theorem dX6_fill_136 : decode cX6_fill 136 = .ok (.iinc 3 1, 3) := by decide +kernel
theorem dX6_fill_139 : decode cX6_fill 139 = .ok (.goto (-60), 3) := by decide +kernel
theorem dX6_fill_142 : decode cX6_fill 142 = .ok (.aload_n 0, 1) := by decide +kernel
theorem dX6_fill_143 : decode cX6_fill 143 = .ok (.getfield 43, 3) := by decide +kernel
theorem dX6_fill_146 : decode cX6_fill 146 = .ok (.iload_n 1, 1) := by decide +kernel
theorem dX6_fill_147 : decode cX6_fill 147 = .ok (.invokevirtual 122, 3) := by decide +kernel
theorem dX6_fill_150 : decode cX6_fill 150 = .ok (.ireturn, 1) := by decide +kernel
theorem dX6_grow_0 : decode cX6_grow 0 = .ok (.aload_n 0, 1) := by decide +kernel
theorem dX6_grow_1 : decode cX6_grow 1 = .ok (.invokevirtual 206, 3) := by decide +kernel
theorem dX6_grow_4 : decode cX6_grow 4 = .ok (.iconst 0, 1) := by decide +kernel
theorem dX6_grow_5 : decode cX6_grow 5 = .ok (.istore_n 1, 1) := by decide +kernel
theorem dX6_grow_6 : decode cX6_grow 6 = .ok (.iconst 0, 1) := by decide +kernel
theorem dX6_grow_7 : decode cX6_grow 7 = .ok (.istore_n 2, 1) := by decide +kernel
theorem dX6_grow_8 : decode cX6_grow 8 = .ok (.iload_n 2, 1) := by decide +kernel
theorem dX6_grow_9 : decode cX6_grow 9 = .ok (.bipush 48, 2) := by decide +kernel
theorem dX6_grow_11 : decode cX6_grow 11 = .ok (.if_icmp .ge 30, 3) := by decide +kernel
theorem dX6_grow_14 : decode cX6_grow 14 = .ok (.aload_n 0, 1) := by decide +kernel
theorem dX6_grow_15 : decode cX6_grow 15 = .ok (.getfield 60, 3) := by decide +kernel
theorem dX6_grow_18 : decode cX6_grow 18 = .ok (.iload_n 2, 1) := by decide +kernel
theorem dX6_grow_19 : decode cX6_grow 19 = .ok (.iaload, 1) := by decide +kernel
theorem dX6_grow_20 : decode cX6_grow 20 = .ok (.aload_n 0, 1) := by decide +kernel
theorem dX6_grow_21 : decode cX6_grow 21 = .ok (.getfield 10, 3) := by decide +kernel
theorem dX6_grow_24 : decode cX6_grow 24 = .ok (.getfield 209, 3) := by decide +kernel
theorem dX6_grow_27 : decode cX6_grow 27 = .ok (.iload_n 2, 1) := by decide +kernel
theorem dX6_grow_28 : decode cX6_grow 28 = .ok (.iaload, 1) := by decide +kernel
theorem dX6_grow_29 : decode cX6_grow 29 = .ok (.if_icmp .eq 6, 3) := by decide +kernel
theorem dX6_grow_32 : decode cX6_grow 32 = .ok (.iinc 1 1, 3) := by decide +kernel
theorem dX6_grow_35 : decode cX6_grow 35 = .ok (.iinc 2 1, 3) := by decide +kernel
theorem dX6_grow_38 : decode cX6_grow 38 = .ok (.goto (-30), 3) := by decide +kernel
theorem dX6_grow_41 : decode cX6_grow 41 = .ok (.iload_n 1, 1) := by decide +kernel
theorem dX6_grow_42 : decode cX6_grow 42 = .ok (.ifCond .ne 6, 3) := by decide +kernel
theorem dX6_grow_45 : decode cX6_grow 45 = .ok (.bipush (-2), 2) := by decide +kernel
theorem dX6_grow_47 : decode cX6_grow 47 = .ok (.ireturn, 1) := by decide +kernel
theorem dX6_grow_48 : decode cX6_grow 48 = .ok (.aload_n 0, 1) := by decide +kernel
theorem dX6_grow_49 : decode cX6_grow 49 = .ok (.getfield 19, 3) := by decide +kernel
theorem dX6_grow_52 : decode cX6_grow 52 = .ok (.aload_n 0, 1) := by decide +kernel
theorem dX6_grow_53 : decode cX6_grow 53 = .ok (.getfield 10, 3) := by decide +kernel
theorem dX6_grow_56 : decode cX6_grow 56 = .ok (.invokevirtual 196, 3) := by decide +kernel
theorem dX6_grow_59 : decode cX6_grow 59 = .ok (.aload_n 0, 1) := by decide +kernel
theorem dX6_grow_60 : decode cX6_grow 60 = .ok (.getfield 60, 3) := by decide +kernel
theorem dX6_grow_63 : decode cX6_grow 63 = .ok (.iconst 0, 1) := by decide +kernel
theorem dX6_grow_64 : decode cX6_grow 64 = .ok (.aload_n 0, 1) := by decide +kernel
theorem dX6_grow_65 : decode cX6_grow 65 = .ok (.getfield 10, 3) := by decide +kernel
theorem dX6_grow_68 : decode cX6_grow 68 = .ok (.getfield 209, 3) := by decide +kernel
theorem dX6_grow_71 : decode cX6_grow 71 = .ok (.iconst 0, 1) := by decide +kernel
theorem dX6_grow_72 : decode cX6_grow 72 = .ok (.bipush 48, 2) := by decide +kernel
theorem dX6_grow_74 : decode cX6_grow 74 = .ok (.invokestatic 210, 3) := by decide +kernel
theorem dX6_grow_77 : decode cX6_grow 77 = .ok (.iload_n 1, 1) := by decide +kernel
theorem dX6_grow_78 : decode cX6_grow 78 = .ok (.ireturn, 1) := by decide +kernel
theorem dX6_size_0 : decode cX6_size 0 = .ok (.iload_n 1, 1) := by decide +kernel
theorem dX6_size_1 : decode cX6_size 1 = .ok (.iconst 2, 1) := by decide +kernel
theorem dX6_size_2 : decode cX6_size 2 = .ok (.invokestatic 71, 3) := by decide +kernel
theorem dX6_size_5 : decode cX6_size 5 = .ok (.ifCond .eq 23, 3) := by decide +kernel
theorem dX6_size_8 : decode cX6_size 8 = .ok (.iload_n 2, 1) := by decide +kernel
theorem dX6_size_9 : decode cX6_size 9 = .ok (.iconst 1, 1) := by decide +kernel
theorem dX6_size_10 : decode cX6_size 10 = .ok (.if_icmp .lt 18, 3) := by decide +kernel
theorem dX6_size_13 : decode cX6_size 13 = .ok (.iload_n 2, 1) := by decide +kernel
theorem dX6_size_14 : decode cX6_size 14 = .ok (.iload_n 1, 1) := by decide +kernel
theorem dX6_size_15 : decode cX6_size 15 = .ok (.ifCond .ne 8, 3) := by decide +kernel
theorem dX6_size_18 : decode cX6_size 18 = .ok (.bipush 8, 2) := by decide +kernel
theorem dX6_size_20 : decode cX6_size 20 = .ok (.goto 5, 3) := by decide +kernel
theorem dX6_size_23 : decode cX6_size 23 = .ok (.bipush 6, 2) := by decide +kernel
theorem dX6_size_25 : decode cX6_size 25 = .ok (.if_icmp .le 5, 3) := by decide +kernel
theorem dX6_size_28 : decode cX6_size 28 = .ok (.iconst (-1), 1) := by decide +kernel
theorem dX6_size_29 : decode cX6_size 29 = .ok (.ireturn, 1) := by decide +kernel
theorem dX6_size_30 : decode cX6_size 30 = .ok (.iload_n 1, 1) := by decide +kernel
theorem dX6_size_31 : decode cX6_size 31 = .ok (.ifCond .ne 13, 3) := by decide +kernel
theorem dX6_size_34 : decode cX6_size 34 = .ok (.aload_n 0, 1) := by decide +kernel
theorem dX6_size_35 : decode cX6_size 35 = .ok (.getfield 10, 3) := by decide +kernel
theorem dX6_size_38 : decode cX6_size 38 = .ok (.getfield 160, 3) := by decide +kernel
theorem dX6_size_41 : decode cX6_size 41 = .ok (.goto 10, 3) := by decide +kernel
theorem dX6_size_44 : decode cX6_size 44 = .ok (.aload_n 0, 1) := by decide +kernel
theorem dX6_size_45 : decode cX6_size 45 = .ok (.getfield 10, 3) := by decide +kernel
theorem dX6_size_48 : decode cX6_size 48 = .ok (.getfield 161, 3) := by decide +kernel
theorem dX6_size_51 : decode cX6_size 51 = .ok (.istore_n 3, 1) := by decide +kernel
theorem dX6_size_52 : decode cX6_size 52 = .ok (.iload_n 3, 1) := by decide +kernel
theorem dX6_size_53 : decode cX6_size 53 = .ok (.iload_n 2, 1) := by decide +kernel
theorem dX6_size_54 : decode cX6_size 54 = .ok (.if_icmp .ne 6, 3) := by decide +kernel
theorem dX6_size_57 : decode cX6_size 57 = .ok (.bipush (-2), 2) := by decide +kernel
theorem dX6_size_59 : decode cX6_size 59 = .ok (.ireturn, 1) := by decide +kernel
theorem dX6_size_60 : decode cX6_size 60 = .ok (.aload_n 0, 1) := by decide +kernel
theorem dX6_size_61 : decode cX6_size 61 = .ok (.getfield 19, 3) := by decide +kernel
theorem dX6_size_64 : decode cX6_size 64 = .ok (.aload_n 0, 1) := by decide +kernel
theorem dX6_size_65 : decode cX6_size 65 = .ok (.getfield 10, 3) := by decide +kernel
theorem dX6_size_68 : decode cX6_size 68 = .ok (.invokevirtual 196, 3) := by decide +kernel
theorem dX6_size_71 : decode cX6_size 71 = .ok (.iload_n 1, 1) := by decide +kernel
theorem dX6_size_72 : decode cX6_size 72 = .ok (.ifCond .ne 14, 3) := by decide +kernel
theorem dX6_size_75 : decode cX6_size 75 = .ok (.aload_n 0, 1) := by decide +kernel
theorem dX6_size_76 : decode cX6_size 76 = .ok (.getfield 10, 3) := by decide +kernel
theorem dX6_size_79 : decode cX6_size 79 = .ok (.iload_n 2, 1) := by decide +kernel
theorem dX6_size_80 : decode cX6_size 80 = .ok (.putfield 160, 3) := by decide +kernel
theorem dX6_size_83 : decode cX6_size 83 = .ok (.goto 11, 3) := by decide +kernel
theorem dX6_size_86 : decode cX6_size 86 = .ok (.aload_n 0, 1) := by decide +kernel
theorem dX6_size_87 : decode cX6_size 87 = .ok (.getfield 10, 3) := by decide +kernel
theorem dX6_size_90 : decode cX6_size 90 = .ok (.iload_n 2, 1) := by decide +kernel
theorem dX6_size_91 : decode cX6_size 91 = .ok (.putfield 161, 3) := by decide +kernel
theorem dX6_size_94 : decode cX6_size 94 = .ok (.aload_n 0, 1) := by decide +kernel
theorem dX6_size_95 : decode cX6_size 95 = .ok (.getfield 10, 3) := by decide +kernel
theorem dX6_size_98 : decode cX6_size 98 = .ok (.invokevirtual 216, 3) := by decide +kernel
theorem dX6_size_101 : decode cX6_size 101 = .ok (.iload_n 3, 1) := by decide +kernel
theorem dX6_size_102 : decode cX6_size 102 = .ok (.ireturn, 1) := by decide +kernel
theorem dX6_drift_0 : decode cX6_drift 0 = .ok (.iload_n 1, 1) := by decide +kernel
theorem dX6_drift_1 : decode cX6_drift 1 = .ok (.iconst 1, 1) := by decide +kernel
theorem dX6_drift_2 : decode cX6_drift 2 = .ok (.if_icmp .lt 9, 3) := by decide +kernel
theorem dX6_drift_5 : decode cX6_drift 5 = .ok (.iload_n 1, 1) := by decide +kernel
theorem dX6_drift_6 : decode cX6_drift 6 = .ok (.bipush 40, 2) := by decide +kernel
theorem dX6_drift_8 : decode cX6_drift 8 = .ok (.if_icmp .le 5, 3) := by decide +kernel
theorem dX6_drift_11 : decode cX6_drift 11 = .ok (.iconst (-1), 1) := by decide +kernel
theorem dX6_drift_12 : decode cX6_drift 12 = .ok (.ireturn, 1) := by decide +kernel
theorem dX6_drift_13 : decode cX6_drift 13 = .ok (.iconst 0, 1) := by decide +kernel
theorem dX6_drift_14 : decode cX6_drift 14 = .ok (.istore_n 2, 1) := by decide +kernel
theorem dX6_drift_15 : decode cX6_drift 15 = .ok (.iload_n 2, 1) := by decide +kernel
theorem dX6_drift_16 : decode cX6_drift 16 = .ok (.iload_n 1, 1) := by decide +kernel
theorem dX6_drift_17 : decode cX6_drift 17 = .ok (.if_icmp .ge 24, 3) := by decide +kernel
theorem dX6_drift_20 : decode cX6_drift 20 = .ok (.aload_n 0, 1) := by decide +kernel
theorem dX6_drift_21 : decode cX6_drift 21 = .ok (.getfield 19, 3) := by decide +kernel
theorem dX6_drift_24 : decode cX6_drift 24 = .ok (.aload_n 0, 1) := by decide +kernel
theorem dX6_drift_25 : decode cX6_drift 25 = .ok (.getfield 10, 3) := by decide +kernel
theorem dX6_drift_28 : decode cX6_drift 28 = .ok (.invokevirtual 196, 3) := by decide +kernel
theorem dX6_drift_31 : decode cX6_drift 31 = .ok (.aload_n 0, 1) := by decide +kernel
theorem dX6_drift_32 : decode cX6_drift 32 = .ok (.invokevirtual 219, 3) := by decide +kernel
theorem dX6_drift_35 : decode cX6_drift 35 = .ok (.iinc 2 1, 3) := by decide +kernel
theorem dX6_drift_38 : decode cX6_drift 38 = .ok (.goto (-23), 3) := by decide +kernel
theorem dX6_drift_41 : decode cX6_drift 41 = .ok (.aload_n 0, 1) := by decide +kernel
theorem dX6_drift_42 : decode cX6_drift 42 = .ok (.getfield 43, 3) := by decide +kernel
theorem dX6_drift_45 : decode cX6_drift 45 = .ok (.aload_n 0, 1) := by decide +kernel
theorem dX6_drift_46 : decode cX6_drift 46 = .ok (.getfield 10, 3) := by decide +kernel
theorem dX6_drift_49 : decode cX6_drift 49 = .ok (.invokevirtual 107, 3) := by decide +kernel
theorem dX6_drift_52 : decode cX6_drift 52 = .ok (.aload_n 0, 1) := by decide +kernel
theorem dX6_drift_53 : decode cX6_drift 53 = .ok (.getfield 43, 3) := by decide +kernel
theorem dX6_drift_56 : decode cX6_drift 56 = .ok (.getfield 112, 3) := by decide +kernel
theorem dX6_drift_59 : decode cX6_drift 59 = .ok (.ireturn, 1) := by decide +kernel
theorem dX6_undo_0 : decode cX6_undo 0 = .ok (.aload_n 0, 1) := by decide +kernel
theorem dX6_undo_1 : decode cX6_undo 1 = .ok (.getfield 19, 3) := by decide +kernel
theorem dX6_undo_4 : decode cX6_undo 4 = .ok (.aload_n 0, 1) := by decide +kernel
theorem dX6_undo_5 : decode cX6_undo 5 = .ok (.getfield 10, 3) := by decide +kernel
theorem dX6_undo_8 : decode cX6_undo 8 = .ok (.invokevirtual 222, 3) := by decide +kernel
theorem dX6_undo_11 : decode cX6_undo 11 = .ok (.ifCond .eq 13, 3) := by decide +kernel
theorem dX6_undo_14 : decode cX6_undo 14 = .ok (.aload_n 0, 1) := by decide +kernel
theorem dX6_undo_15 : decode cX6_undo 15 = .ok (.getfield 19, 3) := by decide +kernel
theorem dX6_undo_18 : decode cX6_undo 18 = .ok (.getfield 157, 3) := by decide +kernel
theorem dX6_undo_21 : decode cX6_undo 21 = .ok (.goto 5, 3) := by decide +kernel
theorem dX6_undo_24 : decode cX6_undo 24 = .ok (.bipush (-4), 2) := by decide +kernel
theorem dX6_undo_26 : decode cX6_undo 26 = .ok (.ireturn, 1) := by decide +kernel
theorem dX6_seed_0 : decode cX6_seed 0 = .ok (.iload_n 1, 1) := by decide +kernel
theorem dX6_seed_1 : decode cX6_seed 1 = .ok (.ifCond .ge 5, 3) := by decide +kernel
theorem dX6_seed_4 : decode cX6_seed 4 = .ok (.iconst (-1), 1) := by decide +kernel
theorem dX6_seed_5 : decode cX6_seed 5 = .ok (.ireturn, 1) := by decide +kernel
theorem dX6_seed_6 : decode cX6_seed 6 = .ok (.aload_n 0, 1) := by decide +kernel
theorem dX6_seed_7 : decode cX6_seed 7 = .ok (.getfield 10, 3) := by decide +kernel
theorem dX6_seed_10 : decode cX6_seed 10 = .ok (.getfield 226, 3) := by decide +kernel
theorem dX6_seed_13 : decode cX6_seed 13 = .ok (.istore_n 2, 1) := by decide +kernel
theorem dX6_seed_14 : decode cX6_seed 14 = .ok (.aload_n 0, 1) := by decide +kernel
theorem dX6_seed_15 : decode cX6_seed 15 = .ok (.getfield 10, 3) := by decide +kernel
theorem dX6_seed_18 : decode cX6_seed 18 = .ok (.iload_n 1, 1) := by decide +kernel
theorem dX6_seed_19 : decode cX6_seed 19 = .ok (.putfield 226, 3) := by decide +kernel
theorem dX6_seed_22 : decode cX6_seed 22 = .ok (.iload_n 2, 1) := by decide +kernel
theorem dX6_seed_23 : decode cX6_seed 23 = .ok (.ireturn, 1) := by decide +kernel
theorem dX6_gaps_0 : decode cX6_gaps 0 = .ok (.iload_n 1, 1) := by decide +kernel
theorem dX6_gaps_1 : decode cX6_gaps 1 = .ok (.iload_n 2, 1) := by decide +kernel
theorem dX6_gaps_2 : decode cX6_gaps 2 = .ok (.iload_n 3, 1) := by decide +kernel
theorem dX6_gaps_3 : decode cX6_gaps 3 = .ok (.invokestatic 229, 3) := by decide +kernel
theorem dX6_gaps_6 : decode cX6_gaps 6 = .ok (.ifCond .eq 13, 3) := by decide +kernel
theorem dX6_gaps_9 : decode cX6_gaps 9 = .ok (.aload_n 0, 1) := by decide +kernel
theorem dX6_gaps_10 : decode cX6_gaps 10 = .ok (.iload_n 1, 1) := by decide +kernel
theorem dX6_gaps_11 : decode cX6_gaps 11 = .ok (.iload_n 2, 1) := by decide +kernel
theorem dX6_gaps_12 : decode cX6_gaps 12 = .ok (.iload_n 3, 1) := by decide +kernel
theorem dX6_gaps_13 : decode cX6_gaps 13 = .ok (.invokevirtual 233, 3) := by decide +kernel
theorem dX6_gaps_16 : decode cX6_gaps 16 = .ok (.goto 4, 3) := by decide +kernel
theorem dX6_gaps_19 : decode cX6_gaps 19 = .ok (.iconst (-1), 1) := by decide +kernel
theorem dX6_gaps_20 : decode cX6_gaps 20 = .ok (.ireturn, 1) := by decide +kernel
theorem dX6_aside_0 : decode cX6_aside 0 = .ok (.iload_n 1, 1) := by decide +kernel
theorem dX6_aside_1 : decode cX6_aside 1 = .ok (.iload_n 2, 1) := by decide +kernel
theorem dX6_aside_2 : decode cX6_aside 2 = .ok (.iload_n 3, 1) := by decide +kernel
theorem dX6_aside_3 : decode cX6_aside 3 = .ok (.invokestatic 229, 3) := by decide +kernel
theorem dX6_aside_6 : decode cX6_aside 6 = .ok (.ifCond .eq 17, 3) := by decide +kernel
theorem dX6_aside_9 : decode cX6_aside 9 = .ok (.aload_n 0, 1) := by decide +kernel
theorem dX6_aside_10 : decode cX6_aside 10 = .ok (.getfield 10, 3) := by decide +kernel
theorem dX6_aside_13 : decode cX6_aside 13 = .ok (.iload 4, 2) := by decide +kernel
theorem dX6_aside_15 : decode cX6_aside 15 = .ok (.iload 5, 2) := by decide +kernel
theorem dX6_aside_17 : decode cX6_aside 17 = .ok (.invokevirtual 100, 3) := by decide +kernel
theorem dX6_aside_20 : decode cX6_aside 20 = .ok (.ifCond .ne 5, 3) := by decide +kernel
theorem dX6_aside_23 : decode cX6_aside 23 = .ok (.iconst (-1), 1) := by decide +kernel
theorem dX6_aside_24 : decode cX6_aside 24 = .ok (.ireturn, 1) := by decide +kernel
theorem dX6_aside_25 : decode cX6_aside 25 = .ok (.aload_n 0, 1) := by decide +kernel
theorem dX6_aside_26 : decode cX6_aside 26 = .ok (.iload_n 1, 1) := by decide +kernel
theorem dX6_aside_27 : decode cX6_aside 27 = .ok (.iload_n 2, 1) := by decide +kernel
theorem dX6_aside_28 : decode cX6_aside 28 = .ok (.iload_n 3, 1) := by decide +kernel
theorem dX6_aside_29 : decode cX6_aside 29 = .ok (.iload 4, 2) := by decide +kernel
theorem dX6_aside_31 : decode cX6_aside 31 = .ok (.iload 5, 2) := by decide +kernel
theorem dX6_aside_33 : decode cX6_aside 33 = .ok (.invokevirtual 237, 3) := by decide +kernel
theorem dX6_aside_36 : decode cX6_aside 36 = .ok (.ireturn, 1) := by decide +kernel
theorem dX6_fail_0 : decode cX6_fail 0 = .ok (.iload_n 1, 1) := by decide +kernel
theorem dX6_fail_1 : decode cX6_fail 1 = .ok (.ifCond .lt 17, 3) := by decide +kernel
theorem dX6_fail_4 : decode cX6_fail 4 = .ok (.iload_n 1, 1) := by decide +kernel
theorem dX6_fail_5 : decode cX6_fail 5 = .ok (.bipush 10, 2) := by decide +kernel
theorem dX6_fail_7 : decode cX6_fail 7 = .ok (.if_icmp .gt 11, 3) := by decide +kernel
theorem dX6_fail_10 : decode cX6_fail 10 = .ok (.iload_n 2, 1) := by decide +kernel
theorem dX6_fail_11 : decode cX6_fail 11 = .ok (.iconst 2, 1) := by decide +kernel
theorem dX6_fail_12 : decode cX6_fail 12 = .ok (.invokestatic 71, 3) := by decide +kernel
theorem dX6_fail_15 : decode cX6_fail 15 = .ok (.ifCond .ne 5, 3) := by decide +kernel
theorem dX6_fail_18 : decode cX6_fail 18 = .ok (.iconst (-1), 1) := by decide +kernel
theorem dX6_fail_19 : decode cX6_fail 19 = .ok (.ireturn, 1) := by decide +kernel
theorem dX6_fail_20 : decode cX6_fail 20 = .ok (.aload_n 0, 1) := by decide +kernel
theorem dX6_fail_21 : decode cX6_fail 21 = .ok (.iload_n 1, 1) := by decide +kernel
theorem dX6_fail_22 : decode cX6_fail 22 = .ok (.invokevirtual 241, 3) := by decide +kernel
theorem dX6_fail_25 : decode cX6_fail 25 = .ok (.istore_n 3, 1) := by decide +kernel
theorem dX6_fail_26 : decode cX6_fail 26 = .ok (.bipush 10, 2) := by decide +kernel
theorem dX6_fail_28 : decode cX6_fail 28 = .ok (.aload_n 0, 1) := by decide +kernel
theorem dX6_fail_29 : decode cX6_fail 29 = .ok (.getfield 10, 3) := by decide +kernel
theorem dX6_fail_32 : decode cX6_fail 32 = .ok (.invokevirtual 193, 3) := by decide +kernel
theorem dX6_fail_35 : decode cX6_fail 35 = .ok (.invokestatic 244, 3) := by decide +kernel
theorem dX6_fail_38 : decode cX6_fail 38 = .ok (.invokestatic 249, 3) := by decide +kernel
theorem dX6_fail_41 : decode cX6_fail 41 = .ok (.istore 4, 2) := by decide +kernel
theorem dX6_fail_43 : decode cX6_fail 43 = .ok (.iload_n 3, 1) := by decide +kernel
theorem dX6_fail_44 : decode cX6_fail 44 = .ok (.iload 4, 2) := by decide +kernel
theorem dX6_fail_46 : decode cX6_fail 46 = .ok (.invokestatic 252, 3) := by decide +kernel
theorem dX6_fail_49 : decode cX6_fail 49 = .ok (.istore 5, 2) := by decide +kernel
theorem dX6_fail_51 : decode cX6_fail 51 = .ok (.iload 5, 2) := by decide +kernel
theorem dX6_fail_53 : decode cX6_fail 53 = .ok (.iconst 1, 1) := by decide +kernel
theorem dX6_fail_54 : decode cX6_fail 54 = .ok (.if_icmp .ge 5, 3) := by decide +kernel
theorem dX6_fail_57 : decode cX6_fail 57 = .ok (.iconst (-1), 1) := by decide +kernel
theorem dX6_fail_58 : decode cX6_fail 58 = .ok (.ireturn, 1) := by decide +kernel
theorem dX6_fail_59 : decode cX6_fail 59 = .ok (.iload_n 2, 1) := by decide +kernel
theorem dX6_fail_60 : decode cX6_fail 60 = .ok (.ifCond .ne 7, 3) := by decide +kernel
theorem dX6_fail_63 : decode cX6_fail 63 = .ok (.iload_n 3, 1) := by decide +kernel
theorem dX6_fail_64 : decode cX6_fail 64 = .ok (.goto 5, 3) := by decide +kernel
theorem dX6_fail_67 : decode cX6_fail 67 = .ok (.iload 4, 2) := by decide +kernel
theorem dX6_fail_69 : decode cX6_fail 69 = .ok (.iload 5, 2) := by decide +kernel
theorem dX6_fail_71 : decode cX6_fail 71 = .ok (.idiv, 1) := by decide +kernel
theorem dX6_fail_72 : decode cX6_fail 72 = .ok (.ireturn, 1) := by decide +kernel
theorem dX6_image_0 : decode cX6_image 0 = .ok (.aload_n 0, 1) := by decide +kernel
theorem dX6_image_1 : decode cX6_image 1 = .ok (.getfield 23, 3) := by decide +kernel
theorem dX6_image_4 : decode cX6_image 4 = .ok (.aload_n 0, 1) := by decide +kernel
theorem dX6_image_5 : decode cX6_image 5 = .ok (.getfield 10, 3) := by decide +kernel
theorem dX6_image_8 : decode cX6_image 8 = .ok (.invokevirtual 255, 3) := by decide +kernel
theorem dX6_image_11 : decode cX6_image 11 = .ok (.aload_n 0, 1) := by decide +kernel
theorem dX6_image_12 : decode cX6_image 12 = .ok (.getfield 26, 3) := by decide +kernel
theorem dX6_image_15 : decode cX6_image 15 = .ok (.aload_n 0, 1) := by decide +kernel
theorem dX6_image_16 : decode cX6_image 16 = .ok (.getfield 19, 3) := by decide +kernel
theorem dX6_image_19 : decode cX6_image 19 = .ok (.invokevirtual 257, 3) := by decide +kernel
theorem dX6_image_22 : decode cX6_image 22 = .ok (.aload_n 0, 1) := by decide +kernel
theorem dX6_image_23 : decode cX6_image 23 = .ok (.iconst 1, 1) := by decide +kernel
theorem dX6_image_24 : decode cX6_image 24 = .ok (.putfield 29, 3) := by decide +kernel
theorem dX6_image_27 : decode cX6_image 27 = .ok (.iconst 1, 1) := by decide +kernel
theorem dX6_image_28 : decode cX6_image 28 = .ok (.ireturn, 1) := by decide +kernel
theorem dX6_restore_0 : decode cX6_restore 0 = .ok (.aload_n 0, 1) := by decide +kernel
theorem dX6_restore_1 : decode cX6_restore 1 = .ok (.getfield 29, 3) := by decide +kernel
theorem dX6_restore_4 : decode cX6_restore 4 = .ok (.ifCond .ne 6, 3) := by decide +kernel
theorem dX6_restore_7 : decode cX6_restore 7 = .ok (.bipush (-4), 2) := by decide +kernel
theorem dX6_restore_9 : decode cX6_restore 9 = .ok (.ireturn, 1) := by decide +kernel
theorem dX6_restore_10 : decode cX6_restore 10 = .ok (.aload_n 0, 1) := by decide +kernel
theorem dX6_restore_11 : decode cX6_restore 11 = .ok (.getfield 10, 3) := by decide +kernel
theorem dX6_restore_14 : decode cX6_restore 14 = .ok (.aload_n 0, 1) := by decide +kernel
theorem dX6_restore_15 : decode cX6_restore 15 = .ok (.getfield 23, 3) := by decide +kernel
theorem dX6_restore_18 : decode cX6_restore 18 = .ok (.invokevirtual 255, 3) := by decide +kernel
theorem dX6_restore_21 : decode cX6_restore 21 = .ok (.aload_n 0, 1) := by decide +kernel
theorem dX6_restore_22 : decode cX6_restore 22 = .ok (.getfield 19, 3) := by decide +kernel
theorem dX6_restore_25 : decode cX6_restore 25 = .ok (.aload_n 0, 1) := by decide +kernel
theorem dX6_restore_26 : decode cX6_restore 26 = .ok (.getfield 26, 3) := by decide +kernel
theorem dX6_restore_29 : decode cX6_restore 29 = .ok (.invokevirtual 257, 3) := by decide +kernel
theorem dX6_restore_32 : decode cX6_restore 32 = .ok (.iconst 1, 1) := by decide +kernel
theorem dX6_restore_33 : decode cX6_restore 33 = .ok (.ireturn, 1) := by decide +kernel
theorem dX6_seen_0 : decode cX6_seen 0 = .ok (.iload_n 1, 1) := by decide +kernel
theorem dX6_seen_1 : decode cX6_seen 1 = .ok (.iconst 5, 1) := by decide +kernel
theorem dX6_seen_2 : decode cX6_seen 2 = .ok (.invokestatic 71, 3) := by decide +kernel
theorem dX6_seen_5 : decode cX6_seen 5 = .ok (.ifCond .eq 24, 3) := by decide +kernel
theorem dX6_seen_8 : decode cX6_seen 8 = .ok (.iload_n 2, 1) := by decide +kernel
theorem dX6_seen_9 : decode cX6_seen 9 = .ok (.iload_n 3, 1) := by decide +kernel
theorem dX6_seen_10 : decode cX6_seen 10 = .ok (.invokestatic 260, 3) := by decide +kernel
theorem dX6_seen_13 : decode cX6_seen 13 = .ok (.ifCond .eq 16, 3) := by decide +kernel
theorem dX6_seen_16 : decode cX6_seen 16 = .ok (.iload 5, 2) := by decide +kernel
theorem dX6_seen_18 : decode cX6_seen 18 = .ok (.iconst 1, 1) := by decide +kernel
theorem dX6_seen_19 : decode cX6_seen 19 = .ok (.if_icmp .lt 10, 3) := by decide +kernel
theorem dX6_seen_22 : decode cX6_seen 22 = .ok (.iload 5, 2) := by decide +kernel
theorem dX6_seen_24 : decode cX6_seen 24 = .ok (.bipush 6, 2) := by decide +kernel
theorem dX6_seen_26 : decode cX6_seen 26 = .ok (.if_icmp .le 5, 3) := by decide +kernel
theorem dX6_seen_29 : decode cX6_seen 29 = .ok (.iconst (-1), 1) := by decide +kernel
theorem dX6_seen_30 : decode cX6_seen 30 = .ok (.ireturn, 1) := by decide +kernel
theorem dX6_seen_31 : decode cX6_seen 31 = .ok (.aload_n 0, 1) := by decide +kernel
theorem dX6_seen_32 : decode cX6_seen 32 = .ok (.getfield 56, 3) := by decide +kernel
theorem dX6_seen_35 : decode cX6_seen 35 = .ok (.iload_n 2, 1) := by decide +kernel
theorem dX6_seen_36 : decode cX6_seen 36 = .ok (.aaload, 1) := by decide +kernel
theorem dX6_seen_37 : decode cX6_seen 37 = .ok (.astore 6, 2) := by decide +kernel
theorem dX6_seen_39 : decode cX6_seen 39 = .ok (.aload 6, 2) := by decide +kernel
theorem dX6_seen_41 : decode cX6_seen 41 = .ok (.iload_n 3, 1) := by decide +kernel
theorem dX6_seen_42 : decode cX6_seen 42 = .ok (.iload 4, 2) := by decide +kernel
theorem dX6_seen_44 : decode cX6_seen 44 = .ok (.iconst 2, 1) := by decide +kernel
theorem dX6_seen_45 : decode cX6_seen 45 = .ok (.iload 5, 2) := by decide +kernel
theorem dX6_seen_47 : decode cX6_seen 47 = .ok (.imul, 1) := by decide +kernel
theorem dX6_seen_48 : decode cX6_seen 48 = .ok (.invokevirtual 263, 3) := by decide +kernel
theorem dX6_seen_51 : decode cX6_seen 51 = .ok (.istore 7, 2) := by decide +kernel
theorem dX6_seen_53 : decode cX6_seen 53 = .ok (.iload 7, 2) := by decide +kernel
theorem dX6_seen_55 : decode cX6_seen 55 = .ok (.ifCond .eq 6, 3) := by decide +kernel
theorem dX6_seen_58 : decode cX6_seen 58 = .ok (.iload 7, 2) := by decide +kernel
theorem dX6_seen_60 : decode cX6_seen 60 = .ok (.ireturn, 1) := by decide +kernel
theorem dX6_seen_61 : decode cX6_seen 61 = .ok (.aload 6, 2) := by decide +kernel
theorem dX6_seen_63 : decode cX6_seen 63 = .ok (.iload 4, 2) := by decide +kernel
theorem dX6_seen_65 : decode cX6_seen 65 = .ok (.iload 5, 2) := by decide +kernel
theorem dX6_seen_67 : decode cX6_seen 67 = .ok (.invokestatic 266, 3) := by decide +kernel
theorem dX6_seen_70 : decode cX6_seen 70 = .ok (.ifCond .eq 17, 3) := by decide +kernel
theorem dX6_seen_73 : decode cX6_seen 73 = .ok (.aload_n 0, 1) := by decide +kernel
theorem dX6_seen_74 : decode cX6_seen 74 = .ok (.iload_n 1, 1) := by decide +kernel
theorem dX6_seen_75 : decode cX6_seen 75 = .ok (.aload 6, 2) := by decide +kernel
theorem dX6_seen_77 : decode cX6_seen 77 = .ok (.iload 4, 2) := by decide +kernel
theorem dX6_seen_79 : decode cX6_seen 79 = .ok (.iload 5, 2) := by decide +kernel
theorem dX6_seen_81 : decode cX6_seen 81 = .ok (.invokevirtual 270, 3) := by decide +kernel
theorem dX6_seen_84 : decode cX6_seen 84 = .ok (.goto 5, 3) := by decide +kernel
theorem dX6_seen_87 : decode cX6_seen 87 = .ok (.bipush (-2), 2) := by decide +kernel
theorem dX6_seen_89 : decode cX6_seen 89 = .ok (.ireturn, 1) := by decide +kernel
theorem dX6_film_0 : decode cX6_film 0 = .ok (.iload_n 1, 1) := by decide +kernel
theorem dX6_film_1 : decode cX6_film 1 = .ok (.aload_n 0, 1) := by decide +kernel
theorem dX6_film_2 : decode cX6_film 2 = .ok (.getfield 10, 3) := by decide +kernel
theorem dX6_film_5 : decode cX6_film 5 = .ok (.getfield 161, 3) := by decide +kernel
theorem dX6_film_8 : decode cX6_film 8 = .ok (.invokestatic 71, 3) := by decide +kernel
theorem dX6_film_11 : decode cX6_film 11 = .ok (.ifCond .eq 11, 3) := by decide +kernel
theorem dX6_film_14 : decode cX6_film 14 = .ok (.iload_n 2, 1) := by decide +kernel
theorem dX6_film_15 : decode cX6_film 15 = .ok (.iload_n 3, 1) := by decide +kernel
theorem dX6_film_16 : decode cX6_film 16 = .ok (.invokestatic 260, 3) := by decide +kernel
theorem dX6_film_19 : decode cX6_film 19 = .ok (.ifCond .ne 5, 3) := by decide +kernel
theorem dX6_film_22 : decode cX6_film 22 = .ok (.iconst (-1), 1) := by decide +kernel
theorem dX6_film_23 : decode cX6_film 23 = .ok (.ireturn, 1) := by decide +kernel
theorem dX6_film_24 : decode cX6_film 24 = .ok (.aload_n 0, 1) := by decide +kernel
theorem dX6_film_25 : decode cX6_film 25 = .ok (.getfield 56, 3) := by decide +kernel
theorem dX6_film_28 : decode cX6_film 28 = .ok (.iload_n 2, 1) := by decide +kernel
theorem dX6_film_29 : decode cX6_film 29 = .ok (.aaload, 1) := by decide +kernel
theorem dX6_film_30 : decode cX6_film 30 = .ok (.astore 5, 2) := by decide +kernel
theorem dX6_film_32 : decode cX6_film 32 = .ok (.aload 5, 2) := by decide +kernel
theorem dX6_film_34 : decode cX6_film 34 = .ok (.iload_n 3, 1) := by decide +kernel
theorem dX6_film_35 : decode cX6_film 35 = .ok (.iload 4, 2) := by decide +kernel
theorem dX6_film_37 : decode cX6_film 37 = .ok (.aload_n 0, 1) := by decide +kernel
theorem dX6_film_38 : decode cX6_film 38 = .ok (.getfield 10, 3) := by decide +kernel
theorem dX6_film_41 : decode cX6_film 41 = .ok (.getfield 160, 3) := by decide +kernel
theorem dX6_film_44 : decode cX6_film 44 = .ok (.invokevirtual 263, 3) := by decide +kernel
theorem dX6_film_47 : decode cX6_film 47 = .ok (.istore 6, 2) := by decide +kernel
theorem dX6_film_49 : decode cX6_film 49 = .ok (.iload 6, 2) := by decide +kernel
theorem dX6_film_51 : decode cX6_film 51 = .ok (.ifCond .eq 6, 3) := by decide +kernel
theorem dX6_film_54 : decode cX6_film 54 = .ok (.iload 6, 2) := by decide +kernel
theorem dX6_film_56 : decode cX6_film 56 = .ok (.ireturn, 1) := by decide +kernel
theorem dX6_film_57 : decode cX6_film 57 = .ok (.iconst 0, 1) := by decide +kernel
theorem dX6_film_58 : decode cX6_film 58 = .ok (.istore 7, 2) := by decide +kernel
theorem dX6_film_60 : decode cX6_film 60 = .ok (.iload 7, 2) := by decide +kernel
theorem dX6_film_62 : decode cX6_film 62 = .ok (.aload_n 0, 1) := by decide +kernel
theorem dX6_film_63 : decode cX6_film 63 = .ok (.getfield 10, 3) := by decide +kernel
theorem dX6_film_66 : decode cX6_film 66 = .ok (.getfield 160, 3) := by decide +kernel
theorem dX6_film_69 : decode cX6_film 69 = .ok (.if_icmp .ge 34, 3) := by decide +kernel
theorem dX6_film_72 : decode cX6_film 72 = .ok (.aload 5, 2) := by decide +kernel
theorem dX6_film_74 : decode cX6_film 74 = .ok (.iload 4, 2) := by decide +kernel
theorem dX6_film_76 : decode cX6_film 76 = .ok (.iload 7, 2) := by decide +kernel
theorem dX6_film_78 : decode cX6_film 78 = .ok (.iadd, 1) := by decide +kernel
theorem dX6_film_79 : decode cX6_film 79 = .ok (.aload_n 0, 1) := by decide +kernel
theorem dX6_film_80 : decode cX6_film 80 = .ok (.aload_n 0, 1) := by decide +kernel
theorem dX6_film_81 : decode cX6_film 81 = .ok (.getfield 10, 3) := by decide +kernel
theorem dX6_film_84 : decode cX6_film 84 = .ok (.iload 7, 2) := by decide +kernel
theorem dX6_film_86 : decode cX6_film 86 = .ok (.iload_n 1, 1) := by decide +kernel
theorem dX6_film_87 : decode cX6_film 87 = .ok (.invokevirtual 103, 3) := by decide +kernel
theorem dX6_film_90 : decode cX6_film 90 = .ok (.invokevirtual 85, 3) := by decide +kernel
theorem dX6_film_93 : decode cX6_film 93 = .ok (.i2l, 1) := by decide +kernel
theorem dX6_film_94 : decode cX6_film 94 = .ok (.invokevirtual 274, 3) := by decide +kernel
theorem dX6_film_97 : decode cX6_film 97 = .ok (.iinc 7 1, 3) := by decide +kernel
theorem dX6_film_100 : decode cX6_film 100 = .ok (.goto (-40), 3) := by decide +kernel
theorem dX6_film_103 : decode cX6_film 103 = .ok (.aload_n 0, 1) := by decide +kernel
theorem dX6_film_104 : decode cX6_film 104 = .ok (.getfield 10, 3) := by decide +kernel
theorem dX6_film_107 : decode cX6_film 107 = .ok (.getfield 160, 3) := by decide +kernel
theorem dX6_film_110 : decode cX6_film 110 = .ok (.ireturn, 1) := by decide +kernel
theorem dX6_sheet_0 : decode cX6_sheet 0 = .ok (.iload_n 1, 1) := by decide +kernel
theorem dX6_sheet_1 : decode cX6_sheet 1 = .ok (.iload_n 2, 1) := by decide +kernel
theorem dX6_sheet_2 : decode cX6_sheet 2 = .ok (.invokestatic 260, 3) := by decide +kernel
theorem dX6_sheet_5 : decode cX6_sheet 5 = .ok (.ifCond .eq 9, 3) := by decide +kernel
theorem dX6_sheet_8 : decode cX6_sheet 8 = .ok (.iload_n 3, 1) := by decide +kernel
theorem dX6_sheet_9 : decode cX6_sheet 9 = .ok (.bipush 24, 2) := by decide +kernel
theorem dX6_sheet_11 : decode cX6_sheet 11 = .ok (.if_icmp .le 5, 3) := by decide +kernel
theorem dX6_sheet_14 : decode cX6_sheet 14 = .ok (.iconst (-1), 1) := by decide +kernel
theorem dX6_sheet_15 : decode cX6_sheet 15 = .ok (.ireturn, 1) := by decide +kernel
theorem dX6_sheet_16 : decode cX6_sheet 16 = .ok (.iload_n 3, 1) := by decide +kernel
theorem dX6_sheet_17 : decode cX6_sheet 17 = .ok (.ifCond .ge 6, 3) := by decide +kernel
theorem dX6_sheet_20 : decode cX6_sheet 20 = .ok (.bipush (-14), 2) := by decide +kernel
theorem dX6_sheet_22 : decode cX6_sheet 22 = .ok (.ireturn, 1) := by decide +kernel
theorem dX6_sheet_23 : decode cX6_sheet 23 = .ok (.aload_n 0, 1) := by decide +kernel
theorem dX6_sheet_24 : decode cX6_sheet 24 = .ok (.getfield 56, 3) := by decide +kernel
theorem dX6_sheet_27 : decode cX6_sheet 27 = .ok (.iload_n 1, 1) := by decide +kernel
theorem dX6_sheet_28 : decode cX6_sheet 28 = .ok (.aaload, 1) := by decide +kernel
theorem dX6_sheet_29 : decode cX6_sheet 29 = .ok (.iload_n 2, 1) := by decide +kernel
theorem dX6_sheet_30 : decode cX6_sheet 30 = .ok (.iload_n 3, 1) := by decide +kernel
theorem dX6_sheet_31 : decode cX6_sheet 31 = .ok (.invokevirtual 277, 3) := by decide +kernel
theorem dX6_sheet_34 : decode cX6_sheet 34 = .ok (.iload_n 3, 1) := by decide +kernel
theorem dX6_sheet_35 : decode cX6_sheet 35 = .ok (.ireturn, 1) := by decide +kernel
theorem dX6_drop_0 : decode cX6_drop 0 = .ok (.iload_n 1, 1) := by decide +kernel
theorem dX6_drop_1 : decode cX6_drop 1 = .ok (.iconst 4, 1) := by decide +kernel
theorem dX6_drop_2 : decode cX6_drop 2 = .ok (.invokestatic 71, 3) := by decide +kernel
theorem dX6_drop_5 : decode cX6_drop 5 = .ok (.ifCond .ne 5, 3) := by decide +kernel
theorem dX6_drop_8 : decode cX6_drop 8 = .ok (.iconst (-1), 1) := by decide +kernel
theorem dX6_drop_9 : decode cX6_drop 9 = .ok (.ireturn, 1) := by decide +kernel
theorem dX6_drop_10 : decode cX6_drop 10 = .ok (.aload_n 0, 1) := by decide +kernel
theorem dX6_drop_11 : decode cX6_drop 11 = .ok (.getfield 56, 3) := by decide +kernel
theorem dX6_drop_14 : decode cX6_drop 14 = .ok (.iload_n 1, 1) := by decide +kernel
theorem dX6_drop_15 : decode cX6_drop 15 = .ok (.aaload, 1) := by decide +kernel
theorem dX6_drop_16 : decode cX6_drop 16 = .ok (.astore_n 2, 1) := by decide +kernel
theorem dX6_drop_17 : decode cX6_drop 17 = .ok (.aload_n 2, 1) := by decide +kernel
theorem dX6_drop_18 : decode cX6_drop 18 = .ok (.getfield 281, 3) := by decide +kernel
theorem dX6_drop_21 : decode cX6_drop 21 = .ok (.ifCond .ne 6, 3) := by decide +kernel
theorem dX6_drop_24 : decode cX6_drop 24 = .ok (.bipush (-11), 2) := by decide +kernel
theorem dX6_drop_26 : decode cX6_drop 26 = .ok (.ireturn, 1) := by decide +kernel
theorem dX6_drop_27 : decode cX6_drop 27 = .ok (.aload_n 2, 1) := by decide +kernel
theorem dX6_drop_28 : decode cX6_drop 28 = .ok (.iconst 0, 1) := by decide +kernel
theorem dX6_drop_29 : decode cX6_drop 29 = .ok (.putfield 281, 3) := by decide +kernel
theorem dX6_drop_32 : decode cX6_drop 32 = .ok (.aload_n 2, 1) := by decide +kernel
theorem dX6_drop_33 : decode cX6_drop 33 = .ok (.getfield 284, 3) := by decide +kernel
theorem dX6_drop_36 : decode cX6_drop 36 = .ok (.ireturn, 1) := by decide +kernel
theorem dX6_item_0 : decode cX6_item 0 = .ok (.iload_n 1, 1) := by decide +kernel
theorem dX6_item_1 : decode cX6_item 1 = .ok (.iload_n 2, 1) := by decide +kernel
theorem dX6_item_2 : decode cX6_item 2 = .ok (.invokestatic 260, 3) := by decide +kernel
theorem dX6_item_5 : decode cX6_item 5 = .ok (.ifCond .ne 5, 3) := by decide +kernel
theorem dX6_item_8 : decode cX6_item 8 = .ok (.iconst (-1), 1) := by decide +kernel
theorem dX6_item_9 : decode cX6_item 9 = .ok (.ireturn, 1) := by decide +kernel
theorem dX6_item_10 : decode cX6_item 10 = .ok (.aload_n 0, 1) := by decide +kernel
theorem dX6_item_11 : decode cX6_item 11 = .ok (.getfield 56, 3) := by decide +kernel
theorem dX6_item_14 : decode cX6_item 14 = .ok (.iload_n 1, 1) := by decide +kernel
theorem dX6_item_15 : decode cX6_item 15 = .ok (.aaload, 1) := by decide +kernel
theorem dX6_item_16 : decode cX6_item 16 = .ok (.iload_n 2, 1) := by decide +kernel
theorem dX6_item_17 : decode cX6_item 17 = .ok (.iload_n 3, 1) := by decide +kernel
theorem dX6_item_18 : decode cX6_item 18 = .ok (.iconst 1, 1) := by decide +kernel
theorem dX6_item_19 : decode cX6_item 19 = .ok (.invokevirtual 263, 3) := by decide +kernel
theorem dX6_item_22 : decode cX6_item 22 = .ok (.istore 6, 2) := by decide +kernel
theorem dX6_item_24 : decode cX6_item 24 = .ok (.iload 6, 2) := by decide +kernel
theorem dX6_item_26 : decode cX6_item 26 = .ok (.ifCond .eq 6, 3) := by decide +kernel
theorem dX6_item_29 : decode cX6_item 29 = .ok (.iload 6, 2) := by decide +kernel
theorem dX6_item_31 : decode cX6_item 31 = .ok (.ireturn, 1) := by decide +kernel
theorem dX6_item_32 : decode cX6_item 32 = .ok (.aload_n 0, 1) := by decide +kernel
theorem dX6_item_33 : decode cX6_item 33 = .ok (.getfield 56, 3) := by decide +kernel
theorem dX6_item_36 : decode cX6_item 36 = .ok (.iload_n 1, 1) := by decide +kernel
theorem dX6_item_37 : decode cX6_item 37 = .ok (.aaload, 1) := by decide +kernel
theorem dX6_item_38 : decode cX6_item 38 = .ok (.iload_n 3, 1) := by decide +kernel
theorem dX6_item_39 : decode cX6_item 39 = .ok (.lload 4, 2) := by decide +kernel
theorem dX6_item_41 : decode cX6_item 41 = .ok (.invokevirtual 274, 3) := by decide +kernel
theorem dX6_item_44 : decode cX6_item 44 = .ok (.iconst 1, 1) := by decide +kernel
theorem dX6_item_45 : decode cX6_item 45 = .ok (.ireturn, 1) := by decide +kernel
theorem dX6_copy_0 : decode cX6_copy 0 = .ok (.iload_n 1, 1) := by decide +kernel
theorem dX6_copy_1 : decode cX6_copy 1 = .ok (.iconst 4, 1) := by decide +kernel
theorem dX6_copy_2 : decode cX6_copy 2 = .ok (.invokestatic 71, 3) := by decide +kernel
theorem dX6_copy_5 : decode cX6_copy 5 = .ok (.ifCond .eq 11, 3) := by decide +kernel
theorem dX6_copy_8 : decode cX6_copy 8 = .ok (.iload_n 3, 1) := by decide +kernel
theorem dX6_copy_9 : decode cX6_copy 9 = .ok (.iconst 4, 1) := by decide +kernel
theorem dX6_copy_10 : decode cX6_copy 10 = .ok (.invokestatic 71, 3) := by decide +kernel
theorem dX6_copy_13 : decode cX6_copy 13 = .ok (.ifCond .ne 5, 3) := by decide +kernel
theorem dX6_copy_16 : decode cX6_copy 16 = .ok (.iconst (-1), 1) := by decide +kernel
theorem dX6_copy_17 : decode cX6_copy 17 = .ok (.ireturn, 1) := by decide +kernel
theorem dX6_copy_18 : decode cX6_copy 18 = .ok (.aload_n 0, 1) := by decide +kernel
theorem dX6_copy_19 : decode cX6_copy 19 = .ok (.getfield 56, 3) := by decide +kernel
theorem dX6_copy_22 : decode cX6_copy 22 = .ok (.iload_n 1, 1) := by decide +kernel
theorem dX6_copy_23 : decode cX6_copy 23 = .ok (.aaload, 1) := by decide +kernel
theorem dX6_copy_24 : decode cX6_copy 24 = .ok (.astore 6, 2) := by decide +kernel
theorem dX6_copy_26 : decode cX6_copy 26 = .ok (.aload_n 0, 1) := by decide +kernel
theorem dX6_copy_27 : decode cX6_copy 27 = .ok (.getfield 56, 3) := by decide +kernel
theorem dX6_copy_30 : decode cX6_copy 30 = .ok (.iload_n 3, 1) := by decide +kernel
theorem dX6_copy_31 : decode cX6_copy 31 = .ok (.aaload, 1) := by decide +kernel
theorem dX6_copy_32 : decode cX6_copy 32 = .ok (.astore 7, 2) := by decide +kernel
theorem dX6_copy_34 : decode cX6_copy 34 = .ok (.aload 6, 2) := by decide +kernel
theorem dX6_copy_36 : decode cX6_copy 36 = .ok (.getfield 281, 3) := by decide +kernel
theorem dX6_copy_39 : decode cX6_copy 39 = .ok (.ifCond .eq 11, 3) := by decide +kernel
theorem dX6_copy_42 : decode cX6_copy 42 = .ok (.aload 7, 2) := by decide +kernel
theorem dX6_copy_44 : decode cX6_copy 44 = .ok (.getfield 281, 3) := by decide +kernel
theorem dX6_copy_47 : decode cX6_copy 47 = .ok (.ifCond .ne 6, 3) := by decide +kernel
theorem dX6_copy_50 : decode cX6_copy 50 = .ok (.bipush (-11), 2) := by decide +kernel
theorem dX6_copy_52 : decode cX6_copy 52 = .ok (.ireturn, 1) := by decide +kernel
theorem dX6_copy_53 : decode cX6_copy 53 = .ok (.aload 6, 2) := by decide +kernel
theorem dX6_copy_55 : decode cX6_copy 55 = .ok (.getfield 285, 3) := by decide +kernel
theorem dX6_copy_58 : decode cX6_copy 58 = .ok (.aload 7, 2) := by decide +kernel
theorem dX6_copy_60 : decode cX6_copy 60 = .ok (.getfield 285, 3) := by decide +kernel
theorem dX6_copy_63 : decode cX6_copy 63 = .ok (.if_icmp .eq 6, 3) := by decide +kernel
theorem dX6_copy_66 : decode cX6_copy 66 = .ok (.bipush (-12), 2) := by decide +kernel
theorem dX6_copy_68 : decode cX6_copy 68 = .ok (.ireturn, 1) := by decide +kernel
theorem dX6_copy_69 : decode cX6_copy 69 = .ok (.aload 6, 2) := by decide +kernel
theorem dX6_copy_71 : decode cX6_copy 71 = .ok (.iload_n 2, 1) := by decide +kernel
theorem dX6_copy_72 : decode cX6_copy 72 = .ok (.iload 5, 2) := by decide +kernel
theorem dX6_copy_74 : decode cX6_copy 74 = .ok (.invokevirtual 288, 3) := by decide +kernel
theorem dX6_copy_77 : decode cX6_copy 77 = .ok (.ifCond .eq 15, 3) := by decide +kernel
theorem dX6_copy_80 : decode cX6_copy 80 = .ok (.aload 7, 2) := by decide +kernel
theorem dX6_copy_82 : decode cX6_copy 82 = .ok (.iload 4, 2) := by decide +kernel
theorem dX6_copy_84 : decode cX6_copy 84 = .ok (.iload 5, 2) := by decide +kernel
theorem dX6_copy_86 : decode cX6_copy 86 = .ok (.invokevirtual 288, 3) := by decide +kernel
theorem dX6_copy_89 : decode cX6_copy 89 = .ok (.ifCond .ne 6, 3) := by decide +kernel
theorem dX6_copy_92 : decode cX6_copy 92 = .ok (.bipush (-13), 2) := by decide +kernel
theorem dX6_copy_94 : decode cX6_copy 94 = .ok (.ireturn, 1) := by decide +kernel
theorem dX6_copy_95 : decode cX6_copy 95 = .ok (.aload 6, 2) := by decide +kernel
theorem dX6_copy_97 : decode cX6_copy 97 = .ok (.getfield 291, 3) := by decide +kernel
theorem dX6_copy_100 : decode cX6_copy 100 = .ok (.iload_n 2, 1) := by decide +kernel
theorem dX6_copy_101 : decode cX6_copy 101 = .ok (.aload 7, 2) := by decide +kernel
theorem dX6_copy_103 : decode cX6_copy 103 = .ok (.getfield 291, 3) := by decide +kernel
theorem dX6_copy_106 : decode cX6_copy 106 = .ok (.iload 4, 2) := by decide +kernel
theorem dX6_copy_108 : decode cX6_copy 108 = .ok (.iload 5, 2) := by decide +kernel
theorem dX6_copy_110 : decode cX6_copy 110 = .ok (.invokestatic 210, 3) := by decide +kernel
theorem dX6_copy_113 : decode cX6_copy 113 = .ok (.iload 5, 2) := by decide +kernel
theorem dX6_copy_115 : decode cX6_copy 115 = .ok (.ireturn, 1) := by decide +kernel
theorem dX6_isBelow_0 : decode cX6_isBelow 0 = .ok (.iload_n 0, 1) := by decide +kernel
theorem dX6_isBelow_1 : decode cX6_isBelow 1 = .ok (.ifCond .lt 12, 3) := by decide +kernel
theorem dX6_isBelow_4 : decode cX6_isBelow 4 = .ok (.iload_n 0, 1) := by decide +kernel
theorem dX6_isBelow_5 : decode cX6_isBelow 5 = .ok (.iload_n 1, 1) := by decide +kernel
theorem dX6_isBelow_6 : decode cX6_isBelow 6 = .ok (.if_icmp .ge 7, 3) := by decide +kernel
theorem dX6_isBelow_9 : decode cX6_isBelow 9 = .ok (.iconst 1, 1) := by decide +kernel
theorem dX6_isBelow_10 : decode cX6_isBelow 10 = .ok (.goto 4, 3) := by decide +kernel
theorem dX6_isBelow_13 : decode cX6_isBelow 13 = .ok (.iconst 0, 1) := by decide +kernel
theorem dX6_isBelow_14 : decode cX6_isBelow 14 = .ok (.ireturn, 1) := by decide +kernel
theorem dX6_hasBit_0 : decode cX6_hasBit 0 = .ok (.iload_n 0, 1) := by decide +kernel
theorem dX6_hasBit_1 : decode cX6_hasBit 1 = .ok (.iload_n 1, 1) := by decide +kernel
theorem dX6_hasBit_2 : decode cX6_hasBit 2 = .ok (.ishr, 1) := by decide +kernel
theorem dX6_hasBit_3 : decode cX6_hasBit 3 = .ok (.iconst 1, 1) := by decide +kernel
theorem dX6_hasBit_4 : decode cX6_hasBit 4 = .ok (.iand, 1) := by decide +kernel
theorem dX6_hasBit_5 : decode cX6_hasBit 5 = .ok (.iconst 1, 1) := by decide +kernel
theorem dX6_hasBit_6 : decode cX6_hasBit 6 = .ok (.if_icmp .ne 7, 3) := by decide +kernel
theorem dX6_hasBit_9 : decode cX6_hasBit 9 = .ok (.iconst 1, 1) := by decide +kernel
theorem dX6_hasBit_10 : decode cX6_hasBit 10 = .ok (.goto 4, 3) := by decide +kernel
theorem dX6_hasBit_13 : decode cX6_hasBit 13 = .ok (.iconst 0, 1) := by decide +kernel
theorem dX6_hasBit_14 : decode cX6_hasBit 14 = .ok (.ireturn, 1) := by decide +kernel
theorem dX6_isPlateAside_0 : decode cX6_isPlateAside 0 = .ok (.iload_n 0, 1) := by decide +kernel
theorem dX6_isPlateAside_1 : decode cX6_isPlateAside 1 = .ok (.iconst 5, 1) := by decide +kernel
theorem dX6_isPlateAside_2 : decode cX6_isPlateAside 2 = .ok (.invokestatic 71, 3) := by decide +kernel
theorem dX6_isPlateAside_5 : decode cX6_isPlateAside 5 = .ok (.ifCond .eq 27, 3) := by decide +kernel
theorem dX6_isPlateAside_8 : decode cX6_isPlateAside 8 = .ok (.iload_n 1, 1) := by decide +kernel
theorem dX6_isPlateAside_9 : decode cX6_isPlateAside 9 = .ok (.iconst (-1), 1) := by decide +kernel
theorem dX6_isPlateAside_10 : decode cX6_isPlateAside 10 = .ok (.if_icmp .lt 22, 3) := by decide +kernel
theorem dX6_isPlateAside_13 : decode cX6_isPlateAside 13 = .ok (.iload_n 1, 1) := by decide +kernel
theorem dX6_isPlateAside_14 : decode cX6_isPlateAside 14 = .ok (.iconst 1, 1) := by decide +kernel
theorem dX6_isPlateAside_15 : decode cX6_isPlateAside 15 = .ok (.if_icmp .gt 17, 3) := by decide +kernel
theorem dX6_isPlateAside_18 : decode cX6_isPlateAside 18 = .ok (.iload_n 2, 1) := by decide +kernel
theorem dX6_isPlateAside_19 : decode cX6_isPlateAside 19 = .ok (.iconst (-1), 1) := by decide +kernel
theorem dX6_isPlateAside_20 : decode cX6_isPlateAside 20 = .ok (.if_icmp .lt 12, 3) := by decide +kernel
theorem dX6_isPlateAside_23 : decode cX6_isPlateAside 23 = .ok (.iload_n 2, 1) := by decide +kernel
theorem dX6_isPlateAside_24 : decode cX6_isPlateAside 24 = .ok (.iconst 1, 1) := by decide +kernel
theorem dX6_isPlateAside_25 : decode cX6_isPlateAside 25 = .ok (.if_icmp .gt 7, 3) := by decide +kernel
theorem dX6_isPlateAside_28 : decode cX6_isPlateAside 28 = .ok (.iconst 1, 1) := by decide +kernel
theorem dX6_isPlateAside_29 : decode cX6_isPlateAside 29 = .ok (.goto 4, 3) := by decide +kernel
theorem dX6_isPlateAside_32 : decode cX6_isPlateAside 32 = .ok (.iconst 0, 1) := by decide +kernel
theorem dX6_isPlateAside_33 : decode cX6_isPlateAside 33 = .ok (.ireturn, 1) := by decide +kernel
theorem dX6_isTaking_0 : decode cX6_isTaking 0 = .ok (.iload_n 0, 1) := by decide +kernel
theorem dX6_isTaking_1 : decode cX6_isTaking 1 = .ok (.iconst 4, 1) := by decide +kernel
theorem dX6_isTaking_2 : decode cX6_isTaking 2 = .ok (.invokestatic 71, 3) := by decide +kernel
theorem dX6_isTaking_5 : decode cX6_isTaking 5 = .ok (.ifCond .eq 15, 3) := by decide +kernel
theorem dX6_isTaking_8 : decode cX6_isTaking 8 = .ok (.iload_n 1, 1) := by decide +kernel
theorem dX6_isTaking_9 : decode cX6_isTaking 9 = .ok (.iconst 4, 1) := by decide +kernel
theorem dX6_isTaking_10 : decode cX6_isTaking 10 = .ok (.invokestatic 71, 3) := by decide +kernel
theorem dX6_isTaking_13 : decode cX6_isTaking 13 = .ok (.ifCond .eq 7, 3) := by decide +kernel
theorem dX6_isTaking_16 : decode cX6_isTaking 16 = .ok (.iconst 1, 1) := by decide +kernel
theorem dX6_isTaking_17 : decode cX6_isTaking 17 = .ok (.goto 4, 3) := by decide +kernel
theorem dX6_isTaking_20 : decode cX6_isTaking 20 = .ok (.iconst 0, 1) := by decide +kernel
theorem dX6_isTaking_21 : decode cX6_isTaking 21 = .ok (.ireturn, 1) := by decide +kernel
theorem dX6_isOrder_0 : decode cX6_isOrder 0 = .ok (.iload_n 0, 1) := by decide +kernel
theorem dX6_isOrder_1 : decode cX6_isOrder 1 = .ok (.ifCond .lt 10, 3) := by decide +kernel
theorem dX6_isOrder_4 : decode cX6_isOrder 4 = .ok (.iload_n 0, 1) := by decide +kernel
theorem dX6_isOrder_5 : decode cX6_isOrder 5 = .ok (.ldc_w 295, 3) := by decide +kernel
theorem dX6_isOrder_8 : decode cX6_isOrder 8 = .ok (.if_icmp .le 5, 3) := by decide +kernel
theorem dX6_isOrder_11 : decode cX6_isOrder 11 = .ok (.iconst 0, 1) := by decide +kernel
theorem dX6_isOrder_12 : decode cX6_isOrder 12 = .ok (.ireturn, 1) := by decide +kernel
theorem dX6_isOrder_13 : decode cX6_isOrder 13 = .ok (.iconst 0, 1) := by decide +kernel
theorem dX6_isOrder_14 : decode cX6_isOrder 14 = .ok (.istore_n 1, 1) := by decide +kernel
theorem dX6_isOrder_15 : decode cX6_isOrder 15 = .ok (.iload_n 0, 1) := by decide +kernel
theorem dX6_isOrder_16 : decode cX6_isOrder 16 = .ok (.istore_n 2, 1) := by decide +kernel
theorem dX6_isOrder_17 : decode cX6_isOrder 17 = .ok (.iconst 0, 1) := by decide +kernel
theorem dX6_isOrder_18 : decode cX6_isOrder 18 = .ok (.istore_n 3, 1) := by decide +kernel
theorem dX6_isOrder_19 : decode cX6_isOrder 19 = .ok (.iload_n 3, 1) := by decide +kernel
theorem dX6_isOrder_20 : decode cX6_isOrder 20 = .ok (.iconst 5, 1) := by decide +kernel
theorem dX6_isOrder_21 : decode cX6_isOrder 21 = .ok (.if_icmp .ge 23, 3) := by decide +kernel
theorem dX6_isOrder_24 : decode cX6_isOrder 24 = .ok (.iload_n 1, 1) := by decide +kernel
theorem dX6_isOrder_25 : decode cX6_isOrder 25 = .ok (.iconst 1, 1) := by decide +kernel
theorem dX6_isOrder_26 : decode cX6_isOrder 26 = .ok (.iload_n 2, 1) := by decide +kernel
theorem dX6_isOrder_27 : decode cX6_isOrder 27 = .ok (.bipush 10, 2) := by decide +kernel
theorem dX6_isOrder_29 : decode cX6_isOrder 29 = .ok (.irem, 1) := by decide +kernel
theorem dX6_isOrder_30 : decode cX6_isOrder 30 = .ok (.ishl, 1) := by decide +kernel
theorem dX6_isOrder_31 : decode cX6_isOrder 31 = .ok (.ior, 1) := by decide +kernel
theorem dX6_isOrder_32 : decode cX6_isOrder 32 = .ok (.istore_n 1, 1) := by decide +kernel
theorem dX6_isOrder_33 : decode cX6_isOrder 33 = .ok (.iload_n 2, 1) := by decide +kernel
theorem dX6_isOrder_34 : decode cX6_isOrder 34 = .ok (.bipush 10, 2) := by decide +kernel
theorem dX6_isOrder_36 : decode cX6_isOrder 36 = .ok (.idiv, 1) := by decide +kernel
theorem dX6_isOrder_37 : decode cX6_isOrder 37 = .ok (.istore_n 2, 1) := by decide +kernel
theorem dX6_isOrder_38 : decode cX6_isOrder 38 = .ok (.iinc 3 1, 3) := by decide +kernel
theorem dX6_isOrder_41 : decode cX6_isOrder 41 = .ok (.goto (-22), 3) := by decide +kernel
theorem dX6_isOrder_44 : decode cX6_isOrder 44 = .ok (.iload_n 1, 1) := by decide +kernel
theorem dX6_isOrder_45 : decode cX6_isOrder 45 = .ok (.bipush 31, 2) := by decide +kernel
theorem dX6_isOrder_47 : decode cX6_isOrder 47 = .ok (.if_icmp .ne 7, 3) := by decide +kernel
theorem dX6_isOrder_50 : decode cX6_isOrder 50 = .ok (.iconst 1, 1) := by decide +kernel
theorem dX6_isOrder_51 : decode cX6_isOrder 51 = .ok (.goto 4, 3) := by decide +kernel
theorem dX6_isOrder_54 : decode cX6_isOrder 54 = .ok (.iconst 0, 1) := by decide +kernel
theorem dX6_isOrder_55 : decode cX6_isOrder 55 = .ok (.ireturn, 1) := by decide +kernel
theorem dX6_figuresOf_0 : decode cX6_figuresOf 0 = .ok (.iconst 0, 1) := by decide +kernel
theorem dX6_figuresOf_1 : decode cX6_figuresOf 1 = .ok (.istore_n 1, 1) := by decide +kernel
theorem dX6_figuresOf_2 : decode cX6_figuresOf 2 = .ok (.iconst 0, 1) := by decide +kernel
theorem dX6_figuresOf_3 : decode cX6_figuresOf 3 = .ok (.istore_n 2, 1) := by decide +kernel
theorem dX6_figuresOf_4 : decode cX6_figuresOf 4 = .ok (.iload_n 2, 1) := by decide +kernel
theorem dX6_figuresOf_5 : decode cX6_figuresOf 5 = .ok (.iconst 5, 1) := by decide +kernel
theorem dX6_figuresOf_6 : decode cX6_figuresOf 6 = .ok (.if_icmp .ge 18, 3) := by decide +kernel
theorem dX6_figuresOf_9 : decode cX6_figuresOf 9 = .ok (.iload_n 1, 1) := by decide +kernel
theorem dX6_figuresOf_10 : decode cX6_figuresOf 10 = .ok (.bipush 10, 2) := by decide +kernel
theorem dX6_figuresOf_12 : decode cX6_figuresOf 12 = .ok (.imul, 1) := by decide +kernel
theorem dX6_figuresOf_13 : decode cX6_figuresOf 13 = .ok (.aload_n 0, 1) := by decide +kernel
theorem dX6_figuresOf_14 : decode cX6_figuresOf 14 = .ok (.iload_n 2, 1) := by decide +kernel
theorem dX6_figuresOf_15 : decode cX6_figuresOf 15 = .ok (.iaload, 1) := by decide +kernel
theorem dX6_figuresOf_16 : decode cX6_figuresOf 16 = .ok (.iadd, 1) := by decide +kernel
theorem dX6_figuresOf_17 : decode cX6_figuresOf 17 = .ok (.istore_n 1, 1) := by decide +kernel
theorem dX6_figuresOf_18 : decode cX6_figuresOf 18 = .ok (.iinc 2 1, 3) := by decide +kernel
theorem dX6_figuresOf_21 : decode cX6_figuresOf 21 = .ok (.goto (-17), 3) := by decide +kernel
theorem dX6_figuresOf_24 : decode cX6_figuresOf 24 = .ok (.iload_n 1, 1) := by decide +kernel
theorem dX6_figuresOf_25 : decode cX6_figuresOf 25 = .ok (.ireturn, 1) := by decide +kernel
theorem dX6_printedOver_0 : decode cX6_printedOver 0 = .ok (.iload_n 1, 1) := by decide +kernel
theorem dX6_printedOver_1 : decode cX6_printedOver 1 = .ok (.iload_n 2, 1) := by decide +kernel
theorem dX6_printedOver_2 : decode cX6_printedOver 2 = .ok (.imul, 1) := by decide +kernel
theorem dX6_printedOver_3 : decode cX6_printedOver 3 = .ok (.bipush 15, 2) := by decide +kernel
theorem dX6_printedOver_5 : decode cX6_printedOver 5 = .ok (.idiv, 1) := by decide +kernel
theorem dX6_printedOver_6 : decode cX6_printedOver 6 = .ok (.istore_n 3, 1) := by decide +kernel
theorem dX6_printedOver_7 : decode cX6_printedOver 7 = .ok (.iload_n 0, 1) := by decide +kernel
theorem dX6_printedOver_8 : decode cX6_printedOver 8 = .ok (.tableswitch 45 1 3 #[28, 30, 36], 28) := by decide +kernel
theorem dX6_printedOver_36 : decode cX6_printedOver 36 = .ok (.iload_n 2, 1) := by decide +kernel
theorem dX6_printedOver_37 : decode cX6_printedOver 37 = .ok (.ireturn, 1) := by decide +kernel
theorem dX6_printedOver_38 : decode cX6_printedOver 38 = .ok (.iload_n 3, 1) := by decide +kernel
theorem dX6_printedOver_39 : decode cX6_printedOver 39 = .ok (.iload_n 2, 1) := by decide +kernel
theorem dX6_printedOver_40 : decode cX6_printedOver 40 = .ok (.iadd, 1) := by decide +kernel
theorem dX6_printedOver_41 : decode cX6_printedOver 41 = .ok (.iconst 2, 1) := by decide +kernel
theorem dX6_printedOver_42 : decode cX6_printedOver 42 = .ok (.idiv, 1) := by decide +kernel
theorem dX6_printedOver_43 : decode cX6_printedOver 43 = .ok (.ireturn, 1) := by decide +kernel
theorem dX6_printedOver_44 : decode cX6_printedOver 44 = .ok (.iload_n 2, 1) := by decide +kernel
theorem dX6_printedOver_45 : decode cX6_printedOver 45 = .ok (.iconst 1, 1) := by decide +kernel
theorem dX6_printedOver_46 : decode cX6_printedOver 46 = .ok (.iadd, 1) := by decide +kernel
theorem dX6_printedOver_47 : decode cX6_printedOver 47 = .ok (.bipush 15, 2) := by decide +kernel
theorem dX6_printedOver_49 : decode cX6_printedOver 49 = .ok (.invokestatic 296, 3) := by decide +kernel
theorem dX6_printedOver_52 : decode cX6_printedOver 52 = .ok (.ireturn, 1) := by decide +kernel
theorem dX6_printedOver_53 : decode cX6_printedOver 53 = .ok (.iload_n 3, 1) := by decide +kernel
theorem dX6_printedOver_54 : decode cX6_printedOver 54 = .ok (.ireturn, 1) := by decide +kernel
theorem dX6_lookBy_0 : decode cX6_lookBy 0 = .ok (.iconst 0, 1) := by decide +kernel
theorem dX6_lookBy_1 : decode cX6_lookBy 1 = .ok (.istore 4, 2) := by decide +kernel
theorem dX6_lookBy_3 : decode cX6_lookBy 3 = .ok (.bipush 8, 2) := by decide +kernel
theorem dX6_lookBy_5 : decode cX6_lookBy 5 = .ok (.istore 5, 2) := by decide +kernel
theorem dX6_lookBy_7 : decode cX6_lookBy 7 = .ok (.iload 5, 2) := by decide +kernel
theorem dX6_lookBy_9 : decode cX6_lookBy 9 = .ok (.ifCond .lt 83, 3) := by decide +kernel
theorem dX6_lookBy_12 : decode cX6_lookBy 12 = .ok (.bipush 15, 2) := by decide +kernel
theorem dX6_lookBy_14 : decode cX6_lookBy 14 = .ok (.istore 6, 2) := by decide +kernel
theorem dX6_lookBy_16 : decode cX6_lookBy 16 = .ok (.iconst 0, 1) := by decide +kernel
theorem dX6_lookBy_17 : decode cX6_lookBy 17 = .ok (.istore 7, 2) := by decide +kernel
theorem dX6_lookBy_19 : decode cX6_lookBy 19 = .ok (.iload 7, 2) := by decide +kernel
theorem dX6_lookBy_21 : decode cX6_lookBy 21 = .ok (.iconst 5, 1) := by decide +kernel
theorem dX6_lookBy_22 : decode cX6_lookBy 22 = .ok (.if_icmp .ge 54, 3) := by decide +kernel
theorem dX6_lookBy_25 : decode cX6_lookBy 25 = .ok (.aload_n 2, 1) := by decide +kernel
theorem dX6_lookBy_26 : decode cX6_lookBy 26 = .ok (.iload 7, 2) := by decide +kernel
theorem dX6_lookBy_28 : decode cX6_lookBy 28 = .ok (.iaload, 1) := by decide +kernel
theorem dX6_lookBy_29 : decode cX6_lookBy 29 = .ok (.istore 8, 2) := by decide +kernel
theorem dX6_lookBy_31 : decode cX6_lookBy 31 = .ok (.iload 8, 2) := by decide +kernel
theorem dX6_lookBy_33 : decode cX6_lookBy 33 = .ok (.iconst 5, 1) := by decide +kernel
theorem dX6_lookBy_34 : decode cX6_lookBy 34 = .ok (.invokestatic 71, 3) := by decide +kernel
theorem dX6_lookBy_37 : decode cX6_lookBy 37 = .ok (.ifCond .eq 33, 3) := by decide +kernel
theorem dX6_lookBy_40 : decode cX6_lookBy 40 = .ok (.iload_n 3, 1) := by decide +kernel
theorem dX6_lookBy_41 : decode cX6_lookBy 41 = .ok (.iload 8, 2) := by decide +kernel
theorem dX6_lookBy_43 : decode cX6_lookBy 43 = .ok (.invokestatic 301, 3) := by decide +kernel
theorem dX6_lookBy_46 : decode cX6_lookBy 46 = .ok (.ifCond .eq 24, 3) := by decide +kernel
theorem dX6_lookBy_49 : decode cX6_lookBy 49 = .ok (.aload_n 0, 1) := by decide +kernel
theorem dX6_lookBy_50 : decode cX6_lookBy 50 = .ok (.iload 8, 2) := by decide +kernel
theorem dX6_lookBy_52 : decode cX6_lookBy 52 = .ok (.iaload, 1) := by decide +kernel
theorem dX6_lookBy_53 : decode cX6_lookBy 53 = .ok (.iload 6, 2) := by decide +kernel
theorem dX6_lookBy_55 : decode cX6_lookBy 55 = .ok (.aload_n 1, 1) := by decide +kernel
theorem dX6_lookBy_56 : decode cX6_lookBy 56 = .ok (.iload 8, 2) := by decide +kernel
theorem dX6_lookBy_58 : decode cX6_lookBy 58 = .ok (.iaload, 1) := by decide +kernel
theorem dX6_lookBy_59 : decode cX6_lookBy 59 = .ok (.iload 5, 2) := by decide +kernel
theorem dX6_lookBy_61 : decode cX6_lookBy 61 = .ok (.ishr, 1) := by decide +kernel
theorem dX6_lookBy_62 : decode cX6_lookBy 62 = .ok (.bipush 15, 2) := by decide +kernel
theorem dX6_lookBy_64 : decode cX6_lookBy 64 = .ok (.iand, 1) := by decide +kernel
theorem dX6_lookBy_65 : decode cX6_lookBy 65 = .ok (.invokestatic 304, 3) := by decide +kernel
theorem dX6_lookBy_68 : decode cX6_lookBy 68 = .ok (.istore 6, 2) := by decide +kernel
theorem dX6_lookBy_70 : decode cX6_lookBy 70 = .ok (.iinc 7 1, 3) := by decide +kernel
theorem dX6_lookBy_73 : decode cX6_lookBy 73 = .ok (.goto (-54), 3) := by decide +kernel
theorem dX6_lookBy_76 : decode cX6_lookBy 76 = .ok (.iload 4, 2) := by decide +kernel
theorem dX6_lookBy_78 : decode cX6_lookBy 78 = .ok (.bipush 16, 2) := by decide +kernel
theorem dX6_lookBy_80 : decode cX6_lookBy 80 = .ok (.imul, 1) := by decide +kernel
theorem dX6_lookBy_81 : decode cX6_lookBy 81 = .ok (.iload 6, 2) := by decide +kernel
theorem dX6_lookBy_83 : decode cX6_lookBy 83 = .ok (.iadd, 1) := by decide +kernel
theorem dX6_lookBy_84 : decode cX6_lookBy 84 = .ok (.istore 4, 2) := by decide +kernel
theorem dX6_lookBy_86 : decode cX6_lookBy 86 = .ok (.iinc 5 (-4), 3) := by decide +kernel
theorem dX6_lookBy_89 : decode cX6_lookBy 89 = .ok (.goto (-82), 3) := by decide +kernel
theorem dX6_lookBy_92 : decode cX6_lookBy 92 = .ok (.iload 4, 2) := by decide +kernel
theorem dX6_lookBy_94 : decode cX6_lookBy 94 = .ok (.ireturn, 1) := by decide +kernel
theorem dX6_darkOf_0 : decode cX6_darkOf 0 = .ok (.bipush 45, 2) := by decide +kernel
theorem dX6_darkOf_2 : decode cX6_darkOf 2 = .ok (.iload_n 0, 1) := by decide +kernel
theorem dX6_darkOf_3 : decode cX6_darkOf 3 = .ok (.bipush 8, 2) := by decide +kernel
theorem dX6_darkOf_5 : decode cX6_darkOf 5 = .ok (.ishr, 1) := by decide +kernel
theorem dX6_darkOf_6 : decode cX6_darkOf 6 = .ok (.isub, 1) := by decide +kernel
theorem dX6_darkOf_7 : decode cX6_darkOf 7 = .ok (.iload_n 0, 1) := by decide +kernel
theorem dX6_darkOf_8 : decode cX6_darkOf 8 = .ok (.iconst 4, 1) := by decide +kernel
theorem dX6_darkOf_9 : decode cX6_darkOf 9 = .ok (.ishr, 1) := by decide +kernel
theorem dX6_darkOf_10 : decode cX6_darkOf 10 = .ok (.bipush 15, 2) := by decide +kernel
theorem dX6_darkOf_12 : decode cX6_darkOf 12 = .ok (.iand, 1) := by decide +kernel
theorem dX6_darkOf_13 : decode cX6_darkOf 13 = .ok (.isub, 1) := by decide +kernel
theorem dX6_darkOf_14 : decode cX6_darkOf 14 = .ok (.iload_n 0, 1) := by decide +kernel
theorem dX6_darkOf_15 : decode cX6_darkOf 15 = .ok (.bipush 15, 2) := by decide +kernel
theorem dX6_darkOf_17 : decode cX6_darkOf 17 = .ok (.iand, 1) := by decide +kernel
theorem dX6_darkOf_18 : decode cX6_darkOf 18 = .ok (.isub, 1) := by decide +kernel
theorem dX6_darkOf_19 : decode cX6_darkOf 19 = .ok (.ireturn, 1) := by decide +kernel
theorem dX6_lookNow_0 : decode cX6_lookNow 0 = .ok (.aload_n 0, 1) := by decide +kernel
theorem dX6_lookNow_1 : decode cX6_lookNow 1 = .ok (.getfield 10, 3) := by decide +kernel
theorem dX6_lookNow_4 : decode cX6_lookNow 4 = .ok (.getfield 75, 3) := by decide +kernel
theorem dX6_lookNow_7 : decode cX6_lookNow 7 = .ok (.aload_n 0, 1) := by decide +kernel
theorem dX6_lookNow_8 : decode cX6_lookNow 8 = .ok (.getfield 10, 3) := by decide +kernel
theorem dX6_lookNow_11 : decode cX6_lookNow 11 = .ok (.getfield 78, 3) := by decide +kernel
theorem dX6_lookNow_14 : decode cX6_lookNow 14 = .ok (.aload_n 0, 1) := by decide +kernel
theorem dX6_lookNow_15 : decode cX6_lookNow 15 = .ok (.getfield 10, 3) := by decide +kernel
theorem dX6_lookNow_18 : decode cX6_lookNow 18 = .ok (.getfield 164, 3) := by decide +kernel
theorem dX6_lookNow_21 : decode cX6_lookNow 21 = .ok (.iload_n 1, 1) := by decide +kernel
theorem dX6_lookNow_22 : decode cX6_lookNow 22 = .ok (.invokestatic 307, 3) := by decide +kernel
theorem dX6_lookNow_25 : decode cX6_lookNow 25 = .ok (.ireturn, 1) := by decide +kernel
theorem dX6_alikeTo_0 : decode cX6_alikeTo 0 = .ok (.aload_n 0, 1) := by decide +kernel
theorem dX6_alikeTo_1 : decode cX6_alikeTo 1 = .ok (.getfield 36, 3) := by decide +kernel
theorem dX6_alikeTo_4 : decode cX6_alikeTo 4 = .ok (.aload_n 0, 1) := by decide +kernel
theorem dX6_alikeTo_5 : decode cX6_alikeTo 5 = .ok (.getfield 10, 3) := by decide +kernel
theorem dX6_alikeTo_8 : decode cX6_alikeTo 8 = .ok (.invokevirtual 311, 3) := by decide +kernel
theorem dX6_alikeTo_11 : decode cX6_alikeTo 11 = .ok (.aload_n 0, 1) := by decide +kernel
theorem dX6_alikeTo_12 : decode cX6_alikeTo 12 = .ok (.getfield 36, 3) := by decide +kernel
theorem dX6_alikeTo_15 : decode cX6_alikeTo 15 = .ok (.iload_n 1, 1) := by decide +kernel
theorem dX6_alikeTo_16 : decode cX6_alikeTo 16 = .ok (.invokevirtual 312, 3) := by decide +kernel
theorem dX6_alikeTo_19 : decode cX6_alikeTo 19 = .ok (.ireturn, 1) := by decide +kernel
theorem dX6_unlikeLooks_0 : decode cX6_unlikeLooks 0 = .ok (.aload_n 0, 1) := by decide +kernel
theorem dX6_unlikeLooks_1 : decode cX6_unlikeLooks 1 = .ok (.getfield 36, 3) := by decide +kernel
theorem dX6_unlikeLooks_4 : decode cX6_unlikeLooks 4 = .ok (.aload_n 0, 1) := by decide +kernel
theorem dX6_unlikeLooks_5 : decode cX6_unlikeLooks 5 = .ok (.getfield 10, 3) := by decide +kernel
theorem dX6_unlikeLooks_8 : decode cX6_unlikeLooks 8 = .ok (.invokevirtual 311, 3) := by decide +kernel
theorem dX6_unlikeLooks_11 : decode cX6_unlikeLooks 11 = .ok (.aload_n 0, 1) := by decide +kernel
theorem dX6_unlikeLooks_12 : decode cX6_unlikeLooks 12 = .ok (.getfield 36, 3) := by decide +kernel
theorem dX6_unlikeLooks_15 : decode cX6_unlikeLooks 15 = .ok (.aload_n 0, 1) := by decide +kernel
theorem dX6_unlikeLooks_16 : decode cX6_unlikeLooks 16 = .ok (.getfield 10, 3) := by decide +kernel
theorem dX6_unlikeLooks_19 : decode cX6_unlikeLooks 19 = .ok (.invokevirtual 313, 3) := by decide +kernel
theorem dX6_unlikeLooks_22 : decode cX6_unlikeLooks 22 = .ok (.invokevirtual 316, 3) := by decide +kernel
theorem dX6_unlikeLooks_25 : decode cX6_unlikeLooks 25 = .ok (.ireturn, 1) := by decide +kernel
theorem dX6_fewestInks_0 : decode cX6_fewestInks 0 = .ok (.aload_n 0, 1) := by decide +kernel
theorem dX6_fewestInks_1 : decode cX6_fewestInks 1 = .ok (.getfield 36, 3) := by decide +kernel
theorem dX6_fewestInks_4 : decode cX6_fewestInks 4 = .ok (.aload_n 0, 1) := by decide +kernel
theorem dX6_fewestInks_5 : decode cX6_fewestInks 5 = .ok (.getfield 10, 3) := by decide +kernel
theorem dX6_fewestInks_8 : decode cX6_fewestInks 8 = .ok (.invokevirtual 311, 3) := by decide +kernel
theorem dX6_fewestInks_11 : decode cX6_fewestInks 11 = .ok (.aload_n 0, 1) := by decide +kernel
theorem dX6_fewestInks_12 : decode cX6_fewestInks 12 = .ok (.getfield 36, 3) := by decide +kernel
theorem dX6_fewestInks_15 : decode cX6_fewestInks 15 = .ok (.aload_n 0, 1) := by decide +kernel
theorem dX6_fewestInks_16 : decode cX6_fewestInks 16 = .ok (.getfield 10, 3) := by decide +kernel
theorem dX6_fewestInks_19 : decode cX6_fewestInks 19 = .ok (.invokevirtual 313, 3) := by decide +kernel
theorem dX6_fewestInks_22 : decode cX6_fewestInks 22 = .ok (.invokevirtual 319, 3) := by decide +kernel
theorem dX6_fewestInks_25 : decode cX6_fewestInks 25 = .ok (.ireturn, 1) := by decide +kernel
theorem dX6_printedBy_0 : decode cX6_printedBy 0 = .ok (.iconst 1, 1) := by decide +kernel
theorem dX6_printedBy_1 : decode cX6_printedBy 1 = .ok (.iload_n 1, 1) := by decide +kernel
theorem dX6_printedBy_2 : decode cX6_printedBy 2 = .ok (.ishl, 1) := by decide +kernel
theorem dX6_printedBy_3 : decode cX6_printedBy 3 = .ok (.istore 6, 2) := by decide +kernel
theorem dX6_printedBy_5 : decode cX6_printedBy 5 = .ok (.aload_n 0, 1) := by decide +kernel
theorem dX6_printedBy_6 : decode cX6_printedBy 6 = .ok (.getfield 10, 3) := by decide +kernel
theorem dX6_printedBy_9 : decode cX6_printedBy 9 = .ok (.iload 4, 2) := by decide +kernel
theorem dX6_printedBy_11 : decode cX6_printedBy 11 = .ok (.iload 5, 2) := by decide +kernel
theorem dX6_printedBy_13 : decode cX6_printedBy 13 = .ok (.invokevirtual 103, 3) := by decide +kernel
theorem dX6_printedBy_16 : decode cX6_printedBy 16 = .ok (.iload 6, 2) := by decide +kernel
theorem dX6_printedBy_18 : decode cX6_printedBy 18 = .ok (.iconst (-1), 1) := by decide +kernel
theorem dX6_printedBy_19 : decode cX6_printedBy 19 = .ok (.ixor, 1) := by decide +kernel
theorem dX6_printedBy_20 : decode cX6_printedBy 20 = .ok (.iand, 1) := by decide +kernel
theorem dX6_printedBy_21 : decode cX6_printedBy 21 = .ok (.aload_n 0, 1) := by decide +kernel
theorem dX6_printedBy_22 : decode cX6_printedBy 22 = .ok (.getfield 10, 3) := by decide +kernel
theorem dX6_printedBy_25 : decode cX6_printedBy 25 = .ok (.iload 4, 2) := by decide +kernel
theorem dX6_printedBy_27 : decode cX6_printedBy 27 = .ok (.iload_n 2, 1) := by decide +kernel
theorem dX6_printedBy_28 : decode cX6_printedBy 28 = .ok (.isub, 1) := by decide +kernel
theorem dX6_printedBy_29 : decode cX6_printedBy 29 = .ok (.iload 5, 2) := by decide +kernel
theorem dX6_printedBy_31 : decode cX6_printedBy 31 = .ok (.iload_n 3, 1) := by decide +kernel
theorem dX6_printedBy_32 : decode cX6_printedBy 32 = .ok (.isub, 1) := by decide +kernel
theorem dX6_printedBy_33 : decode cX6_printedBy 33 = .ok (.invokevirtual 103, 3) := by decide +kernel
theorem dX6_printedBy_36 : decode cX6_printedBy 36 = .ok (.iload 6, 2) := by decide +kernel
theorem dX6_printedBy_38 : decode cX6_printedBy 38 = .ok (.iand, 1) := by decide +kernel
theorem dX6_printedBy_39 : decode cX6_printedBy 39 = .ok (.ior, 1) := by decide +kernel
theorem dX6_printedBy_40 : decode cX6_printedBy 40 = .ok (.ireturn, 1) := by decide +kernel
theorem dX6_gapsBy_0 : decode cX6_gapsBy 0 = .ok (.iconst 0, 1) := by decide +kernel
theorem dX6_gapsBy_1 : decode cX6_gapsBy 1 = .ok (.istore 4, 2) := by decide +kernel
theorem dX6_gapsBy_3 : decode cX6_gapsBy 3 = .ok (.iconst 0, 1) := by decide +kernel
theorem dX6_gapsBy_4 : decode cX6_gapsBy 4 = .ok (.istore 5, 2) := by decide +kernel
theorem dX6_gapsBy_6 : decode cX6_gapsBy 6 = .ok (.iload 5, 2) := by decide +kernel
theorem dX6_gapsBy_8 : decode cX6_gapsBy 8 = .ok (.aload_n 0, 1) := by decide +kernel
theorem dX6_gapsBy_9 : decode cX6_gapsBy 9 = .ok (.getfield 10, 3) := by decide +kernel
theorem dX6_gapsBy_12 : decode cX6_gapsBy 12 = .ok (.getfield 161, 3) := by decide +kernel
theorem dX6_gapsBy_15 : decode cX6_gapsBy 15 = .ok (.if_icmp .ge 61, 3) := by decide +kernel
theorem dX6_gapsBy_18 : decode cX6_gapsBy 18 = .ok (.iconst 0, 1) := by decide +kernel
theorem dX6_gapsBy_19 : decode cX6_gapsBy 19 = .ok (.istore 6, 2) := by decide +kernel
theorem dX6_gapsBy_21 : decode cX6_gapsBy 21 = .ok (.iload 6, 2) := by decide +kernel
theorem dX6_gapsBy_23 : decode cX6_gapsBy 23 = .ok (.aload_n 0, 1) := by decide +kernel
theorem dX6_gapsBy_24 : decode cX6_gapsBy 24 = .ok (.getfield 10, 3) := by decide +kernel
theorem dX6_gapsBy_27 : decode cX6_gapsBy 27 = .ok (.getfield 160, 3) := by decide +kernel
theorem dX6_gapsBy_30 : decode cX6_gapsBy 30 = .ok (.if_icmp .ge 40, 3) := by decide +kernel
theorem dX6_gapsBy_33 : decode cX6_gapsBy 33 = .ok (.aload_n 0, 1) := by decide +kernel
theorem dX6_gapsBy_34 : decode cX6_gapsBy 34 = .ok (.getfield 10, 3) := by decide +kernel
theorem dX6_gapsBy_37 : decode cX6_gapsBy 37 = .ok (.iload 6, 2) := by decide +kernel
theorem dX6_gapsBy_39 : decode cX6_gapsBy 39 = .ok (.iload 5, 2) := by decide +kernel
theorem dX6_gapsBy_41 : decode cX6_gapsBy 41 = .ok (.invokevirtual 103, 3) := by decide +kernel
theorem dX6_gapsBy_44 : decode cX6_gapsBy 44 = .ok (.ifCond .eq 20, 3) := by decide +kernel
theorem dX6_gapsBy_47 : decode cX6_gapsBy 47 = .ok (.aload_n 0, 1) := by decide +kernel
theorem dX6_gapsBy_48 : decode cX6_gapsBy 48 = .ok (.iload_n 1, 1) := by decide +kernel
theorem dX6_gapsBy_49 : decode cX6_gapsBy 49 = .ok (.iload_n 2, 1) := by decide +kernel
theorem dX6_gapsBy_50 : decode cX6_gapsBy 50 = .ok (.iload_n 3, 1) := by decide +kernel
theorem dX6_gapsBy_51 : decode cX6_gapsBy 51 = .ok (.iload 6, 2) := by decide +kernel
theorem dX6_gapsBy_53 : decode cX6_gapsBy 53 = .ok (.iload 5, 2) := by decide +kernel
theorem dX6_gapsBy_55 : decode cX6_gapsBy 55 = .ok (.invokevirtual 237, 3) := by decide +kernel
theorem dX6_gapsBy_58 : decode cX6_gapsBy 58 = .ok (.ifCond .ne 6, 3) := by decide +kernel
theorem dX6_gapsBy_61 : decode cX6_gapsBy 61 = .ok (.iinc 4 1, 3) := by decide +kernel
theorem dX6_gapsBy_64 : decode cX6_gapsBy 64 = .ok (.iinc 6 1, 3) := by decide +kernel
theorem dX6_gapsBy_67 : decode cX6_gapsBy 67 = .ok (.goto (-46), 3) := by decide +kernel
theorem dX6_gapsBy_70 : decode cX6_gapsBy 70 = .ok (.iinc 5 1, 3) := by decide +kernel
theorem dX6_gapsBy_73 : decode cX6_gapsBy 73 = .ok (.goto (-67), 3) := by decide +kernel
theorem dX6_gapsBy_76 : decode cX6_gapsBy 76 = .ok (.iload 4, 2) := by decide +kernel
theorem dX6_gapsBy_78 : decode cX6_gapsBy 78 = .ok (.ireturn, 1) := by decide +kernel
theorem dX6_worstAside_0 : decode cX6_worstAside 0 = .ok (.bipush (-4), 2) := by decide +kernel
theorem dX6_worstAside_2 : decode cX6_worstAside 2 = .ok (.istore_n 1, 1) := by decide +kernel
theorem dX6_worstAside_3 : decode cX6_worstAside 3 = .ok (.iconst 0, 1) := by decide +kernel
theorem dX6_worstAside_4 : decode cX6_worstAside 4 = .ok (.istore_n 2, 1) := by decide +kernel
theorem dX6_worstAside_5 : decode cX6_worstAside 5 = .ok (.iconst 0, 1) := by decide +kernel
theorem dX6_worstAside_6 : decode cX6_worstAside 6 = .ok (.istore_n 3, 1) := by decide +kernel
theorem dX6_worstAside_7 : decode cX6_worstAside 7 = .ok (.iload_n 3, 1) := by decide +kernel
theorem dX6_worstAside_8 : decode cX6_worstAside 8 = .ok (.iconst 5, 1) := by decide +kernel
theorem dX6_worstAside_9 : decode cX6_worstAside 9 = .ok (.if_icmp .ge 77, 3) := by decide +kernel
theorem dX6_worstAside_12 : decode cX6_worstAside 12 = .ok (.iconst (-1), 1) := by decide +kernel
theorem dX6_worstAside_13 : decode cX6_worstAside 13 = .ok (.istore 4, 2) := by decide +kernel
theorem dX6_worstAside_15 : decode cX6_worstAside 15 = .ok (.iload 4, 2) := by decide +kernel
theorem dX6_worstAside_17 : decode cX6_worstAside 17 = .ok (.iconst 1, 1) := by decide +kernel
theorem dX6_worstAside_18 : decode cX6_worstAside 18 = .ok (.if_icmp .gt 62, 3) := by decide +kernel
theorem dX6_worstAside_21 : decode cX6_worstAside 21 = .ok (.iconst (-1), 1) := by decide +kernel
theorem dX6_worstAside_22 : decode cX6_worstAside 22 = .ok (.istore 5, 2) := by decide +kernel
theorem dX6_worstAside_24 : decode cX6_worstAside 24 = .ok (.iload 5, 2) := by decide +kernel
theorem dX6_worstAside_26 : decode cX6_worstAside 26 = .ok (.iconst 1, 1) := by decide +kernel
theorem dX6_worstAside_27 : decode cX6_worstAside 27 = .ok (.if_icmp .gt 47, 3) := by decide +kernel
theorem dX6_worstAside_30 : decode cX6_worstAside 30 = .ok (.aload_n 0, 1) := by decide +kernel
theorem dX6_worstAside_31 : decode cX6_worstAside 31 = .ok (.iload_n 3, 1) := by decide +kernel
theorem dX6_worstAside_32 : decode cX6_worstAside 32 = .ok (.iload 5, 2) := by decide +kernel
theorem dX6_worstAside_34 : decode cX6_worstAside 34 = .ok (.iload 4, 2) := by decide +kernel
theorem dX6_worstAside_36 : decode cX6_worstAside 36 = .ok (.invokevirtual 233, 3) := by decide +kernel
theorem dX6_worstAside_39 : decode cX6_worstAside 39 = .ok (.istore 6, 2) := by decide +kernel
theorem dX6_worstAside_41 : decode cX6_worstAside 41 = .ok (.iload 6, 2) := by decide +kernel
theorem dX6_worstAside_43 : decode cX6_worstAside 43 = .ok (.iload_n 2, 1) := by decide +kernel
theorem dX6_worstAside_44 : decode cX6_worstAside 44 = .ok (.if_icmp .le 24, 3) := by decide +kernel
theorem dX6_worstAside_47 : decode cX6_worstAside 47 = .ok (.iload 6, 2) := by decide +kernel
theorem dX6_worstAside_49 : decode cX6_worstAside 49 = .ok (.istore_n 2, 1) := by decide +kernel
theorem dX6_worstAside_50 : decode cX6_worstAside 50 = .ok (.bipush 100, 2) := by decide +kernel
theorem dX6_worstAside_52 : decode cX6_worstAside 52 = .ok (.iload_n 3, 1) := by decide +kernel
theorem dX6_worstAside_53 : decode cX6_worstAside 53 = .ok (.imul, 1) := by decide +kernel
theorem dX6_worstAside_54 : decode cX6_worstAside 54 = .ok (.bipush 10, 2) := by decide +kernel
theorem dX6_worstAside_56 : decode cX6_worstAside 56 = .ok (.iload 4, 2) := by decide +kernel
theorem dX6_worstAside_58 : decode cX6_worstAside 58 = .ok (.iconst 1, 1) := by decide +kernel
theorem dX6_worstAside_59 : decode cX6_worstAside 59 = .ok (.iadd, 1) := by decide +kernel
theorem dX6_worstAside_60 : decode cX6_worstAside 60 = .ok (.imul, 1) := by decide +kernel
theorem dX6_worstAside_61 : decode cX6_worstAside 61 = .ok (.iadd, 1) := by decide +kernel
theorem dX6_worstAside_62 : decode cX6_worstAside 62 = .ok (.iload 5, 2) := by decide +kernel
theorem dX6_worstAside_64 : decode cX6_worstAside 64 = .ok (.iadd, 1) := by decide +kernel
theorem dX6_worstAside_65 : decode cX6_worstAside 65 = .ok (.iconst 1, 1) := by decide +kernel
theorem dX6_worstAside_66 : decode cX6_worstAside 66 = .ok (.iadd, 1) := by decide +kernel
theorem dX6_worstAside_67 : decode cX6_worstAside 67 = .ok (.istore_n 1, 1) := by decide +kernel
theorem dX6_worstAside_68 : decode cX6_worstAside 68 = .ok (.iinc 5 1, 3) := by decide +kernel
theorem dX6_worstAside_71 : decode cX6_worstAside 71 = .ok (.goto (-47), 3) := by decide +kernel
theorem dX6_worstAside_74 : decode cX6_worstAside 74 = .ok (.iinc 4 1, 3) := by decide +kernel
theorem dX6_worstAside_77 : decode cX6_worstAside 77 = .ok (.goto (-62), 3) := by decide +kernel
theorem dX6_worstAside_80 : decode cX6_worstAside 80 = .ok (.iinc 3 1, 3) := by decide +kernel
theorem dX6_worstAside_83 : decode cX6_worstAside 83 = .ok (.goto (-76), 3) := by decide +kernel
theorem dX6_worstAside_86 : decode cX6_worstAside 86 = .ok (.iload_n 1, 1) := by decide +kernel
theorem dX6_worstAside_87 : decode cX6_worstAside 87 = .ok (.ireturn, 1) := by decide +kernel
theorem dX6_worstGaps_0 : decode cX6_worstGaps 0 = .ok (.aload_n 0, 1) := by decide +kernel
theorem dX6_worstGaps_1 : decode cX6_worstGaps 1 = .ok (.invokevirtual 178, 3) := by decide +kernel
theorem dX6_worstGaps_4 : decode cX6_worstGaps 4 = .ok (.istore_n 1, 1) := by decide +kernel
theorem dX6_worstGaps_5 : decode cX6_worstGaps 5 = .ok (.iload_n 1, 1) := by decide +kernel
theorem dX6_worstGaps_6 : decode cX6_worstGaps 6 = .ok (.ifCond .ge 5, 3) := by decide +kernel
theorem dX6_worstGaps_9 : decode cX6_worstGaps 9 = .ok (.iconst 0, 1) := by decide +kernel
theorem dX6_worstGaps_10 : decode cX6_worstGaps 10 = .ok (.ireturn, 1) := by decide +kernel
theorem dX6_worstGaps_11 : decode cX6_worstGaps 11 = .ok (.aload_n 0, 1) := by decide +kernel
theorem dX6_worstGaps_12 : decode cX6_worstGaps 12 = .ok (.iload_n 1, 1) := by decide +kernel
theorem dX6_worstGaps_13 : decode cX6_worstGaps 13 = .ok (.bipush 100, 2) := by decide +kernel
theorem dX6_worstGaps_15 : decode cX6_worstGaps 15 = .ok (.idiv, 1) := by decide +kernel
theorem dX6_worstGaps_16 : decode cX6_worstGaps 16 = .ok (.iload_n 1, 1) := by decide +kernel
theorem dX6_worstGaps_17 : decode cX6_worstGaps 17 = .ok (.bipush 10, 2) := by decide +kernel
theorem dX6_worstGaps_19 : decode cX6_worstGaps 19 = .ok (.irem, 1) := by decide +kernel
theorem dX6_worstGaps_20 : decode cX6_worstGaps 20 = .ok (.iconst 1, 1) := by decide +kernel
theorem dX6_worstGaps_21 : decode cX6_worstGaps 21 = .ok (.isub, 1) := by decide +kernel
theorem dX6_worstGaps_22 : decode cX6_worstGaps 22 = .ok (.iload_n 1, 1) := by decide +kernel
theorem dX6_worstGaps_23 : decode cX6_worstGaps 23 = .ok (.bipush 10, 2) := by decide +kernel
theorem dX6_worstGaps_25 : decode cX6_worstGaps 25 = .ok (.idiv, 1) := by decide +kernel
theorem dX6_worstGaps_26 : decode cX6_worstGaps 26 = .ok (.bipush 10, 2) := by decide +kernel
theorem dX6_worstGaps_28 : decode cX6_worstGaps 28 = .ok (.irem, 1) := by decide +kernel
theorem dX6_worstGaps_29 : decode cX6_worstGaps 29 = .ok (.iconst 1, 1) := by decide +kernel
theorem dX6_worstGaps_30 : decode cX6_worstGaps 30 = .ok (.isub, 1) := by decide +kernel
theorem dX6_worstGaps_31 : decode cX6_worstGaps 31 = .ok (.invokevirtual 233, 3) := by decide +kernel
theorem dX6_worstGaps_34 : decode cX6_worstGaps 34 = .ok (.ireturn, 1) := by decide +kernel
theorem dX6_ordersAlike_0 : decode cX6_ordersAlike 0 = .ok (.aload_n 0, 1) := by decide +kernel
theorem dX6_ordersAlike_1 : decode cX6_ordersAlike 1 = .ok (.getfield 10, 3) := by decide +kernel
theorem dX6_ordersAlike_4 : decode cX6_ordersAlike 4 = .ok (.invokevirtual 313, 3) := by decide +kernel
theorem dX6_ordersAlike_7 : decode cX6_ordersAlike 7 = .ok (.istore_n 1, 1) := by decide +kernel
theorem dX6_ordersAlike_8 : decode cX6_ordersAlike 8 = .ok (.aload_n 0, 1) := by decide +kernel
theorem dX6_ordersAlike_9 : decode cX6_ordersAlike 9 = .ok (.getfield 36, 3) := by decide +kernel
theorem dX6_ordersAlike_12 : decode cX6_ordersAlike 12 = .ok (.aload_n 0, 1) := by decide +kernel
theorem dX6_ordersAlike_13 : decode cX6_ordersAlike 13 = .ok (.getfield 10, 3) := by decide +kernel
theorem dX6_ordersAlike_16 : decode cX6_ordersAlike 16 = .ok (.invokevirtual 311, 3) := by decide +kernel
theorem dX6_ordersAlike_19 : decode cX6_ordersAlike 19 = .ok (.iconst 0, 1) := by decide +kernel
theorem dX6_ordersAlike_20 : decode cX6_ordersAlike 20 = .ok (.istore_n 2, 1) := by decide +kernel
theorem dX6_ordersAlike_21 : decode cX6_ordersAlike 21 = .ok (.iconst 0, 1) := by decide +kernel
theorem dX6_ordersAlike_22 : decode cX6_ordersAlike 22 = .ok (.istore_n 3, 1) := by decide +kernel
theorem dX6_ordersAlike_23 : decode cX6_ordersAlike 23 = .ok (.iload_n 3, 1) := by decide +kernel
theorem dX6_ordersAlike_24 : decode cX6_ordersAlike 24 = .ok (.bipush 120, 2) := by decide +kernel
theorem dX6_ordersAlike_26 : decode cX6_ordersAlike 26 = .ok (.if_icmp .ge 21, 3) := by decide +kernel
theorem dX6_ordersAlike_29 : decode cX6_ordersAlike 29 = .ok (.aload_n 0, 1) := by decide +kernel
theorem dX6_ordersAlike_30 : decode cX6_ordersAlike 30 = .ok (.iload_n 3, 1) := by decide +kernel
theorem dX6_ordersAlike_31 : decode cX6_ordersAlike 31 = .ok (.iload_n 1, 1) := by decide +kernel
theorem dX6_ordersAlike_32 : decode cX6_ordersAlike 32 = .ok (.invokevirtual 322, 3) := by decide +kernel
theorem dX6_ordersAlike_35 : decode cX6_ordersAlike 35 = .ok (.ifCond .eq 6, 3) := by decide +kernel
theorem dX6_ordersAlike_38 : decode cX6_ordersAlike 38 = .ok (.iinc 2 1, 3) := by decide +kernel
theorem dX6_ordersAlike_41 : decode cX6_ordersAlike 41 = .ok (.iinc 3 1, 3) := by decide +kernel
theorem dX6_ordersAlike_44 : decode cX6_ordersAlike 44 = .ok (.goto (-21), 3) := by decide +kernel
theorem dX6_ordersAlike_47 : decode cX6_ordersAlike 47 = .ok (.iload_n 2, 1) := by decide +kernel
theorem dX6_ordersAlike_48 : decode cX6_ordersAlike 48 = .ok (.ireturn, 1) := by decide +kernel
theorem dX6_firstOrderAlike_0 : decode cX6_firstOrderAlike 0 = .ok (.aload_n 0, 1) := by decide +kernel
theorem dX6_firstOrderAlike_1 : decode cX6_firstOrderAlike 1 = .ok (.getfield 10, 3) := by decide +kernel
theorem dX6_firstOrderAlike_4 : decode cX6_firstOrderAlike 4 = .ok (.invokevirtual 313, 3) := by decide +kernel
theorem dX6_firstOrderAlike_7 : decode cX6_firstOrderAlike 7 = .ok (.istore_n 1, 1) := by decide +kernel
theorem dX6_firstOrderAlike_8 : decode cX6_firstOrderAlike 8 = .ok (.aload_n 0, 1) := by decide +kernel
theorem dX6_firstOrderAlike_9 : decode cX6_firstOrderAlike 9 = .ok (.getfield 36, 3) := by decide +kernel
theorem dX6_firstOrderAlike_12 : decode cX6_firstOrderAlike 12 = .ok (.aload_n 0, 1) := by decide +kernel
theorem dX6_firstOrderAlike_13 : decode cX6_firstOrderAlike 13 = .ok (.getfield 10, 3) := by decide +kernel
theorem dX6_firstOrderAlike_16 : decode cX6_firstOrderAlike 16 = .ok (.invokevirtual 311, 3) := by decide +kernel
theorem dX6_firstOrderAlike_19 : decode cX6_firstOrderAlike 19 = .ok (.iconst 0, 1) := by decide +kernel
theorem dX6_firstOrderAlike_20 : decode cX6_firstOrderAlike 20 = .ok (.istore_n 2, 1) := by decide +kernel
theorem dX6_firstOrderAlike_21 : decode cX6_firstOrderAlike 21 = .ok (.iload_n 2, 1) := by decide +kernel
theorem dX6_firstOrderAlike_22 : decode cX6_firstOrderAlike 22 = .ok (.bipush 120, 2) := by decide +kernel
theorem dX6_firstOrderAlike_24 : decode cX6_firstOrderAlike 24 = .ok (.if_icmp .ge 26, 3) := by decide +kernel
theorem dX6_firstOrderAlike_27 : decode cX6_firstOrderAlike 27 = .ok (.aload_n 0, 1) := by decide +kernel
theorem dX6_firstOrderAlike_28 : decode cX6_firstOrderAlike 28 = .ok (.iload_n 2, 1) := by decide +kernel
theorem dX6_firstOrderAlike_29 : decode cX6_firstOrderAlike 29 = .ok (.iload_n 1, 1) := by decide +kernel
theorem dX6_firstOrderAlike_30 : decode cX6_firstOrderAlike 30 = .ok (.invokevirtual 322, 3) := by decide +kernel
theorem dX6_firstOrderAlike_33 : decode cX6_firstOrderAlike 33 = .ok (.ifCond .eq 11, 3) := by decide +kernel
theorem dX6_firstOrderAlike_36 : decode cX6_firstOrderAlike 36 = .ok (.aload_n 0, 1) := by decide +kernel
theorem dX6_firstOrderAlike_37 : decode cX6_firstOrderAlike 37 = .ok (.getfield 64, 3) := by decide +kernel
theorem dX6_firstOrderAlike_40 : decode cX6_firstOrderAlike 40 = .ok (.invokestatic 167, 3) := by decide +kernel
theorem dX6_firstOrderAlike_43 : decode cX6_firstOrderAlike 43 = .ok (.ireturn, 1) := by decide +kernel
theorem dX6_firstOrderAlike_44 : decode cX6_firstOrderAlike 44 = .ok (.iinc 2 1, 3) := by decide +kernel
theorem dX6_firstOrderAlike_47 : decode cX6_firstOrderAlike 47 = .ok (.goto (-26), 3) := by decide +kernel
theorem dX6_firstOrderAlike_50 : decode cX6_firstOrderAlike 50 = .ok (.aload_n 0, 1) := by decide +kernel
theorem dX6_firstOrderAlike_51 : decode cX6_firstOrderAlike 51 = .ok (.getfield 10, 3) := by decide +kernel
theorem dX6_firstOrderAlike_54 : decode cX6_firstOrderAlike 54 = .ok (.getfield 164, 3) := by decide +kernel
theorem dX6_firstOrderAlike_57 : decode cX6_firstOrderAlike 57 = .ok (.invokestatic 167, 3) := by decide +kernel
theorem dX6_firstOrderAlike_60 : decode cX6_firstOrderAlike 60 = .ok (.ireturn, 1) := by decide +kernel
theorem dX6_isAlikeByOrder_0 : decode cX6_isAlikeByOrder 0 = .ok (.iload_n 1, 1) := by decide +kernel
theorem dX6_isAlikeByOrder_1 : decode cX6_isAlikeByOrder 1 = .ok (.aload_n 0, 1) := by decide +kernel
theorem dX6_isAlikeByOrder_2 : decode cX6_isAlikeByOrder 2 = .ok (.getfield 64, 3) := by decide +kernel
theorem dX6_isAlikeByOrder_5 : decode cX6_isAlikeByOrder 5 = .ok (.invokestatic 325, 3) := by decide +kernel
theorem dX6_isAlikeByOrder_8 : decode cX6_isAlikeByOrder 8 = .ok (.iconst 0, 1) := by decide +kernel
theorem dX6_isAlikeByOrder_9 : decode cX6_isAlikeByOrder 9 = .ok (.istore_n 3, 1) := by decide +kernel
theorem dX6_isAlikeByOrder_10 : decode cX6_isAlikeByOrder 10 = .ok (.iload_n 3, 1) := by decide +kernel
theorem dX6_isAlikeByOrder_11 : decode cX6_isAlikeByOrder 11 = .ok (.bipush 32, 2) := by decide +kernel
theorem dX6_isAlikeByOrder_13 : decode cX6_isAlikeByOrder 13 = .ok (.if_icmp .ge 53, 3) := by decide +kernel
theorem dX6_isAlikeByOrder_16 : decode cX6_isAlikeByOrder 16 = .ok (.iload_n 2, 1) := by decide +kernel
theorem dX6_isAlikeByOrder_17 : decode cX6_isAlikeByOrder 17 = .ok (.iload_n 3, 1) := by decide +kernel
theorem dX6_isAlikeByOrder_18 : decode cX6_isAlikeByOrder 18 = .ok (.invokestatic 301, 3) := by decide +kernel
theorem dX6_isAlikeByOrder_21 : decode cX6_isAlikeByOrder 21 = .ok (.ifCond .eq 39, 3) := by decide +kernel
theorem dX6_isAlikeByOrder_24 : decode cX6_isAlikeByOrder 24 = .ok (.aload_n 0, 1) := by decide +kernel
theorem dX6_isAlikeByOrder_25 : decode cX6_isAlikeByOrder 25 = .ok (.getfield 10, 3) := by decide +kernel
theorem dX6_isAlikeByOrder_28 : decode cX6_isAlikeByOrder 28 = .ok (.getfield 75, 3) := by decide +kernel
theorem dX6_isAlikeByOrder_31 : decode cX6_isAlikeByOrder 31 = .ok (.aload_n 0, 1) := by decide +kernel
theorem dX6_isAlikeByOrder_32 : decode cX6_isAlikeByOrder 32 = .ok (.getfield 10, 3) := by decide +kernel
theorem dX6_isAlikeByOrder_35 : decode cX6_isAlikeByOrder 35 = .ok (.getfield 78, 3) := by decide +kernel
theorem dX6_isAlikeByOrder_38 : decode cX6_isAlikeByOrder 38 = .ok (.aload_n 0, 1) := by decide +kernel
theorem dX6_isAlikeByOrder_39 : decode cX6_isAlikeByOrder 39 = .ok (.getfield 64, 3) := by decide +kernel
theorem dX6_isAlikeByOrder_42 : decode cX6_isAlikeByOrder 42 = .ok (.iload_n 3, 1) := by decide +kernel
theorem dX6_isAlikeByOrder_43 : decode cX6_isAlikeByOrder 43 = .ok (.invokestatic 307, 3) := by decide +kernel
theorem dX6_isAlikeByOrder_46 : decode cX6_isAlikeByOrder 46 = .ok (.aload_n 0, 1) := by decide +kernel
theorem dX6_isAlikeByOrder_47 : decode cX6_isAlikeByOrder 47 = .ok (.getfield 36, 3) := by decide +kernel
theorem dX6_isAlikeByOrder_50 : decode cX6_isAlikeByOrder 50 = .ok (.getfield 329, 3) := by decide +kernel
theorem dX6_isAlikeByOrder_53 : decode cX6_isAlikeByOrder 53 = .ok (.iload_n 3, 1) := by decide +kernel
theorem dX6_isAlikeByOrder_54 : decode cX6_isAlikeByOrder 54 = .ok (.iaload, 1) := by decide +kernel
theorem dX6_isAlikeByOrder_55 : decode cX6_isAlikeByOrder 55 = .ok (.if_icmp .eq 5, 3) := by decide +kernel
theorem dX6_isAlikeByOrder_58 : decode cX6_isAlikeByOrder 58 = .ok (.iconst 0, 1) := by decide +kernel
theorem dX6_isAlikeByOrder_59 : decode cX6_isAlikeByOrder 59 = .ok (.ireturn, 1) := by decide +kernel
theorem dX6_isAlikeByOrder_60 : decode cX6_isAlikeByOrder 60 = .ok (.iinc 3 1, 3) := by decide +kernel
theorem dX6_isAlikeByOrder_63 : decode cX6_isAlikeByOrder 63 = .ok (.goto (-53), 3) := by decide +kernel
theorem dX6_isAlikeByOrder_66 : decode cX6_isAlikeByOrder 66 = .ok (.iconst 1, 1) := by decide +kernel
theorem dX6_isAlikeByOrder_67 : decode cX6_isAlikeByOrder 67 = .ok (.ireturn, 1) := by decide +kernel
theorem dX6_writeOrder_0 : decode cX6_writeOrder 0 = .ok (.bipush 31, 2) := by decide +kernel
theorem dX6_writeOrder_2 : decode cX6_writeOrder 2 = .ok (.istore_n 2, 1) := by decide +kernel
theorem dX6_writeOrder_3 : decode cX6_writeOrder 3 = .ok (.iload_n 0, 1) := by decide +kernel
theorem dX6_writeOrder_4 : decode cX6_writeOrder 4 = .ok (.istore_n 3, 1) := by decide +kernel
theorem dX6_writeOrder_5 : decode cX6_writeOrder 5 = .ok (.iconst 0, 1) := by decide +kernel
theorem dX6_writeOrder_6 : decode cX6_writeOrder 6 = .ok (.istore 4, 2) := by decide +kernel
theorem dX6_writeOrder_8 : decode cX6_writeOrder 8 = .ok (.iload 4, 2) := by decide +kernel
theorem dX6_writeOrder_10 : decode cX6_writeOrder 10 = .ok (.iconst 5, 1) := by decide +kernel
theorem dX6_writeOrder_11 : decode cX6_writeOrder 11 = .ok (.if_icmp .ge 51, 3) := by decide +kernel
theorem dX6_writeOrder_14 : decode cX6_writeOrder 14 = .ok (.iconst 1, 1) := by decide +kernel
theorem dX6_writeOrder_15 : decode cX6_writeOrder 15 = .ok (.getstatic 332, 3) := by decide +kernel
theorem dX6_writeOrder_18 : decode cX6_writeOrder 18 = .ok (.iload 4, 2) := by decide +kernel
theorem dX6_writeOrder_20 : decode cX6_writeOrder 20 = .ok (.iaload, 1) := by decide +kernel
theorem dX6_writeOrder_21 : decode cX6_writeOrder 21 = .ok (.invokestatic 335, 3) := by decide +kernel
theorem dX6_writeOrder_24 : decode cX6_writeOrder 24 = .ok (.istore 5, 2) := by decide +kernel
theorem dX6_writeOrder_26 : decode cX6_writeOrder 26 = .ok (.iload_n 2, 1) := by decide +kernel
theorem dX6_writeOrder_27 : decode cX6_writeOrder 27 = .ok (.iload_n 3, 1) := by decide +kernel
theorem dX6_writeOrder_28 : decode cX6_writeOrder 28 = .ok (.iload 5, 2) := by decide +kernel
theorem dX6_writeOrder_30 : decode cX6_writeOrder 30 = .ok (.idiv, 1) := by decide +kernel
theorem dX6_writeOrder_31 : decode cX6_writeOrder 31 = .ok (.invokestatic 338, 3) := by decide +kernel
theorem dX6_writeOrder_34 : decode cX6_writeOrder 34 = .ok (.istore 6, 2) := by decide +kernel
theorem dX6_writeOrder_36 : decode cX6_writeOrder 36 = .ok (.aload_n 1, 1) := by decide +kernel
theorem dX6_writeOrder_37 : decode cX6_writeOrder 37 = .ok (.iload 4, 2) := by decide +kernel
theorem dX6_writeOrder_39 : decode cX6_writeOrder 39 = .ok (.iload 6, 2) := by decide +kernel
theorem dX6_writeOrder_41 : decode cX6_writeOrder 41 = .ok (.iastore, 1) := by decide +kernel
theorem dX6_writeOrder_42 : decode cX6_writeOrder 42 = .ok (.iload_n 2, 1) := by decide +kernel
theorem dX6_writeOrder_43 : decode cX6_writeOrder 43 = .ok (.iconst 1, 1) := by decide +kernel
theorem dX6_writeOrder_44 : decode cX6_writeOrder 44 = .ok (.iload 6, 2) := by decide +kernel
theorem dX6_writeOrder_46 : decode cX6_writeOrder 46 = .ok (.ishl, 1) := by decide +kernel
theorem dX6_writeOrder_47 : decode cX6_writeOrder 47 = .ok (.iconst (-1), 1) := by decide +kernel
theorem dX6_writeOrder_48 : decode cX6_writeOrder 48 = .ok (.ixor, 1) := by decide +kernel
theorem dX6_writeOrder_49 : decode cX6_writeOrder 49 = .ok (.iand, 1) := by decide +kernel
theorem dX6_writeOrder_50 : decode cX6_writeOrder 50 = .ok (.istore_n 2, 1) := by decide +kernel
theorem dX6_writeOrder_51 : decode cX6_writeOrder 51 = .ok (.iload_n 3, 1) := by decide +kernel
theorem dX6_writeOrder_52 : decode cX6_writeOrder 52 = .ok (.iload 5, 2) := by decide +kernel
theorem dX6_writeOrder_54 : decode cX6_writeOrder 54 = .ok (.irem, 1) := by decide +kernel
theorem dX6_writeOrder_55 : decode cX6_writeOrder 55 = .ok (.istore_n 3, 1) := by decide +kernel
theorem dX6_writeOrder_56 : decode cX6_writeOrder 56 = .ok (.iinc 4 1, 3) := by decide +kernel
theorem dX6_writeOrder_59 : decode cX6_writeOrder 59 = .ok (.goto (-51), 3) := by decide +kernel
theorem dX6_writeOrder_62 : decode cX6_writeOrder 62 = .ok (.return_, 1) := by decide +kernel
theorem dX6_nthInk_0 : decode cX6_nthInk 0 = .ok (.iconst 0, 1) := by decide +kernel
theorem dX6_nthInk_1 : decode cX6_nthInk 1 = .ok (.istore_n 2, 1) := by decide +kernel
theorem dX6_nthInk_2 : decode cX6_nthInk 2 = .ok (.iconst 0, 1) := by decide +kernel
theorem dX6_nthInk_3 : decode cX6_nthInk 3 = .ok (.istore_n 3, 1) := by decide +kernel
theorem dX6_nthInk_4 : decode cX6_nthInk 4 = .ok (.iload_n 3, 1) := by decide +kernel
theorem dX6_nthInk_5 : decode cX6_nthInk 5 = .ok (.iconst 5, 1) := by decide +kernel
theorem dX6_nthInk_6 : decode cX6_nthInk 6 = .ok (.if_icmp .ge 27, 3) := by decide +kernel
theorem dX6_nthInk_9 : decode cX6_nthInk 9 = .ok (.iload_n 0, 1) := by decide +kernel
theorem dX6_nthInk_10 : decode cX6_nthInk 10 = .ok (.iload_n 3, 1) := by decide +kernel
theorem dX6_nthInk_11 : decode cX6_nthInk 11 = .ok (.invokestatic 301, 3) := by decide +kernel
theorem dX6_nthInk_14 : decode cX6_nthInk 14 = .ok (.ifCond .eq 13, 3) := by decide +kernel
theorem dX6_nthInk_17 : decode cX6_nthInk 17 = .ok (.iload_n 2, 1) := by decide +kernel
theorem dX6_nthInk_18 : decode cX6_nthInk 18 = .ok (.iload_n 1, 1) := by decide +kernel
theorem dX6_nthInk_19 : decode cX6_nthInk 19 = .ok (.if_icmp .ne 5, 3) := by decide +kernel
theorem dX6_nthInk_22 : decode cX6_nthInk 22 = .ok (.iload_n 3, 1) := by decide +kernel
theorem dX6_nthInk_23 : decode cX6_nthInk 23 = .ok (.ireturn, 1) := by decide +kernel
theorem dX6_nthInk_24 : decode cX6_nthInk 24 = .ok (.iinc 2 1, 3) := by decide +kernel
theorem dX6_nthInk_27 : decode cX6_nthInk 27 = .ok (.iinc 3 1, 3) := by decide +kernel
theorem dX6_nthInk_30 : decode cX6_nthInk 30 = .ok (.goto (-26), 3) := by decide +kernel
theorem dX6_nthInk_33 : decode cX6_nthInk 33 = .ok (.iconst 0, 1) := by decide +kernel
theorem dX6_nthInk_34 : decode cX6_nthInk 34 = .ok (.ireturn, 1) := by decide +kernel
theorem dX6_orderByDark_0 : decode cX6_orderByDark 0 = .ok (.iconst 0, 1) := by decide +kernel
theorem dX6_orderByDark_1 : decode cX6_orderByDark 1 = .ok (.istore_n 1, 1) := by decide +kernel
theorem dX6_orderByDark_2 : decode cX6_orderByDark 2 = .ok (.iconst 0, 1) := by decide +kernel
theorem dX6_orderByDark_3 : decode cX6_orderByDark 3 = .ok (.istore_n 2, 1) := by decide +kernel
theorem dX6_orderByDark_4 : decode cX6_orderByDark 4 = .ok (.iload_n 2, 1) := by decide +kernel
theorem dX6_orderByDark_5 : decode cX6_orderByDark 5 = .ok (.iconst 5, 1) := by decide +kernel
theorem dX6_orderByDark_6 : decode cX6_orderByDark 6 = .ok (.if_icmp .ge 38, 3) := by decide +kernel
theorem dX6_orderByDark_9 : decode cX6_orderByDark 9 = .ok (.iconst 0, 1) := by decide +kernel
theorem dX6_orderByDark_10 : decode cX6_orderByDark 10 = .ok (.istore_n 3, 1) := by decide +kernel
theorem dX6_orderByDark_11 : decode cX6_orderByDark 11 = .ok (.iload_n 3, 1) := by decide +kernel
theorem dX6_orderByDark_12 : decode cX6_orderByDark 12 = .ok (.iconst 5, 1) := by decide +kernel
theorem dX6_orderByDark_13 : decode cX6_orderByDark 13 = .ok (.if_icmp .ge 25, 3) := by decide +kernel
theorem dX6_orderByDark_16 : decode cX6_orderByDark 16 = .ok (.aload_n 0, 1) := by decide +kernel
theorem dX6_orderByDark_17 : decode cX6_orderByDark 17 = .ok (.iload_n 3, 1) := by decide +kernel
theorem dX6_orderByDark_18 : decode cX6_orderByDark 18 = .ok (.invokevirtual 341, 3) := by decide +kernel
theorem dX6_orderByDark_21 : decode cX6_orderByDark 21 = .ok (.iload_n 2, 1) := by decide +kernel
theorem dX6_orderByDark_22 : decode cX6_orderByDark 22 = .ok (.if_icmp .ne 10, 3) := by decide +kernel
theorem dX6_orderByDark_25 : decode cX6_orderByDark 25 = .ok (.iload_n 1, 1) := by decide +kernel
theorem dX6_orderByDark_26 : decode cX6_orderByDark 26 = .ok (.bipush 10, 2) := by decide +kernel
theorem dX6_orderByDark_28 : decode cX6_orderByDark 28 = .ok (.imul, 1) := by decide +kernel
theorem dX6_orderByDark_29 : decode cX6_orderByDark 29 = .ok (.iload_n 3, 1) := by decide +kernel
theorem dX6_orderByDark_30 : decode cX6_orderByDark 30 = .ok (.iadd, 1) := by decide +kernel
theorem dX6_orderByDark_31 : decode cX6_orderByDark 31 = .ok (.istore_n 1, 1) := by decide +kernel
theorem dX6_orderByDark_32 : decode cX6_orderByDark 32 = .ok (.iinc 3 1, 3) := by decide +kernel
theorem dX6_orderByDark_35 : decode cX6_orderByDark 35 = .ok (.goto (-24), 3) := by decide +kernel
theorem dX6_orderByDark_38 : decode cX6_orderByDark 38 = .ok (.iinc 2 1, 3) := by decide +kernel
theorem dX6_orderByDark_41 : decode cX6_orderByDark 41 = .ok (.goto (-37), 3) := by decide +kernel
theorem dX6_orderByDark_44 : decode cX6_orderByDark 44 = .ok (.iload_n 1, 1) := by decide +kernel
theorem dX6_orderByDark_45 : decode cX6_orderByDark 45 = .ok (.ireturn, 1) := by decide +kernel
theorem dX6_lighterInks_0 : decode cX6_lighterInks 0 = .ok (.aload_n 0, 1) := by decide +kernel
theorem dX6_lighterInks_1 : decode cX6_lighterInks 1 = .ok (.iconst 1, 1) := by decide +kernel
theorem dX6_lighterInks_2 : decode cX6_lighterInks 2 = .ok (.iload_n 1, 1) := by decide +kernel
theorem dX6_lighterInks_3 : decode cX6_lighterInks 3 = .ok (.ishl, 1) := by decide +kernel
theorem dX6_lighterInks_4 : decode cX6_lighterInks 4 = .ok (.invokevirtual 85, 3) := by decide +kernel
theorem dX6_lighterInks_7 : decode cX6_lighterInks 7 = .ok (.invokestatic 88, 3) := by decide +kernel
theorem dX6_lighterInks_10 : decode cX6_lighterInks 10 = .ok (.istore_n 2, 1) := by decide +kernel
theorem dX6_lighterInks_11 : decode cX6_lighterInks 11 = .ok (.iconst 0, 1) := by decide +kernel
theorem dX6_lighterInks_12 : decode cX6_lighterInks 12 = .ok (.istore_n 3, 1) := by decide +kernel
theorem dX6_lighterInks_13 : decode cX6_lighterInks 13 = .ok (.iconst 0, 1) := by decide +kernel
theorem dX6_lighterInks_14 : decode cX6_lighterInks 14 = .ok (.istore 4, 2) := by decide +kernel
theorem dX6_lighterInks_16 : decode cX6_lighterInks 16 = .ok (.iload 4, 2) := by decide +kernel
theorem dX6_lighterInks_18 : decode cX6_lighterInks 18 = .ok (.iconst 5, 1) := by decide +kernel
theorem dX6_lighterInks_19 : decode cX6_lighterInks 19 = .ok (.if_icmp .ge 43, 3) := by decide +kernel
theorem dX6_lighterInks_22 : decode cX6_lighterInks 22 = .ok (.aload_n 0, 1) := by decide +kernel
theorem dX6_lighterInks_23 : decode cX6_lighterInks 23 = .ok (.iconst 1, 1) := by decide +kernel
theorem dX6_lighterInks_24 : decode cX6_lighterInks 24 = .ok (.iload 4, 2) := by decide +kernel
theorem dX6_lighterInks_26 : decode cX6_lighterInks 26 = .ok (.ishl, 1) := by decide +kernel
theorem dX6_lighterInks_27 : decode cX6_lighterInks 27 = .ok (.invokevirtual 85, 3) := by decide +kernel
theorem dX6_lighterInks_30 : decode cX6_lighterInks 30 = .ok (.invokestatic 88, 3) := by decide +kernel
theorem dX6_lighterInks_33 : decode cX6_lighterInks 33 = .ok (.istore 5, 2) := by decide +kernel
theorem dX6_lighterInks_35 : decode cX6_lighterInks 35 = .ok (.iload 5, 2) := by decide +kernel
theorem dX6_lighterInks_37 : decode cX6_lighterInks 37 = .ok (.iload_n 2, 1) := by decide +kernel
theorem dX6_lighterInks_38 : decode cX6_lighterInks 38 = .ok (.if_icmp .lt 15, 3) := by decide +kernel
theorem dX6_lighterInks_41 : decode cX6_lighterInks 41 = .ok (.iload 5, 2) := by decide +kernel
theorem dX6_lighterInks_43 : decode cX6_lighterInks 43 = .ok (.iload_n 2, 1) := by decide +kernel
theorem dX6_lighterInks_44 : decode cX6_lighterInks 44 = .ok (.if_icmp .ne 12, 3) := by decide +kernel
theorem dX6_lighterInks_47 : decode cX6_lighterInks 47 = .ok (.iload 4, 2) := by decide +kernel
theorem dX6_lighterInks_49 : decode cX6_lighterInks 49 = .ok (.iload_n 1, 1) := by decide +kernel
theorem dX6_lighterInks_50 : decode cX6_lighterInks 50 = .ok (.if_icmp .ge 6, 3) := by decide +kernel
theorem dX6_lighterInks_53 : decode cX6_lighterInks 53 = .ok (.iinc 3 1, 3) := by decide +kernel
theorem dX6_lighterInks_56 : decode cX6_lighterInks 56 = .ok (.iinc 4 1, 3) := by decide +kernel
theorem dX6_lighterInks_59 : decode cX6_lighterInks 59 = .ok (.goto (-43), 3) := by decide +kernel
theorem dX6_lighterInks_62 : decode cX6_lighterInks 62 = .ok (.iload_n 3, 1) := by decide +kernel
theorem dX6_lighterInks_63 : decode cX6_lighterInks 63 = .ok (.ireturn, 1) := by decide +kernel
theorem dX6_growAside_0 : decode cX6_growAside 0 = .ok (.aload_n 0, 1) := by decide +kernel
theorem dX6_growAside_1 : decode cX6_growAside 1 = .ok (.getfield 10, 3) := by decide +kernel
theorem dX6_growAside_4 : decode cX6_growAside 4 = .ok (.getfield 209, 3) := by decide +kernel
theorem dX6_growAside_7 : decode cX6_growAside 7 = .ok (.iconst 0, 1) := by decide +kernel
theorem dX6_growAside_8 : decode cX6_growAside 8 = .ok (.aload_n 0, 1) := by decide +kernel
theorem dX6_growAside_9 : decode cX6_growAside 9 = .ok (.getfield 60, 3) := by decide +kernel
theorem dX6_growAside_12 : decode cX6_growAside 12 = .ok (.iconst 0, 1) := by decide +kernel
theorem dX6_growAside_13 : decode cX6_growAside 13 = .ok (.bipush 48, 2) := by decide +kernel
theorem dX6_growAside_15 : decode cX6_growAside 15 = .ok (.invokestatic 210, 3) := by decide +kernel
theorem dX6_growAside_18 : decode cX6_growAside 18 = .ok (.aload_n 0, 1) := by decide +kernel
theorem dX6_growAside_19 : decode cX6_growAside 19 = .ok (.getfield 36, 3) := by decide +kernel
theorem dX6_growAside_22 : decode cX6_growAside 22 = .ok (.aload_n 0, 1) := by decide +kernel
theorem dX6_growAside_23 : decode cX6_growAside 23 = .ok (.getfield 10, 3) := by decide +kernel
theorem dX6_growAside_26 : decode cX6_growAside 26 = .ok (.invokevirtual 311, 3) := by decide +kernel
theorem dX6_growAside_29 : decode cX6_growAside 29 = .ok (.iconst 0, 1) := by decide +kernel
theorem dX6_growAside_30 : decode cX6_growAside 30 = .ok (.istore_n 1, 1) := by decide +kernel
theorem dX6_growAside_31 : decode cX6_growAside 31 = .ok (.iload_n 1, 1) := by decide +kernel
theorem dX6_growAside_32 : decode cX6_growAside 32 = .ok (.aload_n 0, 1) := by decide +kernel
theorem dX6_growAside_33 : decode cX6_growAside 33 = .ok (.getfield 10, 3) := by decide +kernel
theorem dX6_growAside_36 : decode cX6_growAside 36 = .ok (.getfield 161, 3) := by decide +kernel
theorem dX6_growAside_39 : decode cX6_growAside 39 = .ok (.if_icmp .ge 86, 3) := by decide +kernel
theorem dX6_growAside_42 : decode cX6_growAside 42 = .ok (.iconst 0, 1) := by decide +kernel
theorem dX6_growAside_43 : decode cX6_growAside 43 = .ok (.istore_n 2, 1) := by decide +kernel
theorem dX6_growAside_44 : decode cX6_growAside 44 = .ok (.iload_n 2, 1) := by decide +kernel
theorem dX6_growAside_45 : decode cX6_growAside 45 = .ok (.aload_n 0, 1) := by decide +kernel
theorem dX6_growAside_46 : decode cX6_growAside 46 = .ok (.getfield 10, 3) := by decide +kernel
theorem dX6_growAside_49 : decode cX6_growAside 49 = .ok (.getfield 160, 3) := by decide +kernel
theorem dX6_growAside_52 : decode cX6_growAside 52 = .ok (.if_icmp .ge 67, 3) := by decide +kernel
theorem dX6_growAside_55 : decode cX6_growAside 55 = .ok (.iload_n 2, 1) := by decide +kernel
theorem dX6_growAside_56 : decode cX6_growAside 56 = .ok (.iconst 1, 1) := by decide +kernel
theorem dX6_growAside_57 : decode cX6_growAside 57 = .ok (.iadd, 1) := by decide +kernel
theorem dX6_growAside_58 : decode cX6_growAside 58 = .ok (.aload_n 0, 1) := by decide +kernel
theorem dX6_growAside_59 : decode cX6_growAside 59 = .ok (.getfield 10, 3) := by decide +kernel
theorem dX6_growAside_62 : decode cX6_growAside 62 = .ok (.getfield 160, 3) := by decide +kernel
theorem dX6_growAside_65 : decode cX6_growAside 65 = .ok (.if_icmp .ge 19, 3) := by decide +kernel
theorem dX6_growAside_68 : decode cX6_growAside 68 = .ok (.aload_n 0, 1) := by decide +kernel
theorem dX6_growAside_69 : decode cX6_growAside 69 = .ok (.iload_n 2, 1) := by decide +kernel
theorem dX6_growAside_70 : decode cX6_growAside 70 = .ok (.iload_n 1, 1) := by decide +kernel
theorem dX6_growAside_71 : decode cX6_growAside 71 = .ok (.invokestatic 344, 3) := by decide +kernel
theorem dX6_growAside_74 : decode cX6_growAside 74 = .ok (.iload_n 2, 1) := by decide +kernel
theorem dX6_growAside_75 : decode cX6_growAside 75 = .ok (.iconst 1, 1) := by decide +kernel
theorem dX6_growAside_76 : decode cX6_growAside 76 = .ok (.iadd, 1) := by decide +kernel
theorem dX6_growAside_77 : decode cX6_growAside 77 = .ok (.iload_n 1, 1) := by decide +kernel
theorem dX6_growAside_78 : decode cX6_growAside 78 = .ok (.invokestatic 344, 3) := by decide +kernel
theorem dX6_growAside_81 : decode cX6_growAside 81 = .ok (.invokevirtual 347, 3) := by decide +kernel
theorem dX6_growAside_84 : decode cX6_growAside 84 = .ok (.iload_n 1, 1) := by decide +kernel
theorem dX6_growAside_85 : decode cX6_growAside 85 = .ok (.iconst 1, 1) := by decide +kernel
theorem dX6_growAside_86 : decode cX6_growAside 86 = .ok (.iadd, 1) := by decide +kernel
theorem dX6_growAside_87 : decode cX6_growAside 87 = .ok (.aload_n 0, 1) := by decide +kernel
theorem dX6_growAside_88 : decode cX6_growAside 88 = .ok (.getfield 10, 3) := by decide +kernel
theorem dX6_growAside_91 : decode cX6_growAside 91 = .ok (.getfield 161, 3) := by decide +kernel
theorem dX6_growAside_94 : decode cX6_growAside 94 = .ok (.if_icmp .ge 19, 3) := by decide +kernel
theorem dX6_growAside_97 : decode cX6_growAside 97 = .ok (.aload_n 0, 1) := by decide +kernel
theorem dX6_growAside_98 : decode cX6_growAside 98 = .ok (.iload_n 2, 1) := by decide +kernel
theorem dX6_growAside_99 : decode cX6_growAside 99 = .ok (.iload_n 1, 1) := by decide +kernel
theorem dX6_growAside_100 : decode cX6_growAside 100 = .ok (.invokestatic 344, 3) := by decide +kernel
theorem dX6_growAside_103 : decode cX6_growAside 103 = .ok (.iload_n 2, 1) := by decide +kernel
theorem dX6_growAside_104 : decode cX6_growAside 104 = .ok (.iload_n 1, 1) := by decide +kernel
theorem dX6_growAside_105 : decode cX6_growAside 105 = .ok (.iconst 1, 1) := by decide +kernel
theorem dX6_growAside_106 : decode cX6_growAside 106 = .ok (.iadd, 1) := by decide +kernel
theorem dX6_growAside_107 : decode cX6_growAside 107 = .ok (.invokestatic 344, 3) := by decide +kernel
theorem dX6_growAside_110 : decode cX6_growAside 110 = .ok (.invokevirtual 347, 3) := by decide +kernel
theorem dX6_growAside_113 : decode cX6_growAside 113 = .ok (.iinc 2 1, 3) := by decide +kernel
theorem dX6_growAside_116 : decode cX6_growAside 116 = .ok (.goto (-72), 3) := by decide +kernel
theorem dX6_growAside_119 : decode cX6_growAside 119 = .ok (.iinc 1 1, 3) := by decide +kernel
theorem dX6_growAside_122 : decode cX6_growAside 122 = .ok (.goto (-91), 3) := by decide +kernel
theorem dX6_growAside_125 : decode cX6_growAside 125 = .ok (.return_, 1) := by decide +kernel
theorem dX6_growBetween_0 : decode cX6_growBetween 0 = .ok (.iload_n 1, 1) := by decide +kernel
theorem dX6_growBetween_1 : decode cX6_growBetween 1 = .ok (.bipush 48, 2) := by decide +kernel
theorem dX6_growBetween_3 : decode cX6_growBetween 3 = .ok (.invokestatic 71, 3) := by decide +kernel
theorem dX6_growBetween_6 : decode cX6_growBetween 6 = .ok (.ifCond .eq 12, 3) := by decide +kernel
theorem dX6_growBetween_9 : decode cX6_growBetween 9 = .ok (.iload_n 2, 1) := by decide +kernel
theorem dX6_growBetween_10 : decode cX6_growBetween 10 = .ok (.bipush 48, 2) := by decide +kernel
theorem dX6_growBetween_12 : decode cX6_growBetween 12 = .ok (.invokestatic 71, 3) := by decide +kernel
theorem dX6_growBetween_15 : decode cX6_growBetween 15 = .ok (.ifCond .ne 4, 3) := by decide +kernel
theorem dX6_growBetween_18 : decode cX6_growBetween 18 = .ok (.return_, 1) := by decide +kernel
theorem dX6_growBetween_19 : decode cX6_growBetween 19 = .ok (.aload_n 0, 1) := by decide +kernel
theorem dX6_growBetween_20 : decode cX6_growBetween 20 = .ok (.getfield 10, 3) := by decide +kernel
theorem dX6_growBetween_23 : decode cX6_growBetween 23 = .ok (.getfield 209, 3) := by decide +kernel
theorem dX6_growBetween_26 : decode cX6_growBetween 26 = .ok (.iload_n 1, 1) := by decide +kernel
theorem dX6_growBetween_27 : decode cX6_growBetween 27 = .ok (.iaload, 1) := by decide +kernel
theorem dX6_growBetween_28 : decode cX6_growBetween 28 = .ok (.istore_n 3, 1) := by decide +kernel
theorem dX6_growBetween_29 : decode cX6_growBetween 29 = .ok (.aload_n 0, 1) := by decide +kernel
theorem dX6_growBetween_30 : decode cX6_growBetween 30 = .ok (.getfield 10, 3) := by decide +kernel
theorem dX6_growBetween_33 : decode cX6_growBetween 33 = .ok (.getfield 209, 3) := by decide +kernel
theorem dX6_growBetween_36 : decode cX6_growBetween 36 = .ok (.iload_n 2, 1) := by decide +kernel
theorem dX6_growBetween_37 : decode cX6_growBetween 37 = .ok (.iaload, 1) := by decide +kernel
theorem dX6_growBetween_38 : decode cX6_growBetween 38 = .ok (.istore 4, 2) := by decide +kernel
theorem dX6_growBetween_40 : decode cX6_growBetween 40 = .ok (.iload_n 3, 1) := by decide +kernel
theorem dX6_growBetween_41 : decode cX6_growBetween 41 = .ok (.ifCond .eq 15, 3) := by decide +kernel
theorem dX6_growBetween_44 : decode cX6_growBetween 44 = .ok (.iload 4, 2) := by decide +kernel
theorem dX6_growBetween_46 : decode cX6_growBetween 46 = .ok (.ifCond .eq 10, 3) := by decide +kernel
theorem dX6_growBetween_49 : decode cX6_growBetween 49 = .ok (.iload_n 3, 1) := by decide +kernel
theorem dX6_growBetween_50 : decode cX6_growBetween 50 = .ok (.iload 4, 2) := by decide +kernel
theorem dX6_growBetween_52 : decode cX6_growBetween 52 = .ok (.iand, 1) := by decide +kernel
theorem dX6_growBetween_53 : decode cX6_growBetween 53 = .ok (.ifCond .eq 4, 3) := by decide +kernel
theorem dX6_growBetween_56 : decode cX6_growBetween 56 = .ok (.return_, 1) := by decide +kernel
theorem dX6_growBetween_57 : decode cX6_growBetween 57 = .ok (.aload_n 0, 1) := by decide +kernel
theorem dX6_growBetween_58 : decode cX6_growBetween 58 = .ok (.getfield 36, 3) := by decide +kernel
theorem dX6_growBetween_61 : decode cX6_growBetween 61 = .ok (.iload_n 3, 1) := by decide +kernel
theorem dX6_growBetween_62 : decode cX6_growBetween 62 = .ok (.invokevirtual 350, 3) := by decide +kernel
theorem dX6_growBetween_65 : decode cX6_growBetween 65 = .ok (.aload_n 0, 1) := by decide +kernel
theorem dX6_growBetween_66 : decode cX6_growBetween 66 = .ok (.getfield 36, 3) := by decide +kernel
theorem dX6_growBetween_69 : decode cX6_growBetween 69 = .ok (.iload 4, 2) := by decide +kernel
theorem dX6_growBetween_71 : decode cX6_growBetween 71 = .ok (.invokevirtual 350, 3) := by decide +kernel
theorem dX6_growBetween_74 : decode cX6_growBetween 74 = .ok (.if_icmp .gt 20, 3) := by decide +kernel
theorem dX6_growBetween_77 : decode cX6_growBetween 77 = .ok (.aload_n 0, 1) := by decide +kernel
theorem dX6_growBetween_78 : decode cX6_growBetween 78 = .ok (.getfield 60, 3) := by decide +kernel
theorem dX6_growBetween_81 : decode cX6_growBetween 81 = .ok (.iload_n 2, 1) := by decide +kernel
theorem dX6_growBetween_82 : decode cX6_growBetween 82 = .ok (.aload_n 0, 1) := by decide +kernel
theorem dX6_growBetween_83 : decode cX6_growBetween 83 = .ok (.getfield 60, 3) := by decide +kernel
theorem dX6_growBetween_86 : decode cX6_growBetween 86 = .ok (.iload_n 2, 1) := by decide +kernel
theorem dX6_growBetween_87 : decode cX6_growBetween 87 = .ok (.iaload, 1) := by decide +kernel
theorem dX6_growBetween_88 : decode cX6_growBetween 88 = .ok (.iload_n 3, 1) := by decide +kernel
theorem dX6_growBetween_89 : decode cX6_growBetween 89 = .ok (.ior, 1) := by decide +kernel
theorem dX6_growBetween_90 : decode cX6_growBetween 90 = .ok (.iastore, 1) := by decide +kernel
theorem dX6_growBetween_91 : decode cX6_growBetween 91 = .ok (.goto 18, 3) := by decide +kernel
theorem dX6_growBetween_94 : decode cX6_growBetween 94 = .ok (.aload_n 0, 1) := by decide +kernel
theorem dX6_growBetween_95 : decode cX6_growBetween 95 = .ok (.getfield 60, 3) := by decide +kernel
theorem dX6_growBetween_98 : decode cX6_growBetween 98 = .ok (.iload_n 1, 1) := by decide +kernel
theorem dX6_growBetween_99 : decode cX6_growBetween 99 = .ok (.aload_n 0, 1) := by decide +kernel
theorem dX6_growBetween_100 : decode cX6_growBetween 100 = .ok (.getfield 60, 3) := by decide +kernel
theorem dX6_growBetween_103 : decode cX6_growBetween 103 = .ok (.iload_n 1, 1) := by decide +kernel
theorem dX6_growBetween_104 : decode cX6_growBetween 104 = .ok (.iaload, 1) := by decide +kernel
theorem dX6_growBetween_105 : decode cX6_growBetween 105 = .ok (.iload 4, 2) := by decide +kernel
theorem dX6_growBetween_107 : decode cX6_growBetween 107 = .ok (.ior, 1) := by decide +kernel
theorem dX6_growBetween_108 : decode cX6_growBetween 108 = .ok (.iastore, 1) := by decide +kernel
theorem dX6_growBetween_109 : decode cX6_growBetween 109 = .ok (.return_, 1) := by decide +kernel
theorem dX6_driftOnce_0 : decode cX6_driftOnce 0 = .ok (.aload_n 0, 1) := by decide +kernel
theorem dX6_driftOnce_1 : decode cX6_driftOnce 1 = .ok (.getfield 10, 3) := by decide +kernel
theorem dX6_driftOnce_4 : decode cX6_driftOnce 4 = .ok (.aload_n 0, 1) := by decide +kernel
theorem dX6_driftOnce_5 : decode cX6_driftOnce 5 = .ok (.getfield 10, 3) := by decide +kernel
theorem dX6_driftOnce_8 : decode cX6_driftOnce 8 = .ok (.getfield 226, 3) := by decide +kernel
theorem dX6_driftOnce_11 : decode cX6_driftOnce 11 = .ok (.i2l, 1) := by decide +kernel
theorem dX6_driftOnce_12 : decode cX6_driftOnce 12 = .ok (.ldc2_w 353, 3) := by decide +kernel
theorem dX6_driftOnce_15 : decode cX6_driftOnce 15 = .ok (.lmul, 1) := by decide +kernel
theorem dX6_driftOnce_16 : decode cX6_driftOnce 16 = .ok (.ldc2_w 355, 3) := by decide +kernel
theorem dX6_driftOnce_19 : decode cX6_driftOnce 19 = .ok (.ladd, 1) := by decide +kernel
theorem dX6_driftOnce_20 : decode cX6_driftOnce 20 = .ok (.ldc2_w 357, 3) := by decide +kernel
theorem dX6_driftOnce_23 : decode cX6_driftOnce 23 = .ok (.land, 1) := by decide +kernel
theorem dX6_driftOnce_24 : decode cX6_driftOnce 24 = .ok (.l2i, 1) := by decide +kernel
theorem dX6_driftOnce_25 : decode cX6_driftOnce 25 = .ok (.putfield 226, 3) := by decide +kernel
theorem dX6_driftOnce_28 : decode cX6_driftOnce 28 = .ok (.aload_n 0, 1) := by decide +kernel
theorem dX6_driftOnce_29 : decode cX6_driftOnce 29 = .ok (.getfield 10, 3) := by decide +kernel
theorem dX6_driftOnce_32 : decode cX6_driftOnce 32 = .ok (.getfield 226, 3) := by decide +kernel
theorem dX6_driftOnce_35 : decode cX6_driftOnce 35 = .ok (.ldc_w 359, 3) := by decide +kernel
theorem dX6_driftOnce_38 : decode cX6_driftOnce 38 = .ok (.idiv, 1) := by decide +kernel
theorem dX6_driftOnce_39 : decode cX6_driftOnce 39 = .ok (.istore_n 1, 1) := by decide +kernel
theorem dX6_driftOnce_40 : decode cX6_driftOnce 40 = .ok (.aload_n 0, 1) := by decide +kernel
theorem dX6_driftOnce_41 : decode cX6_driftOnce 41 = .ok (.getfield 10, 3) := by decide +kernel
theorem dX6_driftOnce_44 : decode cX6_driftOnce 44 = .ok (.getfield 160, 3) := by decide +kernel
theorem dX6_driftOnce_47 : decode cX6_driftOnce 47 = .ok (.ifCond .le 48, 3) := by decide +kernel
theorem dX6_driftOnce_50 : decode cX6_driftOnce 50 = .ok (.aload_n 0, 1) := by decide +kernel
theorem dX6_driftOnce_51 : decode cX6_driftOnce 51 = .ok (.getfield 10, 3) := by decide +kernel
theorem dX6_driftOnce_54 : decode cX6_driftOnce 54 = .ok (.getfield 161, 3) := by decide +kernel
theorem dX6_driftOnce_57 : decode cX6_driftOnce 57 = .ok (.ifCond .le 38, 3) := by decide +kernel
theorem dX6_driftOnce_60 : decode cX6_driftOnce 60 = .ok (.aload_n 0, 1) := by decide +kernel
theorem dX6_driftOnce_61 : decode cX6_driftOnce 61 = .ok (.getfield 10, 3) := by decide +kernel
theorem dX6_driftOnce_64 : decode cX6_driftOnce 64 = .ok (.iload_n 1, 1) := by decide +kernel
theorem dX6_driftOnce_65 : decode cX6_driftOnce 65 = .ok (.aload_n 0, 1) := by decide +kernel
theorem dX6_driftOnce_66 : decode cX6_driftOnce 66 = .ok (.getfield 10, 3) := by decide +kernel
theorem dX6_driftOnce_69 : decode cX6_driftOnce 69 = .ok (.getfield 160, 3) := by decide +kernel
theorem dX6_driftOnce_72 : decode cX6_driftOnce 72 = .ok (.irem, 1) := by decide +kernel
theorem dX6_driftOnce_73 : decode cX6_driftOnce 73 = .ok (.iload_n 1, 1) := by decide +kernel
theorem dX6_driftOnce_74 : decode cX6_driftOnce 74 = .ok (.bipush 8, 2) := by decide +kernel
theorem dX6_driftOnce_76 : decode cX6_driftOnce 76 = .ok (.idiv, 1) := by decide +kernel
theorem dX6_driftOnce_77 : decode cX6_driftOnce 77 = .ok (.aload_n 0, 1) := by decide +kernel
theorem dX6_driftOnce_78 : decode cX6_driftOnce 78 = .ok (.getfield 10, 3) := by decide +kernel
theorem dX6_driftOnce_81 : decode cX6_driftOnce 81 = .ok (.getfield 161, 3) := by decide +kernel
theorem dX6_driftOnce_84 : decode cX6_driftOnce 84 = .ok (.irem, 1) := by decide +kernel
theorem dX6_driftOnce_85 : decode cX6_driftOnce 85 = .ok (.iload_n 1, 1) := by decide +kernel
theorem dX6_driftOnce_86 : decode cX6_driftOnce 86 = .ok (.bipush 64, 2) := by decide +kernel
theorem dX6_driftOnce_88 : decode cX6_driftOnce 88 = .ok (.idiv, 1) := by decide +kernel
theorem dX6_driftOnce_89 : decode cX6_driftOnce 89 = .ok (.bipush 32, 2) := by decide +kernel
theorem dX6_driftOnce_91 : decode cX6_driftOnce 91 = .ok (.irem, 1) := by decide +kernel
theorem dX6_driftOnce_92 : decode cX6_driftOnce 92 = .ok (.invokevirtual 202, 3) := by decide +kernel
theorem dX6_driftOnce_95 : decode cX6_driftOnce 95 = .ok (.return_, 1) := by decide +kernel
theorem dX6_gaplessOdds_0 : decode cX6_gaplessOdds 0 = .ok (.aload_n 0, 1) := by decide +kernel
theorem dX6_gaplessOdds_1 : decode cX6_gaplessOdds 1 = .ok (.getfield 10, 3) := by decide +kernel
theorem dX6_gaplessOdds_4 : decode cX6_gaplessOdds 4 = .ok (.invokevirtual 193, 3) := by decide +kernel
theorem dX6_gaplessOdds_7 : decode cX6_gaplessOdds 7 = .ok (.istore_n 2, 1) := by decide +kernel
theorem dX6_gaplessOdds_8 : decode cX6_gaplessOdds 8 = .ok (.aload_n 0, 1) := by decide +kernel
theorem dX6_gaplessOdds_9 : decode cX6_gaplessOdds 9 = .ok (.getfield 10, 3) := by decide +kernel
theorem dX6_gaplessOdds_12 : decode cX6_gaplessOdds 12 = .ok (.invokevirtual 313, 3) := by decide +kernel
theorem dX6_gaplessOdds_15 : decode cX6_gaplessOdds 15 = .ok (.istore_n 3, 1) := by decide +kernel
theorem dX6_gaplessOdds_16 : decode cX6_gaplessOdds 16 = .ok (.iconst 0, 1) := by decide +kernel
theorem dX6_gaplessOdds_17 : decode cX6_gaplessOdds 17 = .ok (.istore 4, 2) := by decide +kernel
theorem dX6_gaplessOdds_19 : decode cX6_gaplessOdds 19 = .ok (.iconst 0, 1) := by decide +kernel
theorem dX6_gaplessOdds_20 : decode cX6_gaplessOdds 20 = .ok (.istore 5, 2) := by decide +kernel
theorem dX6_gaplessOdds_22 : decode cX6_gaplessOdds 22 = .ok (.iload 5, 2) := by decide +kernel
theorem dX6_gaplessOdds_24 : decode cX6_gaplessOdds 24 = .ok (.bipush 32, 2) := by decide +kernel
theorem dX6_gaplessOdds_26 : decode cX6_gaplessOdds 26 = .ok (.if_icmp .ge 60, 3) := by decide +kernel
theorem dX6_gaplessOdds_29 : decode cX6_gaplessOdds 29 = .ok (.iload 5, 2) := by decide +kernel
theorem dX6_gaplessOdds_31 : decode cX6_gaplessOdds 31 = .ok (.iload_n 2, 1) := by decide +kernel
theorem dX6_gaplessOdds_32 : decode cX6_gaplessOdds 32 = .ok (.iconst (-1), 1) := by decide +kernel
theorem dX6_gaplessOdds_33 : decode cX6_gaplessOdds 33 = .ok (.ixor, 1) := by decide +kernel
theorem dX6_gaplessOdds_34 : decode cX6_gaplessOdds 34 = .ok (.iand, 1) := by decide +kernel
theorem dX6_gaplessOdds_35 : decode cX6_gaplessOdds 35 = .ok (.ifCond .ne 45, 3) := by decide +kernel
theorem dX6_gaplessOdds_38 : decode cX6_gaplessOdds 38 = .ok (.iload 5, 2) := by decide +kernel
theorem dX6_gaplessOdds_40 : decode cX6_gaplessOdds 40 = .ok (.iload_n 3, 1) := by decide +kernel
theorem dX6_gaplessOdds_41 : decode cX6_gaplessOdds 41 = .ok (.invokestatic 360, 3) := by decide +kernel
theorem dX6_gaplessOdds_44 : decode cX6_gaplessOdds 44 = .ok (.ifCond .ne 36, 3) := by decide +kernel
theorem dX6_gaplessOdds_47 : decode cX6_gaplessOdds 47 = .ok (.iload 5, 2) := by decide +kernel
theorem dX6_gaplessOdds_49 : decode cX6_gaplessOdds 49 = .ok (.invokestatic 244, 3) := by decide +kernel
theorem dX6_gaplessOdds_52 : decode cX6_gaplessOdds 52 = .ok (.istore 6, 2) := by decide +kernel
theorem dX6_gaplessOdds_54 : decode cX6_gaplessOdds 54 = .ok (.iload 4, 2) := by decide +kernel
theorem dX6_gaplessOdds_56 : decode cX6_gaplessOdds 56 = .ok (.iload_n 1, 1) := by decide +kernel
theorem dX6_gaplessOdds_57 : decode cX6_gaplessOdds 57 = .ok (.iload 6, 2) := by decide +kernel
theorem dX6_gaplessOdds_59 : decode cX6_gaplessOdds 59 = .ok (.invokestatic 249, 3) := by decide +kernel
theorem dX6_gaplessOdds_62 : decode cX6_gaplessOdds 62 = .ok (.bipush 10, 2) := by decide +kernel
theorem dX6_gaplessOdds_64 : decode cX6_gaplessOdds 64 = .ok (.iload_n 1, 1) := by decide +kernel
theorem dX6_gaplessOdds_65 : decode cX6_gaplessOdds 65 = .ok (.isub, 1) := by decide +kernel
theorem dX6_gaplessOdds_66 : decode cX6_gaplessOdds 66 = .ok (.iload_n 2, 1) := by decide +kernel
theorem dX6_gaplessOdds_67 : decode cX6_gaplessOdds 67 = .ok (.invokestatic 244, 3) := by decide +kernel
theorem dX6_gaplessOdds_70 : decode cX6_gaplessOdds 70 = .ok (.iload 6, 2) := by decide +kernel
theorem dX6_gaplessOdds_72 : decode cX6_gaplessOdds 72 = .ok (.isub, 1) := by decide +kernel
theorem dX6_gaplessOdds_73 : decode cX6_gaplessOdds 73 = .ok (.invokestatic 249, 3) := by decide +kernel
theorem dX6_gaplessOdds_76 : decode cX6_gaplessOdds 76 = .ok (.imul, 1) := by decide +kernel
theorem dX6_gaplessOdds_77 : decode cX6_gaplessOdds 77 = .ok (.iadd, 1) := by decide +kernel
theorem dX6_gaplessOdds_78 : decode cX6_gaplessOdds 78 = .ok (.istore 4, 2) := by decide +kernel
theorem dX6_gaplessOdds_80 : decode cX6_gaplessOdds 80 = .ok (.iinc 5 1, 3) := by decide +kernel
theorem dX6_gaplessOdds_83 : decode cX6_gaplessOdds 83 = .ok (.goto (-61), 3) := by decide +kernel
theorem dX6_gaplessOdds_86 : decode cX6_gaplessOdds 86 = .ok (.iload 4, 2) := by decide +kernel
theorem dX6_gaplessOdds_88 : decode cX6_gaplessOdds 88 = .ok (.ireturn, 1) := by decide +kernel
theorem dX6_leavesGap_0 : decode cX6_leavesGap 0 = .ok (.iconst 1, 1) := by decide +kernel
theorem dX6_leavesGap_1 : decode cX6_leavesGap 1 = .ok (.istore_n 2, 1) := by decide +kernel
theorem dX6_leavesGap_2 : decode cX6_leavesGap 2 = .ok (.iload_n 2, 1) := by decide +kernel
theorem dX6_leavesGap_3 : decode cX6_leavesGap 3 = .ok (.bipush 32, 2) := by decide +kernel
theorem dX6_leavesGap_5 : decode cX6_leavesGap 5 = .ok (.if_icmp .ge 27, 3) := by decide +kernel
theorem dX6_leavesGap_8 : decode cX6_leavesGap 8 = .ok (.iload_n 1, 1) := by decide +kernel
theorem dX6_leavesGap_9 : decode cX6_leavesGap 9 = .ok (.iload_n 2, 1) := by decide +kernel
theorem dX6_leavesGap_10 : decode cX6_leavesGap 10 = .ok (.invokestatic 301, 3) := by decide +kernel
theorem dX6_leavesGap_13 : decode cX6_leavesGap 13 = .ok (.ifCond .eq 13, 3) := by decide +kernel
theorem dX6_leavesGap_16 : decode cX6_leavesGap 16 = .ok (.iload_n 2, 1) := by decide +kernel
theorem dX6_leavesGap_17 : decode cX6_leavesGap 17 = .ok (.iload_n 0, 1) := by decide +kernel
theorem dX6_leavesGap_18 : decode cX6_leavesGap 18 = .ok (.iconst (-1), 1) := by decide +kernel
theorem dX6_leavesGap_19 : decode cX6_leavesGap 19 = .ok (.ixor, 1) := by decide +kernel
theorem dX6_leavesGap_20 : decode cX6_leavesGap 20 = .ok (.iand, 1) := by decide +kernel
theorem dX6_leavesGap_21 : decode cX6_leavesGap 21 = .ok (.ifCond .ne 5, 3) := by decide +kernel
theorem dX6_leavesGap_24 : decode cX6_leavesGap 24 = .ok (.iconst 1, 1) := by decide +kernel
theorem dX6_leavesGap_25 : decode cX6_leavesGap 25 = .ok (.ireturn, 1) := by decide +kernel
theorem dX6_leavesGap_26 : decode cX6_leavesGap 26 = .ok (.iinc 2 1, 3) := by decide +kernel
theorem dX6_leavesGap_29 : decode cX6_leavesGap 29 = .ok (.goto (-27), 3) := by decide +kernel
theorem dX6_leavesGap_32 : decode cX6_leavesGap 32 = .ok (.iconst 0, 1) := by decide +kernel
theorem dX6_leavesGap_33 : decode cX6_leavesGap 33 = .ok (.ireturn, 1) := by decide +kernel
theorem dX6_power_0 : decode cX6_power 0 = .ok (.iconst 1, 1) := by decide +kernel
theorem dX6_power_1 : decode cX6_power 1 = .ok (.istore_n 2, 1) := by decide +kernel
theorem dX6_power_2 : decode cX6_power 2 = .ok (.iconst 0, 1) := by decide +kernel
theorem dX6_power_3 : decode cX6_power 3 = .ok (.istore_n 3, 1) := by decide +kernel
theorem dX6_power_4 : decode cX6_power 4 = .ok (.iload_n 3, 1) := by decide +kernel
theorem dX6_power_5 : decode cX6_power 5 = .ok (.iload_n 1, 1) := by decide +kernel
theorem dX6_power_6 : decode cX6_power 6 = .ok (.if_icmp .ge 18, 3) := by decide +kernel
theorem dX6_power_9 : decode cX6_power 9 = .ok (.iload_n 3, 1) := by decide +kernel
theorem dX6_power_10 : decode cX6_power 10 = .ok (.iconst 5, 1) := by decide +kernel
theorem dX6_power_11 : decode cX6_power 11 = .ok (.if_icmp .ge 13, 3) := by decide +kernel
theorem dX6_power_14 : decode cX6_power 14 = .ok (.iload_n 2, 1) := by decide +kernel
theorem dX6_power_15 : decode cX6_power 15 = .ok (.iload_n 0, 1) := by decide +kernel
theorem dX6_power_16 : decode cX6_power 16 = .ok (.imul, 1) := by decide +kernel
theorem dX6_power_17 : decode cX6_power 17 = .ok (.istore_n 2, 1) := by decide +kernel
theorem dX6_power_18 : decode cX6_power 18 = .ok (.iinc 3 1, 3) := by decide +kernel
theorem dX6_power_21 : decode cX6_power 21 = .ok (.goto (-17), 3) := by decide +kernel
theorem dX6_power_24 : decode cX6_power 24 = .ok (.iload_n 2, 1) := by decide +kernel
theorem dX6_power_25 : decode cX6_power 25 = .ok (.ireturn, 1) := by decide +kernel
theorem dX6_commonDivisor_0 : decode cX6_commonDivisor 0 = .ok (.iload_n 0, 1) := by decide +kernel
theorem dX6_commonDivisor_1 : decode cX6_commonDivisor 1 = .ok (.istore_n 2, 1) := by decide +kernel
theorem dX6_commonDivisor_2 : decode cX6_commonDivisor 2 = .ok (.iload_n 1, 1) := by decide +kernel
theorem dX6_commonDivisor_3 : decode cX6_commonDivisor 3 = .ok (.istore_n 3, 1) := by decide +kernel
theorem dX6_commonDivisor_4 : decode cX6_commonDivisor 4 = .ok (.iconst 0, 1) := by decide +kernel
theorem dX6_commonDivisor_5 : decode cX6_commonDivisor 5 = .ok (.istore 4, 2) := by decide +kernel
theorem dX6_commonDivisor_7 : decode cX6_commonDivisor 7 = .ok (.iload 4, 2) := by decide +kernel
theorem dX6_commonDivisor_9 : decode cX6_commonDivisor 9 = .ok (.bipush 64, 2) := by decide +kernel
theorem dX6_commonDivisor_11 : decode cX6_commonDivisor 11 = .ok (.if_icmp .ge 23, 3) := by decide +kernel
theorem dX6_commonDivisor_14 : decode cX6_commonDivisor 14 = .ok (.iload_n 3, 1) := by decide +kernel
theorem dX6_commonDivisor_15 : decode cX6_commonDivisor 15 = .ok (.ifCond .eq 19, 3) := by decide +kernel
theorem dX6_commonDivisor_18 : decode cX6_commonDivisor 18 = .ok (.iload_n 2, 1) := by decide +kernel
theorem dX6_commonDivisor_19 : decode cX6_commonDivisor 19 = .ok (.iload_n 3, 1) := by decide +kernel
theorem dX6_commonDivisor_20 : decode cX6_commonDivisor 20 = .ok (.irem, 1) := by decide +kernel
theorem dX6_commonDivisor_21 : decode cX6_commonDivisor 21 = .ok (.istore 5, 2) := by decide +kernel
theorem dX6_commonDivisor_23 : decode cX6_commonDivisor 23 = .ok (.iload_n 3, 1) := by decide +kernel
theorem dX6_commonDivisor_24 : decode cX6_commonDivisor 24 = .ok (.istore_n 2, 1) := by decide +kernel
theorem dX6_commonDivisor_25 : decode cX6_commonDivisor 25 = .ok (.iload 5, 2) := by decide +kernel
theorem dX6_commonDivisor_27 : decode cX6_commonDivisor 27 = .ok (.istore_n 3, 1) := by decide +kernel
theorem dX6_commonDivisor_28 : decode cX6_commonDivisor 28 = .ok (.iinc 4 1, 3) := by decide +kernel
theorem dX6_commonDivisor_31 : decode cX6_commonDivisor 31 = .ok (.goto (-24), 3) := by decide +kernel
theorem dX6_commonDivisor_34 : decode cX6_commonDivisor 34 = .ok (.iload_n 2, 1) := by decide +kernel
theorem dX6_commonDivisor_35 : decode cX6_commonDivisor 35 = .ok (.ireturn, 1) := by decide +kernel
theorem dX6_tellsSets_0 : decode cX6_tellsSets 0 = .ok (.iconst 0, 1) := by decide +kernel
theorem dX6_tellsSets_1 : decode cX6_tellsSets 1 = .ok (.istore_n 3, 1) := by decide +kernel
theorem dX6_tellsSets_2 : decode cX6_tellsSets 2 = .ok (.iload_n 3, 1) := by decide +kernel
theorem dX6_tellsSets_3 : decode cX6_tellsSets 3 = .ok (.iload_n 2, 1) := by decide +kernel
theorem dX6_tellsSets_4 : decode cX6_tellsSets 4 = .ok (.if_icmp .ge 38, 3) := by decide +kernel
theorem dX6_tellsSets_7 : decode cX6_tellsSets 7 = .ok (.aload_n 0, 1) := by decide +kernel
theorem dX6_tellsSets_8 : decode cX6_tellsSets 8 = .ok (.iload_n 1, 1) := by decide +kernel
theorem dX6_tellsSets_9 : decode cX6_tellsSets 9 = .ok (.iconst 2, 1) := by decide +kernel
theorem dX6_tellsSets_10 : decode cX6_tellsSets 10 = .ok (.iload_n 3, 1) := by decide +kernel
theorem dX6_tellsSets_11 : decode cX6_tellsSets 11 = .ok (.imul, 1) := by decide +kernel
theorem dX6_tellsSets_12 : decode cX6_tellsSets 12 = .ok (.iadd, 1) := by decide +kernel
theorem dX6_tellsSets_13 : decode cX6_tellsSets 13 = .ok (.invokevirtual 363, 3) := by decide +kernel
theorem dX6_tellsSets_16 : decode cX6_tellsSets 16 = .ok (.lstore 4, 2) := by decide +kernel
theorem dX6_tellsSets_18 : decode cX6_tellsSets 18 = .ok (.lload 4, 2) := by decide +kernel
theorem dX6_tellsSets_20 : decode cX6_tellsSets 20 = .ok (.lconst 0, 1) := by decide +kernel
theorem dX6_tellsSets_21 : decode cX6_tellsSets 21 = .ok (.lcmp, 1) := by decide +kernel
theorem dX6_tellsSets_22 : decode cX6_tellsSets 22 = .ok (.ifCond .lt 12, 3) := by decide +kernel
theorem dX6_tellsSets_25 : decode cX6_tellsSets 25 = .ok (.lload 4, 2) := by decide +kernel
theorem dX6_tellsSets_27 : decode cX6_tellsSets 27 = .ok (.ldc2_w 366, 3) := by decide +kernel
theorem dX6_tellsSets_30 : decode cX6_tellsSets 30 = .ok (.lcmp, 1) := by decide +kernel
theorem dX6_tellsSets_31 : decode cX6_tellsSets 31 = .ok (.ifCond .lt 5, 3) := by decide +kernel
theorem dX6_tellsSets_34 : decode cX6_tellsSets 34 = .ok (.iconst 0, 1) := by decide +kernel
theorem dX6_tellsSets_35 : decode cX6_tellsSets 35 = .ok (.ireturn, 1) := by decide +kernel
theorem dX6_tellsSets_36 : decode cX6_tellsSets 36 = .ok (.iinc 3 1, 3) := by decide +kernel
theorem dX6_tellsSets_39 : decode cX6_tellsSets 39 = .ok (.goto (-37), 3) := by decide +kernel
theorem dX6_tellsSets_42 : decode cX6_tellsSets 42 = .ok (.iconst 1, 1) := by decide +kernel
theorem dX6_tellsSets_43 : decode cX6_tellsSets 43 = .ok (.ireturn, 1) := by decide +kernel
theorem dX6_kindsSeen_0 : decode cX6_kindsSeen 0 = .ok (.aload_n 0, 1) := by decide +kernel
theorem dX6_kindsSeen_1 : decode cX6_kindsSeen 1 = .ok (.getfield 10, 3) := by decide +kernel
theorem dX6_kindsSeen_4 : decode cX6_kindsSeen 4 = .ok (.getfield 75, 3) := by decide +kernel
theorem dX6_kindsSeen_7 : decode cX6_kindsSeen 7 = .ok (.iconst 0, 1) := by decide +kernel
theorem dX6_kindsSeen_8 : decode cX6_kindsSeen 8 = .ok (.aload_n 0, 1) := by decide +kernel
theorem dX6_kindsSeen_9 : decode cX6_kindsSeen 9 = .ok (.getfield 67, 3) := by decide +kernel
theorem dX6_kindsSeen_12 : decode cX6_kindsSeen 12 = .ok (.iconst 0, 1) := by decide +kernel
theorem dX6_kindsSeen_13 : decode cX6_kindsSeen 13 = .ok (.iconst 5, 1) := by decide +kernel
theorem dX6_kindsSeen_14 : decode cX6_kindsSeen 14 = .ok (.invokestatic 210, 3) := by decide +kernel
theorem dX6_kindsSeen_17 : decode cX6_kindsSeen 17 = .ok (.iconst 0, 1) := by decide +kernel
theorem dX6_kindsSeen_18 : decode cX6_kindsSeen 18 = .ok (.istore 5, 2) := by decide +kernel
theorem dX6_kindsSeen_20 : decode cX6_kindsSeen 20 = .ok (.iconst 0, 1) := by decide +kernel
theorem dX6_kindsSeen_21 : decode cX6_kindsSeen 21 = .ok (.istore 6, 2) := by decide +kernel
theorem dX6_kindsSeen_23 : decode cX6_kindsSeen 23 = .ok (.iload 6, 2) := by decide +kernel
theorem dX6_kindsSeen_25 : decode cX6_kindsSeen 25 = .ok (.iconst 4, 1) := by decide +kernel
theorem dX6_kindsSeen_26 : decode cX6_kindsSeen 26 = .ok (.if_icmp .ge 45, 3) := by decide +kernel
theorem dX6_kindsSeen_29 : decode cX6_kindsSeen 29 = .ok (.iload_n 1, 1) := by decide +kernel
theorem dX6_kindsSeen_30 : decode cX6_kindsSeen 30 = .ok (.iconst 5, 1) := by decide +kernel
theorem dX6_kindsSeen_31 : decode cX6_kindsSeen 31 = .ok (.invokestatic 71, 3) := by decide +kernel
theorem dX6_kindsSeen_34 : decode cX6_kindsSeen 34 = .ok (.ifCond .eq 11, 3) := by decide +kernel
theorem dX6_kindsSeen_37 : decode cX6_kindsSeen 37 = .ok (.aload_n 0, 1) := by decide +kernel
theorem dX6_kindsSeen_38 : decode cX6_kindsSeen 38 = .ok (.getfield 67, 3) := by decide +kernel
theorem dX6_kindsSeen_41 : decode cX6_kindsSeen 41 = .ok (.iload_n 1, 1) := by decide +kernel
theorem dX6_kindsSeen_42 : decode cX6_kindsSeen 42 = .ok (.iload 6, 2) := by decide +kernel
theorem dX6_kindsSeen_44 : decode cX6_kindsSeen 44 = .ok (.iastore, 1) := by decide +kernel
theorem dX6_kindsSeen_45 : decode cX6_kindsSeen 45 = .ok (.aload_n 0, 1) := by decide +kernel
theorem dX6_kindsSeen_46 : decode cX6_kindsSeen 46 = .ok (.aload_n 2, 1) := by decide +kernel
theorem dX6_kindsSeen_47 : decode cX6_kindsSeen 47 = .ok (.iload_n 3, 1) := by decide +kernel
theorem dX6_kindsSeen_48 : decode cX6_kindsSeen 48 = .ok (.iload 4, 2) := by decide +kernel
theorem dX6_kindsSeen_50 : decode cX6_kindsSeen 50 = .ok (.invokevirtual 368, 3) := by decide +kernel
theorem dX6_kindsSeen_53 : decode cX6_kindsSeen 53 = .ok (.ifCond .eq 12, 3) := by decide +kernel
theorem dX6_kindsSeen_56 : decode cX6_kindsSeen 56 = .ok (.iload 5, 2) := by decide +kernel
theorem dX6_kindsSeen_58 : decode cX6_kindsSeen 58 = .ok (.iconst 1, 1) := by decide +kernel
theorem dX6_kindsSeen_59 : decode cX6_kindsSeen 59 = .ok (.iload 6, 2) := by decide +kernel
theorem dX6_kindsSeen_61 : decode cX6_kindsSeen 61 = .ok (.ishl, 1) := by decide +kernel
theorem dX6_kindsSeen_62 : decode cX6_kindsSeen 62 = .ok (.ior, 1) := by decide +kernel
theorem dX6_kindsSeen_63 : decode cX6_kindsSeen 63 = .ok (.istore 5, 2) := by decide +kernel
theorem dX6_kindsSeen_65 : decode cX6_kindsSeen 65 = .ok (.iinc 6 1, 3) := by decide +kernel
theorem dX6_kindsSeen_68 : decode cX6_kindsSeen 68 = .ok (.goto (-45), 3) := by decide +kernel
theorem dX6_kindsSeen_71 : decode cX6_kindsSeen 71 = .ok (.iload 5, 2) := by decide +kernel
theorem dX6_kindsSeen_73 : decode cX6_kindsSeen 73 = .ok (.ireturn, 1) := by decide +kernel
theorem dX6_looksAsTold_0 : decode cX6_looksAsTold 0 = .ok (.iconst 0, 1) := by decide +kernel
theorem dX6_looksAsTold_1 : decode cX6_looksAsTold 1 = .ok (.istore 4, 2) := by decide +kernel
theorem dX6_looksAsTold_3 : decode cX6_looksAsTold 3 = .ok (.iload 4, 2) := by decide +kernel
theorem dX6_looksAsTold_5 : decode cX6_looksAsTold 5 = .ok (.iload_n 3, 1) := by decide +kernel
theorem dX6_looksAsTold_6 : decode cX6_looksAsTold 6 = .ok (.if_icmp .ge 64, 3) := by decide +kernel
theorem dX6_looksAsTold_9 : decode cX6_looksAsTold 9 = .ok (.aload_n 1, 1) := by decide +kernel
theorem dX6_looksAsTold_10 : decode cX6_looksAsTold 10 = .ok (.iload_n 2, 1) := by decide +kernel
theorem dX6_looksAsTold_11 : decode cX6_looksAsTold 11 = .ok (.iconst 2, 1) := by decide +kernel
theorem dX6_looksAsTold_12 : decode cX6_looksAsTold 12 = .ok (.iload 4, 2) := by decide +kernel
theorem dX6_looksAsTold_14 : decode cX6_looksAsTold 14 = .ok (.imul, 1) := by decide +kernel
theorem dX6_looksAsTold_15 : decode cX6_looksAsTold 15 = .ok (.iadd, 1) := by decide +kernel
theorem dX6_looksAsTold_16 : decode cX6_looksAsTold 16 = .ok (.invokevirtual 363, 3) := by decide +kernel
theorem dX6_looksAsTold_19 : decode cX6_looksAsTold 19 = .ok (.l2i, 1) := by decide +kernel
theorem dX6_looksAsTold_20 : decode cX6_looksAsTold 20 = .ok (.istore 5, 2) := by decide +kernel
theorem dX6_looksAsTold_22 : decode cX6_looksAsTold 22 = .ok (.aload_n 0, 1) := by decide +kernel
theorem dX6_looksAsTold_23 : decode cX6_looksAsTold 23 = .ok (.getfield 67, 3) := by decide +kernel
theorem dX6_looksAsTold_26 : decode cX6_looksAsTold 26 = .ok (.aload_n 0, 1) := by decide +kernel
theorem dX6_looksAsTold_27 : decode cX6_looksAsTold 27 = .ok (.getfield 10, 3) := by decide +kernel
theorem dX6_looksAsTold_30 : decode cX6_looksAsTold 30 = .ok (.getfield 78, 3) := by decide +kernel
theorem dX6_looksAsTold_33 : decode cX6_looksAsTold 33 = .ok (.aload_n 0, 1) := by decide +kernel
theorem dX6_looksAsTold_34 : decode cX6_looksAsTold 34 = .ok (.getfield 10, 3) := by decide +kernel
theorem dX6_looksAsTold_37 : decode cX6_looksAsTold 37 = .ok (.getfield 164, 3) := by decide +kernel
theorem dX6_looksAsTold_40 : decode cX6_looksAsTold 40 = .ok (.iload 5, 2) := by decide +kernel
theorem dX6_looksAsTold_42 : decode cX6_looksAsTold 42 = .ok (.invokestatic 307, 3) := by decide +kernel
theorem dX6_looksAsTold_45 : decode cX6_looksAsTold 45 = .ok (.i2l, 1) := by decide +kernel
theorem dX6_looksAsTold_46 : decode cX6_looksAsTold 46 = .ok (.aload_n 1, 1) := by decide +kernel
theorem dX6_looksAsTold_47 : decode cX6_looksAsTold 47 = .ok (.iload_n 2, 1) := by decide +kernel
theorem dX6_looksAsTold_48 : decode cX6_looksAsTold 48 = .ok (.iconst 2, 1) := by decide +kernel
theorem dX6_looksAsTold_49 : decode cX6_looksAsTold 49 = .ok (.iload 4, 2) := by decide +kernel
theorem dX6_looksAsTold_51 : decode cX6_looksAsTold 51 = .ok (.imul, 1) := by decide +kernel
theorem dX6_looksAsTold_52 : decode cX6_looksAsTold 52 = .ok (.iadd, 1) := by decide +kernel
theorem dX6_looksAsTold_53 : decode cX6_looksAsTold 53 = .ok (.iconst 1, 1) := by decide +kernel
theorem dX6_looksAsTold_54 : decode cX6_looksAsTold 54 = .ok (.iadd, 1) := by decide +kernel
theorem dX6_looksAsTold_55 : decode cX6_looksAsTold 55 = .ok (.invokevirtual 363, 3) := by decide +kernel
theorem dX6_looksAsTold_58 : decode cX6_looksAsTold 58 = .ok (.lcmp, 1) := by decide +kernel
theorem dX6_looksAsTold_59 : decode cX6_looksAsTold 59 = .ok (.ifCond .eq 5, 3) := by decide +kernel
theorem dX6_looksAsTold_62 : decode cX6_looksAsTold 62 = .ok (.iconst 0, 1) := by decide +kernel
theorem dX6_looksAsTold_63 : decode cX6_looksAsTold 63 = .ok (.ireturn, 1) := by decide +kernel
theorem dX6_looksAsTold_64 : decode cX6_looksAsTold 64 = .ok (.iinc 4 1, 3) := by decide +kernel
theorem dX6_looksAsTold_67 : decode cX6_looksAsTold 67 = .ok (.goto (-64), 3) := by decide +kernel
theorem dX6_looksAsTold_70 : decode cX6_looksAsTold 70 = .ok (.iconst 1, 1) := by decide +kernel
theorem dX6_looksAsTold_71 : decode cX6_looksAsTold 71 = .ok (.ireturn, 1) := by decide +kernel
