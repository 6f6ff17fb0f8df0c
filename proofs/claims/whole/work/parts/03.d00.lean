theorem dX0_init_0 : decode cX0_init 0 = .ok (.aload_n 0, 1) := by decide +kernel
theorem dX0_init_1 : decode cX0_init 1 = .ok (.invokespecial 3, 3) := by decide +kernel
theorem dX0_init_4 : decode cX0_init 4 = .ok (.aload_n 0, 1) := by decide +kernel
theorem dX0_init_5 : decode cX0_init 5 = .ok (.bipush 10, 2) := by decide +kernel
theorem dX0_init_7 : decode cX0_init 7 = .ok (.anewarray 9, 3) := by decide +kernel
theorem dX0_init_10 : decode cX0_init 10 = .ok (.putfield 11, 3) := by decide +kernel
theorem dX0_init_13 : decode cX0_init 13 = .ok (.aload_n 0, 1) := by decide +kernel
theorem dX0_init_14 : decode cX0_init 14 = .ok (.bipush 24, 2) := by decide +kernel
theorem dX0_init_16 : decode cX0_init 16 = .ok (.newarray .int, 2) := by decide +kernel
theorem dX0_init_18 : decode cX0_init 18 = .ok (.putfield 17, 3) := by decide +kernel
theorem dX0_init_21 : decode cX0_init 21 = .ok (.aload_n 0, 1) := by decide +kernel
theorem dX0_init_22 : decode cX0_init 22 = .ok (.bipush 14, 2) := by decide +kernel
theorem dX0_init_24 : decode cX0_init 24 = .ok (.anewarray 21, 3) := by decide +kernel
theorem dX0_init_27 : decode cX0_init 27 = .ok (.putfield 23, 3) := by decide +kernel
theorem dX0_init_30 : decode cX0_init 30 = .ok (.aload_n 0, 1) := by decide +kernel
theorem dX0_init_31 : decode cX0_init 31 = .ok (.iconst 3, 1) := by decide +kernel
theorem dX0_init_32 : decode cX0_init 32 = .ok (.newarray .int, 2) := by decide +kernel
theorem dX0_init_34 : decode cX0_init 34 = .ok (.dup, 1) := by decide +kernel
theorem dX0_init_35 : decode cX0_init 35 = .ok (.iconst 0, 1) := by decide +kernel
theorem dX0_init_36 : decode cX0_init 36 = .ok (.iconst (-1), 1) := by decide +kernel
theorem dX0_init_37 : decode cX0_init 37 = .ok (.iastore, 1) := by decide +kernel
theorem dX0_init_38 : decode cX0_init 38 = .ok (.dup, 1) := by decide +kernel
theorem dX0_init_39 : decode cX0_init 39 = .ok (.iconst 1, 1) := by decide +kernel
theorem dX0_init_40 : decode cX0_init 40 = .ok (.iconst (-1), 1) := by decide +kernel
theorem dX0_init_41 : decode cX0_init 41 = .ok (.iastore, 1) := by decide +kernel
theorem dX0_init_42 : decode cX0_init 42 = .ok (.dup, 1) := by decide +kernel
theorem dX0_init_43 : decode cX0_init 43 = .ok (.iconst 2, 1) := by decide +kernel
theorem dX0_init_44 : decode cX0_init 44 = .ok (.iconst (-1), 1) := by decide +kernel
theorem dX0_init_45 : decode cX0_init 45 = .ok (.iastore, 1) := by decide +kernel
theorem dX0_init_46 : decode cX0_init 46 = .ok (.putfield 27, 3) := by decide +kernel
theorem dX0_init_49 : decode cX0_init 49 = .ok (.aload_n 0, 1) := by decide +kernel
theorem dX0_init_50 : decode cX0_init 50 = .ok (.iconst 4, 1) := by decide +kernel
theorem dX0_init_51 : decode cX0_init 51 = .ok (.putfield 30, 3) := by decide +kernel
theorem dX0_init_54 : decode cX0_init 54 = .ok (.aload_n 0, 1) := by decide +kernel
theorem dX0_init_55 : decode cX0_init 55 = .ok (.bipush 30, 2) := by decide +kernel
theorem dX0_init_57 : decode cX0_init 57 = .ok (.putfield 34, 3) := by decide +kernel
theorem dX0_init_60 : decode cX0_init 60 = .ok (.aload_n 0, 1) := by decide +kernel
theorem dX0_init_61 : decode cX0_init 61 = .ok (.iconst 3, 1) := by decide +kernel
theorem dX0_init_62 : decode cX0_init 62 = .ok (.putfield 37, 3) := by decide +kernel
theorem dX0_init_65 : decode cX0_init 65 = .ok (.aload_n 0, 1) := by decide +kernel
theorem dX0_init_66 : decode cX0_init 66 = .ok (.iconst 1, 1) := by decide +kernel
theorem dX0_init_67 : decode cX0_init 67 = .ok (.putfield 40, 3) := by decide +kernel
theorem dX0_init_70 : decode cX0_init 70 = .ok (.iconst 0, 1) := by decide +kernel
theorem dX0_init_71 : decode cX0_init 71 = .ok (.istore_n 1, 1) := by decide +kernel
theorem dX0_init_72 : decode cX0_init 72 = .ok (.iload_n 1, 1) := by decide +kernel
theorem dX0_init_73 : decode cX0_init 73 = .ok (.bipush 10, 2) := by decide +kernel
theorem dX0_init_75 : decode cX0_init 75 = .ok (.if_icmp .ge 22, 3) := by decide +kernel
theorem dX0_init_78 : decode cX0_init 78 = .ok (.aload_n 0, 1) := by decide +kernel
theorem dX0_init_79 : decode cX0_init 79 = .ok (.getfield 11, 3) := by decide +kernel
theorem dX0_init_82 : decode cX0_init 82 = .ok (.iload_n 1, 1) := by decide +kernel
theorem dX0_init_83 : decode cX0_init 83 = .ok (.new 9, 3) := by decide +kernel
theorem dX0_init_86 : decode cX0_init 86 = .ok (.dup, 1) := by decide +kernel
theorem dX0_init_87 : decode cX0_init 87 = .ok (.invokespecial 43, 3) := by decide +kernel
theorem dX0_init_90 : decode cX0_init 90 = .ok (.aastore, 1) := by decide +kernel
theorem dX0_init_91 : decode cX0_init 91 = .ok (.iinc 1 1, 3) := by decide +kernel
theorem dX0_init_94 : decode cX0_init 94 = .ok (.goto (-22), 3) := by decide +kernel
theorem dX0_init_97 : decode cX0_init 97 = .ok (.return_, 1) := by decide +kernel
theorem dX0_becomes_0 : decode cX0_becomes 0 = .ok (.iconst 0, 1) := by decide +kernel
theorem dX0_becomes_1 : decode cX0_becomes 1 = .ok (.istore_n 2, 1) := by decide +kernel
theorem dX0_becomes_2 : decode cX0_becomes 2 = .ok (.iload_n 2, 1) := by decide +kernel
theorem dX0_becomes_3 : decode cX0_becomes 3 = .ok (.aload_n 1, 1) := by decide +kernel
theorem dX0_becomes_4 : decode cX0_becomes 4 = .ok (.getfield 44, 3) := by decide +kernel
theorem dX0_becomes_7 : decode cX0_becomes 7 = .ok (.if_icmp .ge 24, 3) := by decide +kernel
theorem dX0_becomes_10 : decode cX0_becomes 10 = .ok (.aload_n 0, 1) := by decide +kernel
theorem dX0_becomes_11 : decode cX0_becomes 11 = .ok (.getfield 11, 3) := by decide +kernel
theorem dX0_becomes_14 : decode cX0_becomes 14 = .ok (.iload_n 2, 1) := by decide +kernel
theorem dX0_becomes_15 : decode cX0_becomes 15 = .ok (.aaload, 1) := by decide +kernel
theorem dX0_becomes_16 : decode cX0_becomes 16 = .ok (.aload_n 1, 1) := by decide +kernel
theorem dX0_becomes_17 : decode cX0_becomes 17 = .ok (.getfield 11, 3) := by decide +kernel
theorem dX0_becomes_20 : decode cX0_becomes 20 = .ok (.iload_n 2, 1) := by decide +kernel
theorem dX0_becomes_21 : decode cX0_becomes 21 = .ok (.aaload, 1) := by decide +kernel
theorem dX0_becomes_22 : decode cX0_becomes 22 = .ok (.invokevirtual 47, 3) := by decide +kernel
theorem dX0_becomes_25 : decode cX0_becomes 25 = .ok (.iinc 2 1, 3) := by decide +kernel
theorem dX0_becomes_28 : decode cX0_becomes 28 = .ok (.goto (-26), 3) := by decide +kernel
theorem dX0_becomes_31 : decode cX0_becomes 31 = .ok (.iconst 0, 1) := by decide +kernel
theorem dX0_becomes_32 : decode cX0_becomes 32 = .ok (.istore_n 2, 1) := by decide +kernel
theorem dX0_becomes_33 : decode cX0_becomes 33 = .ok (.iload_n 2, 1) := by decide +kernel
theorem dX0_becomes_34 : decode cX0_becomes 34 = .ok (.aload_n 1, 1) := by decide +kernel
theorem dX0_becomes_35 : decode cX0_becomes 35 = .ok (.getfield 30, 3) := by decide +kernel
theorem dX0_becomes_38 : decode cX0_becomes 38 = .ok (.if_icmp .ge 21, 3) := by decide +kernel
theorem dX0_becomes_41 : decode cX0_becomes 41 = .ok (.aload_n 0, 1) := by decide +kernel
theorem dX0_becomes_42 : decode cX0_becomes 42 = .ok (.getfield 17, 3) := by decide +kernel
theorem dX0_becomes_45 : decode cX0_becomes 45 = .ok (.iload_n 2, 1) := by decide +kernel
theorem dX0_becomes_46 : decode cX0_becomes 46 = .ok (.aload_n 1, 1) := by decide +kernel
theorem dX0_becomes_47 : decode cX0_becomes 47 = .ok (.getfield 17, 3) := by decide +kernel
theorem dX0_becomes_50 : decode cX0_becomes 50 = .ok (.iload_n 2, 1) := by decide +kernel
theorem dX0_becomes_51 : decode cX0_becomes 51 = .ok (.iaload, 1) := by decide +kernel
theorem dX0_becomes_52 : decode cX0_becomes 52 = .ok (.iastore, 1) := by decide +kernel
theorem dX0_becomes_53 : decode cX0_becomes 53 = .ok (.iinc 2 1, 3) := by decide +kernel
theorem dX0_becomes_56 : decode cX0_becomes 56 = .ok (.goto (-23), 3) := by decide +kernel
theorem dX0_becomes_59 : decode cX0_becomes 59 = .ok (.iconst 0, 1) := by decide +kernel
theorem dX0_becomes_60 : decode cX0_becomes 60 = .ok (.istore_n 2, 1) := by decide +kernel
theorem dX0_becomes_61 : decode cX0_becomes 61 = .ok (.iload_n 2, 1) := by decide +kernel
theorem dX0_becomes_62 : decode cX0_becomes 62 = .ok (.aload_n 1, 1) := by decide +kernel
theorem dX0_becomes_63 : decode cX0_becomes 63 = .ok (.getfield 51, 3) := by decide +kernel
theorem dX0_becomes_66 : decode cX0_becomes 66 = .ok (.if_icmp .ge 21, 3) := by decide +kernel
theorem dX0_becomes_69 : decode cX0_becomes 69 = .ok (.aload_n 0, 1) := by decide +kernel
theorem dX0_becomes_70 : decode cX0_becomes 70 = .ok (.getfield 23, 3) := by decide +kernel
theorem dX0_becomes_73 : decode cX0_becomes 73 = .ok (.iload_n 2, 1) := by decide +kernel
theorem dX0_becomes_74 : decode cX0_becomes 74 = .ok (.aload_n 1, 1) := by decide +kernel
theorem dX0_becomes_75 : decode cX0_becomes 75 = .ok (.getfield 23, 3) := by decide +kernel
theorem dX0_becomes_78 : decode cX0_becomes 78 = .ok (.iload_n 2, 1) := by decide +kernel
theorem dX0_becomes_79 : decode cX0_becomes 79 = .ok (.aaload, 1) := by decide +kernel
theorem dX0_becomes_80 : decode cX0_becomes 80 = .ok (.aastore, 1) := by decide +kernel
theorem dX0_becomes_81 : decode cX0_becomes 81 = .ok (.iinc 2 1, 3) := by decide +kernel
theorem dX0_becomes_84 : decode cX0_becomes 84 = .ok (.goto (-23), 3) := by decide +kernel
theorem dX0_becomes_87 : decode cX0_becomes 87 = .ok (.iconst 0, 1) := by decide +kernel
theorem dX0_becomes_88 : decode cX0_becomes 88 = .ok (.istore_n 2, 1) := by decide +kernel
theorem dX0_becomes_89 : decode cX0_becomes 89 = .ok (.iload_n 2, 1) := by decide +kernel
theorem dX0_becomes_90 : decode cX0_becomes 90 = .ok (.iconst 3, 1) := by decide +kernel
theorem dX0_becomes_91 : decode cX0_becomes 91 = .ok (.if_icmp .ge 21, 3) := by decide +kernel
theorem dX0_becomes_94 : decode cX0_becomes 94 = .ok (.aload_n 0, 1) := by decide +kernel
theorem dX0_becomes_95 : decode cX0_becomes 95 = .ok (.getfield 27, 3) := by decide +kernel
theorem dX0_becomes_98 : decode cX0_becomes 98 = .ok (.iload_n 2, 1) := by decide +kernel
theorem dX0_becomes_99 : decode cX0_becomes 99 = .ok (.aload_n 1, 1) := by decide +kernel
theorem dX0_becomes_100 : decode cX0_becomes 100 = .ok (.getfield 27, 3) := by decide +kernel
theorem dX0_becomes_103 : decode cX0_becomes 103 = .ok (.iload_n 2, 1) := by decide +kernel
theorem dX0_becomes_104 : decode cX0_becomes 104 = .ok (.iaload, 1) := by decide +kernel
theorem dX0_becomes_105 : decode cX0_becomes 105 = .ok (.iastore, 1) := by decide +kernel
theorem dX0_becomes_106 : decode cX0_becomes 106 = .ok (.iinc 2 1, 3) := by decide +kernel
theorem dX0_becomes_109 : decode cX0_becomes 109 = .ok (.goto (-20), 3) := by decide +kernel
theorem dX0_becomes_112 : decode cX0_becomes 112 = .ok (.aload_n 0, 1) := by decide +kernel
theorem dX0_becomes_113 : decode cX0_becomes 113 = .ok (.aload_n 1, 1) := by decide +kernel
theorem dX0_becomes_114 : decode cX0_becomes 114 = .ok (.getfield 44, 3) := by decide +kernel
theorem dX0_becomes_117 : decode cX0_becomes 117 = .ok (.putfield 44, 3) := by decide +kernel
theorem dX0_becomes_120 : decode cX0_becomes 120 = .ok (.aload_n 0, 1) := by decide +kernel
theorem dX0_becomes_121 : decode cX0_becomes 121 = .ok (.aload_n 1, 1) := by decide +kernel
theorem dX0_becomes_122 : decode cX0_becomes 122 = .ok (.getfield 30, 3) := by decide +kernel
theorem dX0_becomes_125 : decode cX0_becomes 125 = .ok (.putfield 30, 3) := by decide +kernel
theorem dX0_becomes_128 : decode cX0_becomes 128 = .ok (.aload_n 0, 1) := by decide +kernel
theorem dX0_becomes_129 : decode cX0_becomes 129 = .ok (.aload_n 1, 1) := by decide +kernel
theorem dX0_becomes_130 : decode cX0_becomes 130 = .ok (.getfield 51, 3) := by decide +kernel
theorem dX0_becomes_133 : decode cX0_becomes 133 = .ok (.putfield 51, 3) := by decide +kernel
theorem dX0_becomes_136 : decode cX0_becomes 136 = .ok (.aload_n 0, 1) := by decide +kernel
theorem dX0_becomes_137 : decode cX0_becomes 137 = .ok (.aload_n 1, 1) := by decide +kernel
theorem dX0_becomes_138 : decode cX0_becomes 138 = .ok (.getfield 34, 3) := by decide +kernel
theorem dX0_becomes_141 : decode cX0_becomes 141 = .ok (.putfield 34, 3) := by decide +kernel
theorem dX0_becomes_144 : decode cX0_becomes 144 = .ok (.aload_n 0, 1) := by decide +kernel
theorem dX0_becomes_145 : decode cX0_becomes 145 = .ok (.aload_n 1, 1) := by decide +kernel
theorem dX0_becomes_146 : decode cX0_becomes 146 = .ok (.getfield 37, 3) := by decide +kernel
theorem dX0_becomes_149 : decode cX0_becomes 149 = .ok (.putfield 37, 3) := by decide +kernel
theorem dX0_becomes_152 : decode cX0_becomes 152 = .ok (.aload_n 0, 1) := by decide +kernel
theorem dX0_becomes_153 : decode cX0_becomes 153 = .ok (.aload_n 1, 1) := by decide +kernel
theorem dX0_becomes_154 : decode cX0_becomes 154 = .ok (.getfield 54, 3) := by decide +kernel
theorem dX0_becomes_157 : decode cX0_becomes 157 = .ok (.putfield 54, 3) := by decide +kernel
theorem dX0_becomes_160 : decode cX0_becomes 160 = .ok (.aload_n 0, 1) := by decide +kernel
theorem dX0_becomes_161 : decode cX0_becomes 161 = .ok (.aload_n 1, 1) := by decide +kernel
theorem dX0_becomes_162 : decode cX0_becomes 162 = .ok (.getfield 57, 3) := by decide +kernel
theorem dX0_becomes_165 : decode cX0_becomes 165 = .ok (.putfield 57, 3) := by decide +kernel
theorem dX0_becomes_168 : decode cX0_becomes 168 = .ok (.aload_n 0, 1) := by decide +kernel
theorem dX0_becomes_169 : decode cX0_becomes 169 = .ok (.aload_n 1, 1) := by decide +kernel
theorem dX0_becomes_170 : decode cX0_becomes 170 = .ok (.getfield 60, 3) := by decide +kernel
theorem dX0_becomes_173 : decode cX0_becomes 173 = .ok (.putfield 60, 3) := by decide +kernel
theorem dX0_becomes_176 : decode cX0_becomes 176 = .ok (.aload_n 0, 1) := by decide +kernel
theorem dX0_becomes_177 : decode cX0_becomes 177 = .ok (.aload_n 1, 1) := by decide +kernel
theorem dX0_becomes_178 : decode cX0_becomes 178 = .ok (.getfield 40, 3) := by decide +kernel
theorem dX0_becomes_181 : decode cX0_becomes 181 = .ok (.putfield 40, 3) := by decide +kernel
theorem dX0_becomes_184 : decode cX0_becomes 184 = .ok (.return_, 1) := by decide +kernel
theorem dX0_has_0 : decode cX0_has 0 = .ok (.iload_n 1, 1) := by decide +kernel
theorem dX0_has_1 : decode cX0_has 1 = .ok (.aload_n 0, 1) := by decide +kernel
theorem dX0_has_2 : decode cX0_has 2 = .ok (.getfield 44, 3) := by decide +kernel
theorem dX0_has_5 : decode cX0_has 5 = .ok (.invokestatic 63, 3) := by decide +kernel
theorem dX0_has_8 : decode cX0_has 8 = .ok (.ireturn, 1) := by decide +kernel
theorem dX0_whoSits_0 : decode cX0_whoSits 0 = .ok (.iconst 0, 1) := by decide +kernel
theorem dX0_whoSits_1 : decode cX0_whoSits 1 = .ok (.istore_n 2, 1) := by decide +kernel
theorem dX0_whoSits_2 : decode cX0_whoSits 2 = .ok (.iload_n 2, 1) := by decide +kernel
theorem dX0_whoSits_3 : decode cX0_whoSits 3 = .ok (.aload_n 0, 1) := by decide +kernel
theorem dX0_whoSits_4 : decode cX0_whoSits 4 = .ok (.getfield 44, 3) := by decide +kernel
theorem dX0_whoSits_7 : decode cX0_whoSits 7 = .ok (.if_icmp .ge 24, 3) := by decide +kernel
theorem dX0_whoSits_10 : decode cX0_whoSits 10 = .ok (.aload_n 0, 1) := by decide +kernel
theorem dX0_whoSits_11 : decode cX0_whoSits 11 = .ok (.getfield 11, 3) := by decide +kernel
theorem dX0_whoSits_14 : decode cX0_whoSits 14 = .ok (.iload_n 2, 1) := by decide +kernel
theorem dX0_whoSits_15 : decode cX0_whoSits 15 = .ok (.aaload, 1) := by decide +kernel
theorem dX0_whoSits_16 : decode cX0_whoSits 16 = .ok (.getfield 67, 3) := by decide +kernel
theorem dX0_whoSits_19 : decode cX0_whoSits 19 = .ok (.iload_n 1, 1) := by decide +kernel
theorem dX0_whoSits_20 : decode cX0_whoSits 20 = .ok (.if_icmp .ne 5, 3) := by decide +kernel
theorem dX0_whoSits_23 : decode cX0_whoSits 23 = .ok (.iload_n 2, 1) := by decide +kernel
theorem dX0_whoSits_24 : decode cX0_whoSits 24 = .ok (.ireturn, 1) := by decide +kernel
theorem dX0_whoSits_25 : decode cX0_whoSits 25 = .ok (.iinc 2 1, 3) := by decide +kernel
theorem dX0_whoSits_28 : decode cX0_whoSits 28 = .ok (.goto (-26), 3) := by decide +kernel
theorem dX0_whoSits_31 : decode cX0_whoSits 31 = .ok (.iconst (-1), 1) := by decide +kernel
theorem dX0_whoSits_32 : decode cX0_whoSits 32 = .ok (.ireturn, 1) := by decide +kernel
theorem dX0_comes_0 : decode cX0_comes 0 = .ok (.aload_n 0, 1) := by decide +kernel
theorem dX0_comes_1 : decode cX0_comes 1 = .ok (.getfield 11, 3) := by decide +kernel
theorem dX0_comes_4 : decode cX0_comes 4 = .ok (.aload_n 0, 1) := by decide +kernel
theorem dX0_comes_5 : decode cX0_comes 5 = .ok (.getfield 44, 3) := by decide +kernel
theorem dX0_comes_8 : decode cX0_comes 8 = .ok (.aaload, 1) := by decide +kernel
theorem dX0_comes_9 : decode cX0_comes 9 = .ok (.iload_n 1, 1) := by decide +kernel
theorem dX0_comes_10 : decode cX0_comes 10 = .ok (.iload_n 2, 1) := by decide +kernel
theorem dX0_comes_11 : decode cX0_comes 11 = .ok (.iload_n 3, 1) := by decide +kernel
theorem dX0_comes_12 : decode cX0_comes 12 = .ok (.invokevirtual 70, 3) := by decide +kernel
theorem dX0_comes_15 : decode cX0_comes 15 = .ok (.aload_n 0, 1) := by decide +kernel
theorem dX0_comes_16 : decode cX0_comes 16 = .ok (.dup, 1) := by decide +kernel
theorem dX0_comes_17 : decode cX0_comes 17 = .ok (.getfield 44, 3) := by decide +kernel
theorem dX0_comes_20 : decode cX0_comes 20 = .ok (.iconst 1, 1) := by decide +kernel
theorem dX0_comes_21 : decode cX0_comes 21 = .ok (.iadd, 1) := by decide +kernel
theorem dX0_comes_22 : decode cX0_comes 22 = .ok (.putfield 44, 3) := by decide +kernel
theorem dX0_comes_25 : decode cX0_comes 25 = .ok (.aload_n 0, 1) := by decide +kernel
theorem dX0_comes_26 : decode cX0_comes 26 = .ok (.getfield 44, 3) := by decide +kernel
theorem dX0_comes_29 : decode cX0_comes 29 = .ok (.iconst 1, 1) := by decide +kernel
theorem dX0_comes_30 : decode cX0_comes 30 = .ok (.isub, 1) := by decide +kernel
theorem dX0_comes_31 : decode cX0_comes 31 = .ok (.ireturn, 1) := by decide +kernel
theorem dX0_comesByLot_0 : decode cX0_comesByLot 0 = .ok (.aload_n 0, 1) := by decide +kernel
theorem dX0_comesByLot_1 : decode cX0_comesByLot 1 = .ok (.invokevirtual 74, 3) := by decide +kernel
theorem dX0_comesByLot_4 : decode cX0_comesByLot 4 = .ok (.bipush 6, 2) := by decide +kernel
theorem dX0_comesByLot_6 : decode cX0_comesByLot 6 = .ok (.irem, 1) := by decide +kernel
theorem dX0_comesByLot_7 : decode cX0_comesByLot 7 = .ok (.istore_n 1, 1) := by decide +kernel
theorem dX0_comesByLot_8 : decode cX0_comesByLot 8 = .ok (.aload_n 0, 1) := by decide +kernel
theorem dX0_comesByLot_9 : decode cX0_comesByLot 9 = .ok (.invokevirtual 74, 3) := by decide +kernel
theorem dX0_comesByLot_12 : decode cX0_comesByLot 12 = .ok (.bipush 100, 2) := by decide +kernel
theorem dX0_comesByLot_14 : decode cX0_comesByLot 14 = .ok (.irem, 1) := by decide +kernel
theorem dX0_comesByLot_15 : decode cX0_comesByLot 15 = .ok (.istore_n 2, 1) := by decide +kernel
theorem dX0_comesByLot_16 : decode cX0_comesByLot 16 = .ok (.aload_n 0, 1) := by decide +kernel
theorem dX0_comesByLot_17 : decode cX0_comesByLot 17 = .ok (.aload_n 0, 1) := by decide +kernel
theorem dX0_comesByLot_18 : decode cX0_comesByLot 18 = .ok (.invokevirtual 74, 3) := by decide +kernel
theorem dX0_comesByLot_21 : decode cX0_comesByLot 21 = .ok (.bipush 30, 2) := by decide +kernel
theorem dX0_comesByLot_23 : decode cX0_comesByLot 23 = .ok (.irem, 1) := by decide +kernel
theorem dX0_comesByLot_24 : decode cX0_comesByLot 24 = .ok (.invokevirtual 78, 3) := by decide +kernel
theorem dX0_comesByLot_27 : decode cX0_comesByLot 27 = .ok (.istore_n 3, 1) := by decide +kernel
theorem dX0_comesByLot_28 : decode cX0_comesByLot 28 = .ok (.aload_n 0, 1) := by decide +kernel
theorem dX0_comesByLot_29 : decode cX0_comesByLot 29 = .ok (.iload_n 1, 1) := by decide +kernel
theorem dX0_comesByLot_30 : decode cX0_comesByLot 30 = .ok (.iload_n 3, 1) := by decide +kernel
theorem dX0_comesByLot_31 : decode cX0_comesByLot 31 = .ok (.iload_n 2, 1) := by decide +kernel
theorem dX0_comesByLot_32 : decode cX0_comesByLot 32 = .ok (.invokevirtual 82, 3) := by decide +kernel
theorem dX0_comesByLot_35 : decode cX0_comesByLot 35 = .ok (.pop, 1) := by decide +kernel
theorem dX0_comesByLot_36 : decode cX0_comesByLot 36 = .ok (.return_, 1) := by decide +kernel
theorem dX0_draw_0 : decode cX0_draw 0 = .ok (.aload_n 0, 1) := by decide +kernel
theorem dX0_draw_1 : decode cX0_draw 1 = .ok (.aload_n 0, 1) := by decide +kernel
theorem dX0_draw_2 : decode cX0_draw 2 = .ok (.getfield 40, 3) := by decide +kernel
theorem dX0_draw_5 : decode cX0_draw 5 = .ok (.ldc 86, 2) := by decide +kernel
theorem dX0_draw_7 : decode cX0_draw 7 = .ok (.imul, 1) := by decide +kernel
theorem dX0_draw_8 : decode cX0_draw 8 = .ok (.sipush 12345, 3) := by decide +kernel
theorem dX0_draw_11 : decode cX0_draw 11 = .ok (.iadd, 1) := by decide +kernel
theorem dX0_draw_12 : decode cX0_draw 12 = .ok (.putfield 40, 3) := by decide +kernel
theorem dX0_draw_15 : decode cX0_draw 15 = .ok (.aload_n 0, 1) := by decide +kernel
theorem dX0_draw_16 : decode cX0_draw 16 = .ok (.getfield 40, 3) := by decide +kernel
theorem dX0_draw_19 : decode cX0_draw 19 = .ok (.bipush 8, 2) := by decide +kernel
theorem dX0_draw_21 : decode cX0_draw 21 = .ok (.iushr, 1) := by decide +kernel
theorem dX0_draw_22 : decode cX0_draw 22 = .ok (.ireturn, 1) := by decide +kernel
theorem dX0_freeSeatFrom_0 : decode cX0_freeSeatFrom 0 = .ok (.iconst 0, 1) := by decide +kernel
theorem dX0_freeSeatFrom_1 : decode cX0_freeSeatFrom 1 = .ok (.istore_n 2, 1) := by decide +kernel
theorem dX0_freeSeatFrom_2 : decode cX0_freeSeatFrom 2 = .ok (.iload_n 2, 1) := by decide +kernel
theorem dX0_freeSeatFrom_3 : decode cX0_freeSeatFrom 3 = .ok (.bipush 30, 2) := by decide +kernel
theorem dX0_freeSeatFrom_5 : decode cX0_freeSeatFrom 5 = .ok (.if_icmp .ge 26, 3) := by decide +kernel
theorem dX0_freeSeatFrom_8 : decode cX0_freeSeatFrom 8 = .ok (.iload_n 1, 1) := by decide +kernel
theorem dX0_freeSeatFrom_9 : decode cX0_freeSeatFrom 9 = .ok (.iload_n 2, 1) := by decide +kernel
theorem dX0_freeSeatFrom_10 : decode cX0_freeSeatFrom 10 = .ok (.iadd, 1) := by decide +kernel
theorem dX0_freeSeatFrom_11 : decode cX0_freeSeatFrom 11 = .ok (.bipush 30, 2) := by decide +kernel
theorem dX0_freeSeatFrom_13 : decode cX0_freeSeatFrom 13 = .ok (.irem, 1) := by decide +kernel
theorem dX0_freeSeatFrom_14 : decode cX0_freeSeatFrom 14 = .ok (.istore_n 3, 1) := by decide +kernel
theorem dX0_freeSeatFrom_15 : decode cX0_freeSeatFrom 15 = .ok (.aload_n 0, 1) := by decide +kernel
theorem dX0_freeSeatFrom_16 : decode cX0_freeSeatFrom 16 = .ok (.iload_n 3, 1) := by decide +kernel
theorem dX0_freeSeatFrom_17 : decode cX0_freeSeatFrom 17 = .ok (.invokevirtual 87, 3) := by decide +kernel
theorem dX0_freeSeatFrom_20 : decode cX0_freeSeatFrom 20 = .ok (.ifCond .ge 5, 3) := by decide +kernel
theorem dX0_freeSeatFrom_23 : decode cX0_freeSeatFrom 23 = .ok (.iload_n 3, 1) := by decide +kernel
theorem dX0_freeSeatFrom_24 : decode cX0_freeSeatFrom 24 = .ok (.ireturn, 1) := by decide +kernel
theorem dX0_freeSeatFrom_25 : decode cX0_freeSeatFrom 25 = .ok (.iinc 2 1, 3) := by decide +kernel
theorem dX0_freeSeatFrom_28 : decode cX0_freeSeatFrom 28 = .ok (.goto (-26), 3) := by decide +kernel
theorem dX0_freeSeatFrom_31 : decode cX0_freeSeatFrom 31 = .ok (.iload_n 1, 1) := by decide +kernel
theorem dX0_freeSeatFrom_32 : decode cX0_freeSeatFrom 32 = .ok (.ireturn, 1) := by decide +kernel
theorem dX0_swapSeats_0 : decode cX0_swapSeats 0 = .ok (.aload_n 0, 1) := by decide +kernel
theorem dX0_swapSeats_1 : decode cX0_swapSeats 1 = .ok (.getfield 11, 3) := by decide +kernel
theorem dX0_swapSeats_4 : decode cX0_swapSeats 4 = .ok (.iload_n 1, 1) := by decide +kernel
theorem dX0_swapSeats_5 : decode cX0_swapSeats 5 = .ok (.aaload, 1) := by decide +kernel
theorem dX0_swapSeats_6 : decode cX0_swapSeats 6 = .ok (.getfield 67, 3) := by decide +kernel
theorem dX0_swapSeats_9 : decode cX0_swapSeats 9 = .ok (.istore_n 3, 1) := by decide +kernel
theorem dX0_swapSeats_10 : decode cX0_swapSeats 10 = .ok (.aload_n 0, 1) := by decide +kernel
theorem dX0_swapSeats_11 : decode cX0_swapSeats 11 = .ok (.getfield 11, 3) := by decide +kernel
theorem dX0_swapSeats_14 : decode cX0_swapSeats 14 = .ok (.iload_n 1, 1) := by decide +kernel
theorem dX0_swapSeats_15 : decode cX0_swapSeats 15 = .ok (.aaload, 1) := by decide +kernel
theorem dX0_swapSeats_16 : decode cX0_swapSeats 16 = .ok (.aload_n 0, 1) := by decide +kernel
theorem dX0_swapSeats_17 : decode cX0_swapSeats 17 = .ok (.getfield 11, 3) := by decide +kernel
theorem dX0_swapSeats_20 : decode cX0_swapSeats 20 = .ok (.iload_n 2, 1) := by decide +kernel
theorem dX0_swapSeats_21 : decode cX0_swapSeats 21 = .ok (.aaload, 1) := by decide +kernel
theorem dX0_swapSeats_22 : decode cX0_swapSeats 22 = .ok (.getfield 67, 3) := by decide +kernel
theorem dX0_swapSeats_25 : decode cX0_swapSeats 25 = .ok (.putfield 67, 3) := by decide +kernel
theorem dX0_swapSeats_28 : decode cX0_swapSeats 28 = .ok (.aload_n 0, 1) := by decide +kernel
theorem dX0_swapSeats_29 : decode cX0_swapSeats 29 = .ok (.getfield 11, 3) := by decide +kernel
theorem dX0_swapSeats_32 : decode cX0_swapSeats 32 = .ok (.iload_n 2, 1) := by decide +kernel
theorem dX0_swapSeats_33 : decode cX0_swapSeats 33 = .ok (.aaload, 1) := by decide +kernel
theorem dX0_swapSeats_34 : decode cX0_swapSeats 34 = .ok (.iload_n 3, 1) := by decide +kernel
theorem dX0_swapSeats_35 : decode cX0_swapSeats 35 = .ok (.putfield 67, 3) := by decide +kernel
theorem dX0_swapSeats_38 : decode cX0_swapSeats 38 = .ok (.return_, 1) := by decide +kernel
theorem dX0_loudIn_0 : decode cX0_loudIn 0 = .ok (.aload_n 0, 1) := by decide +kernel
theorem dX0_loudIn_1 : decode cX0_loudIn 1 = .ok (.getfield 30, 3) := by decide +kernel
theorem dX0_loudIn_4 : decode cX0_loudIn 4 = .ok (.iconst 1, 1) := by decide +kernel
theorem dX0_loudIn_5 : decode cX0_loudIn 5 = .ok (.if_icmp .ge 7, 3) := by decide +kernel
theorem dX0_loudIn_8 : decode cX0_loudIn 8 = .ok (.iconst 0, 1) := by decide +kernel
theorem dX0_loudIn_9 : decode cX0_loudIn 9 = .ok (.goto 19, 3) := by decide +kernel
theorem dX0_loudIn_12 : decode cX0_loudIn 12 = .ok (.aload_n 0, 1) := by decide +kernel
theorem dX0_loudIn_13 : decode cX0_loudIn 13 = .ok (.getfield 17, 3) := by decide +kernel
theorem dX0_loudIn_16 : decode cX0_loudIn 16 = .ok (.aload_n 0, 1) := by decide +kernel
theorem dX0_loudIn_17 : decode cX0_loudIn 17 = .ok (.getfield 54, 3) := by decide +kernel
theorem dX0_loudIn_20 : decode cX0_loudIn 20 = .ok (.iload_n 1, 1) := by decide +kernel
theorem dX0_loudIn_21 : decode cX0_loudIn 21 = .ok (.iadd, 1) := by decide +kernel
theorem dX0_loudIn_22 : decode cX0_loudIn 22 = .ok (.aload_n 0, 1) := by decide +kernel
theorem dX0_loudIn_23 : decode cX0_loudIn 23 = .ok (.getfield 30, 3) := by decide +kernel
theorem dX0_loudIn_26 : decode cX0_loudIn 26 = .ok (.irem, 1) := by decide +kernel
theorem dX0_loudIn_27 : decode cX0_loudIn 27 = .ok (.iaload, 1) := by decide +kernel
theorem dX0_loudIn_28 : decode cX0_loudIn 28 = .ok (.ireturn, 1) := by decide +kernel
theorem dX0_upToTheLast_0 : decode cX0_upToTheLast 0 = .ok (.iload_n 1, 1) := by decide +kernel
theorem dX0_upToTheLast_1 : decode cX0_upToTheLast 1 = .ok (.ldc 90, 2) := by decide +kernel
theorem dX0_upToTheLast_3 : decode cX0_upToTheLast 3 = .ok (.aload_n 0, 1) := by decide +kernel
theorem dX0_upToTheLast_4 : decode cX0_upToTheLast 4 = .ok (.getfield 54, 3) := by decide +kernel
theorem dX0_upToTheLast_7 : decode cX0_upToTheLast 7 = .ok (.isub, 1) := by decide +kernel
theorem dX0_upToTheLast_8 : decode cX0_upToTheLast 8 = .ok (.invokestatic 91, 3) := by decide +kernel
theorem dX0_upToTheLast_11 : decode cX0_upToTheLast 11 = .ok (.ireturn, 1) := by decide +kernel
theorem dX0_hasCoughed_0 : decode cX0_hasCoughed 0 = .ok (.aload_n 0, 1) := by decide +kernel
theorem dX0_hasCoughed_1 : decode cX0_hasCoughed 1 = .ok (.getfield 60, 3) := by decide +kernel
theorem dX0_hasCoughed_4 : decode cX0_hasCoughed 4 = .ok (.iload_n 1, 1) := by decide +kernel
theorem dX0_hasCoughed_5 : decode cX0_hasCoughed 5 = .ok (.iushr, 1) := by decide +kernel
theorem dX0_hasCoughed_6 : decode cX0_hasCoughed 6 = .ok (.iconst 1, 1) := by decide +kernel
theorem dX0_hasCoughed_7 : decode cX0_hasCoughed 7 = .ok (.iand, 1) := by decide +kernel
theorem dX0_hasCoughed_8 : decode cX0_hasCoughed 8 = .ok (.iconst 1, 1) := by decide +kernel
theorem dX0_hasCoughed_9 : decode cX0_hasCoughed 9 = .ok (.if_icmp .ne 7, 3) := by decide +kernel
theorem dX0_hasCoughed_12 : decode cX0_hasCoughed 12 = .ok (.iconst 1, 1) := by decide +kernel
theorem dX0_hasCoughed_13 : decode cX0_hasCoughed 13 = .ok (.goto 4, 3) := by decide +kernel
theorem dX0_hasCoughed_16 : decode cX0_hasCoughed 16 = .ok (.iconst 0, 1) := by decide +kernel
theorem dX0_hasCoughed_17 : decode cX0_hasCoughed 17 = .ok (.ireturn, 1) := by decide +kernel
theorem dX0_allCoughs_0 : decode cX0_allCoughs 0 = .ok (.iconst 0, 1) := by decide +kernel
theorem dX0_allCoughs_1 : decode cX0_allCoughs 1 = .ok (.istore_n 1, 1) := by decide +kernel
theorem dX0_allCoughs_2 : decode cX0_allCoughs 2 = .ok (.iconst 0, 1) := by decide +kernel
theorem dX0_allCoughs_3 : decode cX0_allCoughs 3 = .ok (.istore_n 2, 1) := by decide +kernel
theorem dX0_allCoughs_4 : decode cX0_allCoughs 4 = .ok (.iload_n 2, 1) := by decide +kernel
theorem dX0_allCoughs_5 : decode cX0_allCoughs 5 = .ok (.aload_n 0, 1) := by decide +kernel
theorem dX0_allCoughs_6 : decode cX0_allCoughs 6 = .ok (.getfield 44, 3) := by decide +kernel
theorem dX0_allCoughs_9 : decode cX0_allCoughs 9 = .ok (.if_icmp .ge 21, 3) := by decide +kernel
theorem dX0_allCoughs_12 : decode cX0_allCoughs 12 = .ok (.iload_n 1, 1) := by decide +kernel
theorem dX0_allCoughs_13 : decode cX0_allCoughs 13 = .ok (.aload_n 0, 1) := by decide +kernel
theorem dX0_allCoughs_14 : decode cX0_allCoughs 14 = .ok (.getfield 11, 3) := by decide +kernel
theorem dX0_allCoughs_17 : decode cX0_allCoughs 17 = .ok (.iload_n 2, 1) := by decide +kernel
theorem dX0_allCoughs_18 : decode cX0_allCoughs 18 = .ok (.aaload, 1) := by decide +kernel
theorem dX0_allCoughs_19 : decode cX0_allCoughs 19 = .ok (.getfield 97, 3) := by decide +kernel
theorem dX0_allCoughs_22 : decode cX0_allCoughs 22 = .ok (.iadd, 1) := by decide +kernel
theorem dX0_allCoughs_23 : decode cX0_allCoughs 23 = .ok (.istore_n 1, 1) := by decide +kernel
theorem dX0_allCoughs_24 : decode cX0_allCoughs 24 = .ok (.iinc 2 1, 3) := by decide +kernel
theorem dX0_allCoughs_27 : decode cX0_allCoughs 27 = .ok (.goto (-23), 3) := by decide +kernel
theorem dX0_allCoughs_30 : decode cX0_allCoughs 30 = .ok (.iload_n 1, 1) := by decide +kernel
theorem dX0_allCoughs_31 : decode cX0_allCoughs 31 = .ok (.ireturn, 1) := by decide +kernel
theorem dX0_greatestItch_0 : decode cX0_greatestItch 0 = .ok (.iconst 0, 1) := by decide +kernel
theorem dX0_greatestItch_1 : decode cX0_greatestItch 1 = .ok (.istore_n 1, 1) := by decide +kernel
theorem dX0_greatestItch_2 : decode cX0_greatestItch 2 = .ok (.iconst 0, 1) := by decide +kernel
theorem dX0_greatestItch_3 : decode cX0_greatestItch 3 = .ok (.istore_n 2, 1) := by decide +kernel
theorem dX0_greatestItch_4 : decode cX0_greatestItch 4 = .ok (.iload_n 2, 1) := by decide +kernel
theorem dX0_greatestItch_5 : decode cX0_greatestItch 5 = .ok (.aload_n 0, 1) := by decide +kernel
theorem dX0_greatestItch_6 : decode cX0_greatestItch 6 = .ok (.getfield 44, 3) := by decide +kernel
theorem dX0_greatestItch_9 : decode cX0_greatestItch 9 = .ok (.if_icmp .ge 23, 3) := by decide +kernel
theorem dX0_greatestItch_12 : decode cX0_greatestItch 12 = .ok (.iload_n 1, 1) := by decide +kernel
theorem dX0_greatestItch_13 : decode cX0_greatestItch 13 = .ok (.aload_n 0, 1) := by decide +kernel
theorem dX0_greatestItch_14 : decode cX0_greatestItch 14 = .ok (.getfield 11, 3) := by decide +kernel
theorem dX0_greatestItch_17 : decode cX0_greatestItch 17 = .ok (.iload_n 2, 1) := by decide +kernel
theorem dX0_greatestItch_18 : decode cX0_greatestItch 18 = .ok (.aaload, 1) := by decide +kernel
theorem dX0_greatestItch_19 : decode cX0_greatestItch 19 = .ok (.getfield 100, 3) := by decide +kernel
theorem dX0_greatestItch_22 : decode cX0_greatestItch 22 = .ok (.invokestatic 103, 3) := by decide +kernel
theorem dX0_greatestItch_25 : decode cX0_greatestItch 25 = .ok (.istore_n 1, 1) := by decide +kernel
theorem dX0_greatestItch_26 : decode cX0_greatestItch 26 = .ok (.iinc 2 1, 3) := by decide +kernel
theorem dX0_greatestItch_29 : decode cX0_greatestItch 29 = .ok (.goto (-25), 3) := by decide +kernel
theorem dX0_greatestItch_32 : decode cX0_greatestItch 32 = .ok (.iload_n 1, 1) := by decide +kernel
theorem dX0_greatestItch_33 : decode cX0_greatestItch 33 = .ok (.ireturn, 1) := by decide +kernel
theorem dX0_takesText_0 : decode cX0_takesText 0 = .ok (.aload_n 0, 1) := by decide +kernel
theorem dX0_takesText_1 : decode cX0_takesText 1 = .ok (.getfield 23, 3) := by decide +kernel
theorem dX0_takesText_4 : decode cX0_takesText 4 = .ok (.aload_n 0, 1) := by decide +kernel
theorem dX0_takesText_5 : decode cX0_takesText 5 = .ok (.getfield 51, 3) := by decide +kernel
theorem dX0_takesText_8 : decode cX0_takesText 8 = .ok (.aload_n 1, 1) := by decide +kernel
theorem dX0_takesText_9 : decode cX0_takesText 9 = .ok (.aastore, 1) := by decide +kernel
theorem dX0_takesText_10 : decode cX0_takesText 10 = .ok (.aload_n 0, 1) := by decide +kernel
theorem dX0_takesText_11 : decode cX0_takesText 11 = .ok (.getfield 27, 3) := by decide +kernel
theorem dX0_takesText_14 : decode cX0_takesText 14 = .ok (.aload_n 1, 1) := by decide +kernel
theorem dX0_takesText_15 : decode cX0_takesText 15 = .ok (.getfield 106, 3) := by decide +kernel
theorem dX0_takesText_18 : decode cX0_takesText 18 = .ok (.aload_n 0, 1) := by decide +kernel
theorem dX0_takesText_19 : decode cX0_takesText 19 = .ok (.getfield 51, 3) := by decide +kernel
theorem dX0_takesText_22 : decode cX0_takesText 22 = .ok (.iastore, 1) := by decide +kernel
theorem dX0_takesText_23 : decode cX0_takesText 23 = .ok (.aload_n 0, 1) := by decide +kernel
theorem dX0_takesText_24 : decode cX0_takesText 24 = .ok (.dup, 1) := by decide +kernel
theorem dX0_takesText_25 : decode cX0_takesText 25 = .ok (.getfield 51, 3) := by decide +kernel
theorem dX0_takesText_28 : decode cX0_takesText 28 = .ok (.iconst 1, 1) := by decide +kernel
theorem dX0_takesText_29 : decode cX0_takesText 29 = .ok (.iadd, 1) := by decide +kernel
theorem dX0_takesText_30 : decode cX0_takesText 30 = .ok (.putfield 51, 3) := by decide +kernel
theorem dX0_takesText_33 : decode cX0_takesText 33 = .ok (.aload_n 0, 1) := by decide +kernel
theorem dX0_takesText_34 : decode cX0_takesText 34 = .ok (.getfield 51, 3) := by decide +kernel
theorem dX0_takesText_37 : decode cX0_takesText 37 = .ok (.iconst 1, 1) := by decide +kernel
theorem dX0_takesText_38 : decode cX0_takesText 38 = .ok (.isub, 1) := by decide +kernel
theorem dX0_takesText_39 : decode cX0_takesText 39 = .ok (.ireturn, 1) := by decide +kernel
theorem dX0_lawAt_0 : decode cX0_lawAt 0 = .ok (.iload_n 1, 1) := by decide +kernel
theorem dX0_lawAt_1 : decode cX0_lawAt 1 = .ok (.aload_n 0, 1) := by decide +kernel
theorem dX0_lawAt_2 : decode cX0_lawAt 2 = .ok (.getfield 51, 3) := by decide +kernel
theorem dX0_lawAt_5 : decode cX0_lawAt 5 = .ok (.invokestatic 63, 3) := by decide +kernel
theorem dX0_lawAt_8 : decode cX0_lawAt 8 = .ok (.ifCond .eq 12, 3) := by decide +kernel
theorem dX0_lawAt_11 : decode cX0_lawAt 11 = .ok (.aload_n 0, 1) := by decide +kernel
theorem dX0_lawAt_12 : decode cX0_lawAt 12 = .ok (.getfield 23, 3) := by decide +kernel
theorem dX0_lawAt_15 : decode cX0_lawAt 15 = .ok (.iload_n 1, 1) := by decide +kernel
theorem dX0_lawAt_16 : decode cX0_lawAt 16 = .ok (.aaload, 1) := by decide +kernel
theorem dX0_lawAt_17 : decode cX0_lawAt 17 = .ok (.goto 4, 3) := by decide +kernel
theorem dX0_lawAt_20 : decode cX0_lawAt 20 = .ok (.aconst_null, 1) := by decide +kernel
theorem dX0_lawAt_21 : decode cX0_lawAt 21 = .ok (.areturn, 1) := by decide +kernel
theorem dX0_grows_0 : decode cX0_grows 0 = .ok (.aload_n 1, 1) := by decide +kernel
theorem dX0_grows_1 : decode cX0_grows 1 = .ok (.getfield 109, 3) := by decide +kernel
theorem dX0_grows_4 : decode cX0_grows 4 = .ok (.ifCond .le 5, 3) := by decide +kernel
theorem dX0_grows_7 : decode cX0_grows 7 = .ok (.iconst 0, 1) := by decide +kernel
theorem dX0_grows_8 : decode cX0_grows 8 = .ok (.ireturn, 1) := by decide +kernel
theorem dX0_grows_9 : decode cX0_grows 9 = .ok (.aload_n 0, 1) := by decide +kernel
theorem dX0_grows_10 : decode cX0_grows 10 = .ok (.aload_n 0, 1) := by decide +kernel
theorem dX0_grows_11 : decode cX0_grows 11 = .ok (.getfield 27, 3) := by decide +kernel
theorem dX0_grows_14 : decode cX0_grows 14 = .ok (.iconst 0, 1) := by decide +kernel
theorem dX0_grows_15 : decode cX0_grows 15 = .ok (.iaload, 1) := by decide +kernel
theorem dX0_grows_16 : decode cX0_grows 16 = .ok (.invokevirtual 112, 3) := by decide +kernel
theorem dX0_grows_19 : decode cX0_grows 19 = .ok (.astore_n 2, 1) := by decide +kernel
theorem dX0_grows_20 : decode cX0_grows 20 = .ok (.aload_n 2, 1) := by decide +kernel
theorem dX0_grows_21 : decode cX0_grows 21 = .ok (.ifnonnull 23, 3) := by decide +kernel
theorem dX0_grows_24 : decode cX0_grows 24 = .ok (.iconst 1, 1) := by decide +kernel
theorem dX0_grows_25 : decode cX0_grows 25 = .ok (.aload_n 1, 1) := by decide +kernel
theorem dX0_grows_26 : decode cX0_grows 26 = .ok (.getfield 116, 3) := by decide +kernel
theorem dX0_grows_29 : decode cX0_grows 29 = .ok (.bipush 20, 2) := by decide +kernel
theorem dX0_grows_31 : decode cX0_grows 31 = .ok (.idiv, 1) := by decide +kernel
theorem dX0_grows_32 : decode cX0_grows 32 = .ok (.iadd, 1) := by decide +kernel
theorem dX0_grows_33 : decode cX0_grows 33 = .ok (.aload_n 0, 1) := by decide +kernel
theorem dX0_grows_34 : decode cX0_grows 34 = .ok (.getfield 34, 3) := by decide +kernel
theorem dX0_grows_37 : decode cX0_grows 37 = .ok (.bipush 10, 2) := by decide +kernel
theorem dX0_grows_39 : decode cX0_grows 39 = .ok (.idiv, 1) := by decide +kernel
theorem dX0_grows_40 : decode cX0_grows 40 = .ok (.iadd, 1) := by decide +kernel
theorem dX0_grows_41 : decode cX0_grows 41 = .ok (.goto 24, 3) := by decide +kernel
theorem dX0_grows_44 : decode cX0_grows 44 = .ok (.aload_n 2, 1) := by decide +kernel
theorem dX0_grows_45 : decode cX0_grows 45 = .ok (.aload_n 1, 1) := by decide +kernel
theorem dX0_grows_46 : decode cX0_grows 46 = .ok (.getfield 116, 3) := by decide +kernel
theorem dX0_grows_49 : decode cX0_grows 49 = .ok (.aload_n 0, 1) := by decide +kernel
theorem dX0_grows_50 : decode cX0_grows 50 = .ok (.getfield 34, 3) := by decide +kernel
theorem dX0_grows_53 : decode cX0_grows 53 = .ok (.aload_n 1, 1) := by decide +kernel
theorem dX0_grows_54 : decode cX0_grows 54 = .ok (.getfield 100, 3) := by decide +kernel
theorem dX0_grows_57 : decode cX0_grows 57 = .ok (.invokevirtual 119, 3) := by decide +kernel
theorem dX0_grows_60 : decode cX0_grows 60 = .ok (.bipush 99, 2) := by decide +kernel
theorem dX0_grows_62 : decode cX0_grows 62 = .ok (.invokestatic 122, 3) := by decide +kernel
theorem dX0_grows_65 : decode cX0_grows 65 = .ok (.ireturn, 1) := by decide +kernel
theorem dX0_harmOf_0 : decode cX0_harmOf 0 = .ok (.aload_n 0, 1) := by decide +kernel
theorem dX0_harmOf_1 : decode cX0_harmOf 1 = .ok (.aload_n 0, 1) := by decide +kernel
theorem dX0_harmOf_2 : decode cX0_harmOf 2 = .ok (.getfield 27, 3) := by decide +kernel
theorem dX0_harmOf_5 : decode cX0_harmOf 5 = .ok (.iconst 1, 1) := by decide +kernel
theorem dX0_harmOf_6 : decode cX0_harmOf 6 = .ok (.iaload, 1) := by decide +kernel
theorem dX0_harmOf_7 : decode cX0_harmOf 7 = .ok (.invokevirtual 112, 3) := by decide +kernel
theorem dX0_harmOf_10 : decode cX0_harmOf 10 = .ok (.astore_n 3, 1) := by decide +kernel
theorem dX0_harmOf_11 : decode cX0_harmOf 11 = .ok (.aload_n 3, 1) := by decide +kernel
theorem dX0_harmOf_12 : decode cX0_harmOf 12 = .ok (.ifnonnull 16, 3) := by decide +kernel
theorem dX0_harmOf_15 : decode cX0_harmOf 15 = .ok (.iload_n 1, 1) := by decide +kernel
theorem dX0_harmOf_16 : decode cX0_harmOf 16 = .ok (.iconst 0, 1) := by decide +kernel
theorem dX0_harmOf_17 : decode cX0_harmOf 17 = .ok (.bipush 60, 2) := by decide +kernel
theorem dX0_harmOf_19 : decode cX0_harmOf 19 = .ok (.iload_n 2, 1) := by decide +kernel
theorem dX0_harmOf_20 : decode cX0_harmOf 20 = .ok (.isub, 1) := by decide +kernel
theorem dX0_harmOf_21 : decode cX0_harmOf 21 = .ok (.invokestatic 103, 3) := by decide +kernel
theorem dX0_harmOf_24 : decode cX0_harmOf 24 = .ok (.imul, 1) := by decide +kernel
theorem dX0_harmOf_25 : decode cX0_harmOf 25 = .ok (.goto 16, 3) := by decide +kernel
theorem dX0_harmOf_28 : decode cX0_harmOf 28 = .ok (.aload_n 3, 1) := by decide +kernel
theorem dX0_harmOf_29 : decode cX0_harmOf 29 = .ok (.iload_n 1, 1) := by decide +kernel
theorem dX0_harmOf_30 : decode cX0_harmOf 30 = .ok (.iload_n 2, 1) := by decide +kernel
theorem dX0_harmOf_31 : decode cX0_harmOf 31 = .ok (.iconst 0, 1) := by decide +kernel
theorem dX0_harmOf_32 : decode cX0_harmOf 32 = .ok (.invokevirtual 119, 3) := by decide +kernel
theorem dX0_harmOf_35 : decode cX0_harmOf 35 = .ok (.sipush 9999, 3) := by decide +kernel
theorem dX0_harmOf_38 : decode cX0_harmOf 38 = .ok (.invokestatic 122, 3) := by decide +kernel
theorem dX0_harmOf_41 : decode cX0_harmOf 41 = .ok (.ireturn, 1) := by decide +kernel
theorem dX0_fineOf_0 : decode cX0_fineOf 0 = .ok (.aload_n 0, 1) := by decide +kernel
theorem dX0_fineOf_1 : decode cX0_fineOf 1 = .ok (.aload_n 0, 1) := by decide +kernel
theorem dX0_fineOf_2 : decode cX0_fineOf 2 = .ok (.getfield 27, 3) := by decide +kernel
theorem dX0_fineOf_5 : decode cX0_fineOf 5 = .ok (.iconst 2, 1) := by decide +kernel
theorem dX0_fineOf_6 : decode cX0_fineOf 6 = .ok (.iaload, 1) := by decide +kernel
theorem dX0_fineOf_7 : decode cX0_fineOf 7 = .ok (.invokevirtual 112, 3) := by decide +kernel
theorem dX0_fineOf_10 : decode cX0_fineOf 10 = .ok (.astore_n 2, 1) := by decide +kernel
theorem dX0_fineOf_11 : decode cX0_fineOf 11 = .ok (.aload_n 2, 1) := by decide +kernel
theorem dX0_fineOf_12 : decode cX0_fineOf 12 = .ok (.ifnonnull 10, 3) := by decide +kernel
theorem dX0_fineOf_15 : decode cX0_fineOf 15 = .ok (.aload_n 1, 1) := by decide +kernel
theorem dX0_fineOf_16 : decode cX0_fineOf 16 = .ok (.getfield 97, 3) := by decide +kernel
theorem dX0_fineOf_19 : decode cX0_fineOf 19 = .ok (.goto 16, 3) := by decide +kernel
theorem dX0_fineOf_22 : decode cX0_fineOf 22 = .ok (.aload_n 2, 1) := by decide +kernel
theorem dX0_fineOf_23 : decode cX0_fineOf 23 = .ok (.aload_n 1, 1) := by decide +kernel
theorem dX0_fineOf_24 : decode cX0_fineOf 24 = .ok (.getfield 97, 3) := by decide +kernel
theorem dX0_fineOf_27 : decode cX0_fineOf 27 = .ok (.aload_n 0, 1) := by decide +kernel
theorem dX0_fineOf_28 : decode cX0_fineOf 28 = .ok (.getfield 57, 3) := by decide +kernel
theorem dX0_fineOf_31 : decode cX0_fineOf 31 = .ok (.iconst 0, 1) := by decide +kernel
theorem dX0_fineOf_32 : decode cX0_fineOf 32 = .ok (.invokevirtual 119, 3) := by decide +kernel
theorem dX0_fineOf_35 : decode cX0_fineOf 35 = .ok (.ireturn, 1) := by decide +kernel
theorem dX0_letsGo_0 : decode cX0_letsGo 0 = .ok (.aload_n 0, 1) := by decide +kernel
theorem dX0_letsGo_1 : decode cX0_letsGo 1 = .ok (.getfield 11, 3) := by decide +kernel
theorem dX0_letsGo_4 : decode cX0_letsGo 4 = .ok (.iload_n 1, 1) := by decide +kernel
theorem dX0_letsGo_5 : decode cX0_letsGo 5 = .ok (.aaload, 1) := by decide +kernel
theorem dX0_letsGo_6 : decode cX0_letsGo 6 = .ok (.astore_n 3, 1) := by decide +kernel
theorem dX0_letsGo_7 : decode cX0_letsGo 7 = .ok (.aload_n 3, 1) := by decide +kernel
theorem dX0_letsGo_8 : decode cX0_letsGo 8 = .ok (.getfield 100, 3) := by decide +kernel
theorem dX0_letsGo_11 : decode cX0_letsGo 11 = .ok (.bipush 100, 2) := by decide +kernel
theorem dX0_letsGo_13 : decode cX0_letsGo 13 = .ok (.if_icmp .lt 7, 3) := by decide +kernel
theorem dX0_letsGo_16 : decode cX0_letsGo 16 = .ok (.iconst 1, 1) := by decide +kernel
theorem dX0_letsGo_17 : decode cX0_letsGo 17 = .ok (.goto 4, 3) := by decide +kernel
theorem dX0_letsGo_20 : decode cX0_letsGo 20 = .ok (.iconst 0, 1) := by decide +kernel
theorem dX0_letsGo_21 : decode cX0_letsGo 21 = .ok (.istore 4, 2) := by decide +kernel
theorem dX0_letsGo_23 : decode cX0_letsGo 23 = .ok (.aload_n 3, 1) := by decide +kernel
theorem dX0_letsGo_24 : decode cX0_letsGo 24 = .ok (.getfield 100, 3) := by decide +kernel
theorem dX0_letsGo_27 : decode cX0_letsGo 27 = .ok (.sipush 200, 3) := by decide +kernel
theorem dX0_letsGo_30 : decode cX0_letsGo 30 = .ok (.if_icmp .lt 7, 3) := by decide +kernel
theorem dX0_letsGo_33 : decode cX0_letsGo 33 = .ok (.iconst 1, 1) := by decide +kernel
theorem dX0_letsGo_34 : decode cX0_letsGo 34 = .ok (.goto 4, 3) := by decide +kernel
theorem dX0_letsGo_37 : decode cX0_letsGo 37 = .ok (.iconst 0, 1) := by decide +kernel
theorem dX0_letsGo_38 : decode cX0_letsGo 38 = .ok (.istore 5, 2) := by decide +kernel
theorem dX0_letsGo_40 : decode cX0_letsGo 40 = .ok (.aload_n 3, 1) := by decide +kernel
theorem dX0_letsGo_41 : decode cX0_letsGo 41 = .ok (.getfield 125, 3) := by decide +kernel
theorem dX0_letsGo_44 : decode cX0_letsGo 44 = .ok (.tableswitch 181 1 5 #[36, 93, 56, 115, 161], 36) := by decide +kernel
theorem dX0_letsGo_80 : decode cX0_letsGo 80 = .ok (.iload 4, 2) := by decide +kernel
theorem dX0_letsGo_82 : decode cX0_letsGo 82 = .ok (.ifCond .eq 7, 3) := by decide +kernel
theorem dX0_letsGo_85 : decode cX0_letsGo 85 = .ok (.iload_n 2, 1) := by decide +kernel
theorem dX0_letsGo_86 : decode cX0_letsGo 86 = .ok (.ifCond .eq 8, 3) := by decide +kernel
theorem dX0_letsGo_89 : decode cX0_letsGo 89 = .ok (.iload 5, 2) := by decide +kernel
theorem dX0_letsGo_91 : decode cX0_letsGo 91 = .ok (.ifCond .eq 7, 3) := by decide +kernel
theorem dX0_letsGo_94 : decode cX0_letsGo 94 = .ok (.iconst 1, 1) := by decide +kernel
theorem dX0_letsGo_95 : decode cX0_letsGo 95 = .ok (.goto 4, 3) := by decide +kernel
theorem dX0_letsGo_98 : decode cX0_letsGo 98 = .ok (.iconst 0, 1) := by decide +kernel
theorem dX0_letsGo_99 : decode cX0_letsGo 99 = .ok (.ireturn, 1) := by decide +kernel
theorem dX0_letsGo_100 : decode cX0_letsGo 100 = .ok (.iload 4, 2) := by decide +kernel
theorem dX0_letsGo_102 : decode cX0_letsGo 102 = .ok (.ifCond .eq 7, 3) := by decide +kernel
theorem dX0_letsGo_105 : decode cX0_letsGo 105 = .ok (.iload_n 2, 1) := by decide +kernel
theorem dX0_letsGo_106 : decode cX0_letsGo 106 = .ok (.ifCond .eq 25, 3) := by decide +kernel
theorem dX0_letsGo_109 : decode cX0_letsGo 109 = .ok (.iload 5, 2) := by decide +kernel
theorem dX0_letsGo_111 : decode cX0_letsGo 111 = .ok (.ifCond .ne 20, 3) := by decide +kernel
theorem dX0_letsGo_114 : decode cX0_letsGo 114 = .ok (.aload_n 3, 1) := by decide +kernel
theorem dX0_letsGo_115 : decode cX0_letsGo 115 = .ok (.getfield 100, 3) := by decide +kernel
theorem dX0_letsGo_118 : decode cX0_letsGo 118 = .ok (.bipush 50, 2) := by decide +kernel
theorem dX0_letsGo_120 : decode cX0_letsGo 120 = .ok (.if_icmp .lt 15, 3) := by decide +kernel
theorem dX0_letsGo_123 : decode cX0_letsGo 123 = .ok (.aload_n 0, 1) := by decide +kernel
theorem dX0_letsGo_124 : decode cX0_letsGo 124 = .ok (.iload_n 1, 1) := by decide +kernel
theorem dX0_letsGo_125 : decode cX0_letsGo 125 = .ok (.invokevirtual 128, 3) := by decide +kernel
theorem dX0_letsGo_128 : decode cX0_letsGo 128 = .ok (.ifCond .eq 7, 3) := by decide +kernel
theorem dX0_letsGo_131 : decode cX0_letsGo 131 = .ok (.iconst 1, 1) := by decide +kernel
theorem dX0_letsGo_132 : decode cX0_letsGo 132 = .ok (.goto 4, 3) := by decide +kernel
theorem dX0_letsGo_135 : decode cX0_letsGo 135 = .ok (.iconst 0, 1) := by decide +kernel
theorem dX0_letsGo_136 : decode cX0_letsGo 136 = .ok (.ireturn, 1) := by decide +kernel
theorem dX0_letsGo_137 : decode cX0_letsGo 137 = .ok (.iload 4, 2) := by decide +kernel
theorem dX0_letsGo_139 : decode cX0_letsGo 139 = .ok (.ifCond .eq 9, 3) := by decide +kernel
theorem dX0_letsGo_142 : decode cX0_letsGo 142 = .ok (.iload_n 2, 1) := by decide +kernel
theorem dX0_letsGo_143 : decode cX0_letsGo 143 = .ok (.bipush 50, 2) := by decide +kernel
theorem dX0_letsGo_145 : decode cX0_letsGo 145 = .ok (.if_icmp .ge 8, 3) := by decide +kernel
theorem dX0_letsGo_148 : decode cX0_letsGo 148 = .ok (.iload 5, 2) := by decide +kernel
theorem dX0_letsGo_150 : decode cX0_letsGo 150 = .ok (.ifCond .eq 7, 3) := by decide +kernel
theorem dX0_letsGo_153 : decode cX0_letsGo 153 = .ok (.iconst 1, 1) := by decide +kernel
theorem dX0_letsGo_154 : decode cX0_letsGo 154 = .ok (.goto 4, 3) := by decide +kernel
theorem dX0_letsGo_157 : decode cX0_letsGo 157 = .ok (.iconst 0, 1) := by decide +kernel
theorem dX0_letsGo_158 : decode cX0_letsGo 158 = .ok (.ireturn, 1) := by decide +kernel
theorem dX0_letsGo_159 : decode cX0_letsGo 159 = .ok (.iload 4, 2) := by decide +kernel
theorem dX0_letsGo_161 : decode cX0_letsGo 161 = .ok (.ifCond .eq 9, 3) := by decide +kernel
theorem dX0_letsGo_164 : decode cX0_letsGo 164 = .ok (.iload_n 2, 1) := by decide +kernel
theorem dX0_letsGo_165 : decode cX0_letsGo 165 = .ok (.bipush 50, 2) := by decide +kernel
theorem dX0_letsGo_167 : decode cX0_letsGo 167 = .ok (.if_icmp .ge 32, 3) := by decide +kernel
theorem dX0_letsGo_170 : decode cX0_letsGo 170 = .ok (.iload 5, 2) := by decide +kernel
theorem dX0_letsGo_172 : decode cX0_letsGo 172 = .ok (.ifCond .ne 27, 3) := by decide +kernel
theorem dX0_letsGo_175 : decode cX0_letsGo 175 = .ok (.aload_n 0, 1) := by decide +kernel
theorem dX0_letsGo_176 : decode cX0_letsGo 176 = .ok (.getfield 54, 3) := by decide +kernel
theorem dX0_letsGo_179 : decode cX0_letsGo 179 = .ok (.bipush 60, 2) := by decide +kernel
theorem dX0_letsGo_181 : decode cX0_letsGo 181 = .ok (.irem, 1) := by decide +kernel
theorem dX0_letsGo_182 : decode cX0_letsGo 182 = .ok (.aload_n 3, 1) := by decide +kernel
theorem dX0_letsGo_183 : decode cX0_letsGo 183 = .ok (.getfield 116, 3) := by decide +kernel
theorem dX0_letsGo_186 : decode cX0_letsGo 186 = .ok (.bipush 60, 2) := by decide +kernel
theorem dX0_letsGo_188 : decode cX0_letsGo 188 = .ok (.irem, 1) := by decide +kernel
theorem dX0_letsGo_189 : decode cX0_letsGo 189 = .ok (.if_icmp .ne 14, 3) := by decide +kernel
theorem dX0_letsGo_192 : decode cX0_letsGo 192 = .ok (.aload_n 3, 1) := by decide +kernel
theorem dX0_letsGo_193 : decode cX0_letsGo 193 = .ok (.getfield 100, 3) := by decide +kernel
theorem dX0_letsGo_196 : decode cX0_letsGo 196 = .ok (.ifCond .le 7, 3) := by decide +kernel
theorem dX0_letsGo_199 : decode cX0_letsGo 199 = .ok (.iconst 1, 1) := by decide +kernel
theorem dX0_letsGo_200 : decode cX0_letsGo 200 = .ok (.goto 4, 3) := by decide +kernel
theorem dX0_letsGo_203 : decode cX0_letsGo 203 = .ok (.iconst 0, 1) := by decide +kernel
theorem dX0_letsGo_204 : decode cX0_letsGo 204 = .ok (.ireturn, 1) := by decide +kernel
theorem dX0_letsGo_205 : decode cX0_letsGo 205 = .ok (.aload_n 0, 1) := by decide +kernel
theorem dX0_letsGo_206 : decode cX0_letsGo 206 = .ok (.getfield 54, 3) := by decide +kernel
theorem dX0_letsGo_209 : decode cX0_letsGo 209 = .ok (.bipush 30, 2) := by decide +kernel
theorem dX0_letsGo_211 : decode cX0_letsGo 211 = .ok (.irem, 1) := by decide +kernel
theorem dX0_letsGo_212 : decode cX0_letsGo 212 = .ok (.aload_n 3, 1) := by decide +kernel
theorem dX0_letsGo_213 : decode cX0_letsGo 213 = .ok (.getfield 67, 3) := by decide +kernel
theorem dX0_letsGo_216 : decode cX0_letsGo 216 = .ok (.if_icmp .ne 7, 3) := by decide +kernel
theorem dX0_letsGo_219 : decode cX0_letsGo 219 = .ok (.iconst 1, 1) := by decide +kernel
theorem dX0_letsGo_220 : decode cX0_letsGo 220 = .ok (.goto 4, 3) := by decide +kernel
theorem dX0_letsGo_223 : decode cX0_letsGo 223 = .ok (.iconst 0, 1) := by decide +kernel
theorem dX0_letsGo_224 : decode cX0_letsGo 224 = .ok (.ireturn, 1) := by decide +kernel
theorem dX0_letsGo_225 : decode cX0_letsGo 225 = .ok (.iload 4, 2) := by decide +kernel
theorem dX0_letsGo_227 : decode cX0_letsGo 227 = .ok (.ireturn, 1) := by decide +kernel
theorem dX0_oneNearDid_0 : decode cX0_oneNearDid 0 = .ok (.iconst 0, 1) := by decide +kernel
theorem dX0_oneNearDid_1 : decode cX0_oneNearDid 1 = .ok (.istore_n 2, 1) := by decide +kernel
theorem dX0_oneNearDid_2 : decode cX0_oneNearDid 2 = .ok (.iload_n 2, 1) := by decide +kernel
theorem dX0_oneNearDid_3 : decode cX0_oneNearDid 3 = .ok (.aload_n 0, 1) := by decide +kernel
theorem dX0_oneNearDid_4 : decode cX0_oneNearDid 4 = .ok (.getfield 44, 3) := by decide +kernel
theorem dX0_oneNearDid_7 : decode cX0_oneNearDid 7 = .ok (.if_icmp .ge 53, 3) := by decide +kernel
theorem dX0_oneNearDid_10 : decode cX0_oneNearDid 10 = .ok (.iload_n 2, 1) := by decide +kernel
theorem dX0_oneNearDid_11 : decode cX0_oneNearDid 11 = .ok (.iload_n 1, 1) := by decide +kernel
theorem dX0_oneNearDid_12 : decode cX0_oneNearDid 12 = .ok (.if_icmp .eq 42, 3) := by decide +kernel
theorem dX0_oneNearDid_15 : decode cX0_oneNearDid 15 = .ok (.aload_n 0, 1) := by decide +kernel
theorem dX0_oneNearDid_16 : decode cX0_oneNearDid 16 = .ok (.iload_n 2, 1) := by decide +kernel
theorem dX0_oneNearDid_17 : decode cX0_oneNearDid 17 = .ok (.invokevirtual 132, 3) := by decide +kernel
theorem dX0_oneNearDid_20 : decode cX0_oneNearDid 20 = .ok (.ifCond .eq 34, 3) := by decide +kernel
theorem dX0_oneNearDid_23 : decode cX0_oneNearDid 23 = .ok (.aload_n 0, 1) := by decide +kernel
theorem dX0_oneNearDid_24 : decode cX0_oneNearDid 24 = .ok (.getfield 11, 3) := by decide +kernel
theorem dX0_oneNearDid_27 : decode cX0_oneNearDid 27 = .ok (.iload_n 2, 1) := by decide +kernel
theorem dX0_oneNearDid_28 : decode cX0_oneNearDid 28 = .ok (.aaload, 1) := by decide +kernel
theorem dX0_oneNearDid_29 : decode cX0_oneNearDid 29 = .ok (.getfield 67, 3) := by decide +kernel
theorem dX0_oneNearDid_32 : decode cX0_oneNearDid 32 = .ok (.aload_n 0, 1) := by decide +kernel
theorem dX0_oneNearDid_33 : decode cX0_oneNearDid 33 = .ok (.getfield 11, 3) := by decide +kernel
theorem dX0_oneNearDid_36 : decode cX0_oneNearDid 36 = .ok (.iload_n 1, 1) := by decide +kernel
theorem dX0_oneNearDid_37 : decode cX0_oneNearDid 37 = .ok (.aaload, 1) := by decide +kernel
theorem dX0_oneNearDid_38 : decode cX0_oneNearDid 38 = .ok (.getfield 67, 3) := by decide +kernel
theorem dX0_oneNearDid_41 : decode cX0_oneNearDid 41 = .ok (.isub, 1) := by decide +kernel
theorem dX0_oneNearDid_42 : decode cX0_oneNearDid 42 = .ok (.invokestatic 135, 3) := by decide +kernel
theorem dX0_oneNearDid_45 : decode cX0_oneNearDid 45 = .ok (.aload_n 0, 1) := by decide +kernel
theorem dX0_oneNearDid_46 : decode cX0_oneNearDid 46 = .ok (.getfield 37, 3) := by decide +kernel
theorem dX0_oneNearDid_49 : decode cX0_oneNearDid 49 = .ok (.if_icmp .gt 5, 3) := by decide +kernel
theorem dX0_oneNearDid_52 : decode cX0_oneNearDid 52 = .ok (.iconst 1, 1) := by decide +kernel
theorem dX0_oneNearDid_53 : decode cX0_oneNearDid 53 = .ok (.ireturn, 1) := by decide +kernel
theorem dX0_oneNearDid_54 : decode cX0_oneNearDid 54 = .ok (.iinc 2 1, 3) := by decide +kernel
theorem dX0_oneNearDid_57 : decode cX0_oneNearDid 57 = .ok (.goto (-55), 3) := by decide +kernel
theorem dX0_oneNearDid_60 : decode cX0_oneNearDid 60 = .ok (.iconst 0, 1) := by decide +kernel
theorem dX0_oneNearDid_61 : decode cX0_oneNearDid 61 = .ok (.ireturn, 1) := by decide +kernel
theorem dX0_passSeconds_0 : decode cX0_passSeconds 0 = .ok (.iconst 0, 1) := by decide +kernel
theorem dX0_passSeconds_1 : decode cX0_passSeconds 1 = .ok (.istore_n 2, 1) := by decide +kernel
theorem dX0_passSeconds_2 : decode cX0_passSeconds 2 = .ok (.iconst 0, 1) := by decide +kernel
theorem dX0_passSeconds_3 : decode cX0_passSeconds 3 = .ok (.istore_n 3, 1) := by decide +kernel
theorem dX0_passSeconds_4 : decode cX0_passSeconds 4 = .ok (.iload_n 3, 1) := by decide +kernel
theorem dX0_passSeconds_5 : decode cX0_passSeconds 5 = .ok (.iload_n 1, 1) := by decide +kernel
theorem dX0_passSeconds_6 : decode cX0_passSeconds 6 = .ok (.if_icmp .ge 16, 3) := by decide +kernel
theorem dX0_passSeconds_9 : decode cX0_passSeconds 9 = .ok (.iload_n 2, 1) := by decide +kernel
theorem dX0_passSeconds_10 : decode cX0_passSeconds 10 = .ok (.aload_n 0, 1) := by decide +kernel
theorem dX0_passSeconds_11 : decode cX0_passSeconds 11 = .ok (.invokevirtual 138, 3) := by decide +kernel
theorem dX0_passSeconds_14 : decode cX0_passSeconds 14 = .ok (.iadd, 1) := by decide +kernel
theorem dX0_passSeconds_15 : decode cX0_passSeconds 15 = .ok (.istore_n 2, 1) := by decide +kernel
theorem dX0_passSeconds_16 : decode cX0_passSeconds 16 = .ok (.iinc 3 1, 3) := by decide +kernel
theorem dX0_passSeconds_19 : decode cX0_passSeconds 19 = .ok (.goto (-15), 3) := by decide +kernel
theorem dX0_passSeconds_22 : decode cX0_passSeconds 22 = .ok (.iload_n 2, 1) := by decide +kernel
theorem dX0_passSeconds_23 : decode cX0_passSeconds 23 = .ok (.ireturn, 1) := by decide +kernel
theorem dX0_passSecond_0 : decode cX0_passSecond 0 = .ok (.aload_n 0, 1) := by decide +kernel
theorem dX0_passSecond_1 : decode cX0_passSecond 1 = .ok (.iconst 0, 1) := by decide +kernel
theorem dX0_passSecond_2 : decode cX0_passSecond 2 = .ok (.invokevirtual 141, 3) := by decide +kernel
theorem dX0_passSecond_5 : decode cX0_passSecond 5 = .ok (.istore_n 1, 1) := by decide +kernel
theorem dX0_passSecond_6 : decode cX0_passSecond 6 = .ok (.aload_n 0, 1) := by decide +kernel
theorem dX0_passSecond_7 : decode cX0_passSecond 7 = .ok (.invokevirtual 144, 3) := by decide +kernel
theorem dX0_passSecond_10 : decode cX0_passSecond 10 = .ok (.aload_n 0, 1) := by decide +kernel
theorem dX0_passSecond_11 : decode cX0_passSecond 11 = .ok (.iload_n 1, 1) := by decide +kernel
theorem dX0_passSecond_12 : decode cX0_passSecond 12 = .ok (.invokevirtual 147, 3) := by decide +kernel
theorem dX0_passSecond_15 : decode cX0_passSecond 15 = .ok (.istore_n 2, 1) := by decide +kernel
theorem dX0_passSecond_16 : decode cX0_passSecond 16 = .ok (.iload_n 2, 1) := by decide +kernel
theorem dX0_passSecond_17 : decode cX0_passSecond 17 = .ok (.invokestatic 150, 3) := by decide +kernel
theorem dX0_passSecond_20 : decode cX0_passSecond 20 = .ok (.istore_n 3, 1) := by decide +kernel
theorem dX0_passSecond_21 : decode cX0_passSecond 21 = .ok (.iload_n 3, 1) := by decide +kernel
theorem dX0_passSecond_22 : decode cX0_passSecond 22 = .ok (.ifCond .le 23, 3) := by decide +kernel
theorem dX0_passSecond_25 : decode cX0_passSecond 25 = .ok (.aload_n 0, 1) := by decide +kernel
theorem dX0_passSecond_26 : decode cX0_passSecond 26 = .ok (.iload_n 2, 1) := by decide +kernel
theorem dX0_passSecond_27 : decode cX0_passSecond 27 = .ok (.invokevirtual 155, 3) := by decide +kernel
theorem dX0_passSecond_30 : decode cX0_passSecond 30 = .ok (.aload_n 0, 1) := by decide +kernel
theorem dX0_passSecond_31 : decode cX0_passSecond 31 = .ok (.dup, 1) := by decide +kernel
theorem dX0_passSecond_32 : decode cX0_passSecond 32 = .ok (.getfield 57, 3) := by decide +kernel
theorem dX0_passSecond_35 : decode cX0_passSecond 35 = .ok (.aload_n 0, 1) := by decide +kernel
theorem dX0_passSecond_36 : decode cX0_passSecond 36 = .ok (.iload_n 3, 1) := by decide +kernel
theorem dX0_passSecond_37 : decode cX0_passSecond 37 = .ok (.iload_n 1, 1) := by decide +kernel
theorem dX0_passSecond_38 : decode cX0_passSecond 38 = .ok (.invokevirtual 159, 3) := by decide +kernel
theorem dX0_passSecond_41 : decode cX0_passSecond 41 = .ok (.iadd, 1) := by decide +kernel
theorem dX0_passSecond_42 : decode cX0_passSecond 42 = .ok (.putfield 57, 3) := by decide +kernel
theorem dX0_passSecond_45 : decode cX0_passSecond 45 = .ok (.aload_n 0, 1) := by decide +kernel
theorem dX0_passSecond_46 : decode cX0_passSecond 46 = .ok (.dup, 1) := by decide +kernel
theorem dX0_passSecond_47 : decode cX0_passSecond 47 = .ok (.getfield 54, 3) := by decide +kernel
theorem dX0_passSecond_50 : decode cX0_passSecond 50 = .ok (.iconst 1, 1) := by decide +kernel
theorem dX0_passSecond_51 : decode cX0_passSecond 51 = .ok (.iadd, 1) := by decide +kernel
theorem dX0_passSecond_52 : decode cX0_passSecond 52 = .ok (.putfield 54, 3) := by decide +kernel
theorem dX0_passSecond_55 : decode cX0_passSecond 55 = .ok (.aload_n 0, 1) := by decide +kernel
theorem dX0_passSecond_56 : decode cX0_passSecond 56 = .ok (.iload_n 2, 1) := by decide +kernel
theorem dX0_passSecond_57 : decode cX0_passSecond 57 = .ok (.putfield 60, 3) := by decide +kernel
theorem dX0_passSecond_60 : decode cX0_passSecond 60 = .ok (.iload_n 3, 1) := by decide +kernel
theorem dX0_passSecond_61 : decode cX0_passSecond 61 = .ok (.ireturn, 1) := by decide +kernel
theorem dX0_throatsGrow_0 : decode cX0_throatsGrow 0 = .ok (.iconst 0, 1) := by decide +kernel
theorem dX0_throatsGrow_1 : decode cX0_throatsGrow 1 = .ok (.istore_n 1, 1) := by decide +kernel
theorem dX0_throatsGrow_2 : decode cX0_throatsGrow 2 = .ok (.iload_n 1, 1) := by decide +kernel
theorem dX0_throatsGrow_3 : decode cX0_throatsGrow 3 = .ok (.aload_n 0, 1) := by decide +kernel
theorem dX0_throatsGrow_4 : decode cX0_throatsGrow 4 = .ok (.getfield 44, 3) := by decide +kernel
theorem dX0_throatsGrow_7 : decode cX0_throatsGrow 7 = .ok (.if_icmp .ge 53, 3) := by decide +kernel
theorem dX0_throatsGrow_10 : decode cX0_throatsGrow 10 = .ok (.aload_n 0, 1) := by decide +kernel
theorem dX0_throatsGrow_11 : decode cX0_throatsGrow 11 = .ok (.getfield 11, 3) := by decide +kernel
theorem dX0_throatsGrow_14 : decode cX0_throatsGrow 14 = .ok (.iload_n 1, 1) := by decide +kernel
theorem dX0_throatsGrow_15 : decode cX0_throatsGrow 15 = .ok (.aaload, 1) := by decide +kernel
theorem dX0_throatsGrow_16 : decode cX0_throatsGrow 16 = .ok (.astore_n 2, 1) := by decide +kernel
theorem dX0_throatsGrow_17 : decode cX0_throatsGrow 17 = .ok (.aload_n 2, 1) := by decide +kernel
theorem dX0_throatsGrow_18 : decode cX0_throatsGrow 18 = .ok (.sipush 999, 3) := by decide +kernel
theorem dX0_throatsGrow_21 : decode cX0_throatsGrow 21 = .ok (.aload_n 2, 1) := by decide +kernel
theorem dX0_throatsGrow_22 : decode cX0_throatsGrow 22 = .ok (.getfield 100, 3) := by decide +kernel
theorem dX0_throatsGrow_25 : decode cX0_throatsGrow 25 = .ok (.aload_n 0, 1) := by decide +kernel
theorem dX0_throatsGrow_26 : decode cX0_throatsGrow 26 = .ok (.aload_n 2, 1) := by decide +kernel
theorem dX0_throatsGrow_27 : decode cX0_throatsGrow 27 = .ok (.invokevirtual 162, 3) := by decide +kernel
theorem dX0_throatsGrow_30 : decode cX0_throatsGrow 30 = .ok (.iadd, 1) := by decide +kernel
theorem dX0_throatsGrow_31 : decode cX0_throatsGrow 31 = .ok (.invokestatic 91, 3) := by decide +kernel
theorem dX0_throatsGrow_34 : decode cX0_throatsGrow 34 = .ok (.putfield 100, 3) := by decide +kernel
theorem dX0_throatsGrow_37 : decode cX0_throatsGrow 37 = .ok (.aload_n 2, 1) := by decide +kernel
theorem dX0_throatsGrow_38 : decode cX0_throatsGrow 38 = .ok (.getfield 109, 3) := by decide +kernel
theorem dX0_throatsGrow_41 : decode cX0_throatsGrow 41 = .ok (.ifCond .le 13, 3) := by decide +kernel
theorem dX0_throatsGrow_44 : decode cX0_throatsGrow 44 = .ok (.aload_n 2, 1) := by decide +kernel
theorem dX0_throatsGrow_45 : decode cX0_throatsGrow 45 = .ok (.dup, 1) := by decide +kernel
theorem dX0_throatsGrow_46 : decode cX0_throatsGrow 46 = .ok (.getfield 109, 3) := by decide +kernel
theorem dX0_throatsGrow_49 : decode cX0_throatsGrow 49 = .ok (.iconst 1, 1) := by decide +kernel
theorem dX0_throatsGrow_50 : decode cX0_throatsGrow 50 = .ok (.isub, 1) := by decide +kernel
theorem dX0_throatsGrow_51 : decode cX0_throatsGrow 51 = .ok (.putfield 109, 3) := by decide +kernel
theorem dX0_throatsGrow_54 : decode cX0_throatsGrow 54 = .ok (.iinc 1 1, 3) := by decide +kernel
theorem dX0_throatsGrow_57 : decode cX0_throatsGrow 57 = .ok (.goto (-55), 3) := by decide +kernel
theorem dX0_throatsGrow_60 : decode cX0_throatsGrow 60 = .ok (.return_, 1) := by decide +kernel
theorem dX0_whoLetsGo_0 : decode cX0_whoLetsGo 0 = .ok (.iconst 0, 1) := by decide +kernel
theorem dX0_whoLetsGo_1 : decode cX0_whoLetsGo 1 = .ok (.istore_n 2, 1) := by decide +kernel
theorem dX0_whoLetsGo_2 : decode cX0_whoLetsGo 2 = .ok (.iconst 0, 1) := by decide +kernel
theorem dX0_whoLetsGo_3 : decode cX0_whoLetsGo 3 = .ok (.istore_n 3, 1) := by decide +kernel
theorem dX0_whoLetsGo_4 : decode cX0_whoLetsGo 4 = .ok (.iload_n 3, 1) := by decide +kernel
theorem dX0_whoLetsGo_5 : decode cX0_whoLetsGo 5 = .ok (.aload_n 0, 1) := by decide +kernel
theorem dX0_whoLetsGo_6 : decode cX0_whoLetsGo 6 = .ok (.getfield 44, 3) := by decide +kernel
theorem dX0_whoLetsGo_9 : decode cX0_whoLetsGo 9 = .ok (.if_icmp .ge 24, 3) := by decide +kernel
theorem dX0_whoLetsGo_12 : decode cX0_whoLetsGo 12 = .ok (.aload_n 0, 1) := by decide +kernel
theorem dX0_whoLetsGo_13 : decode cX0_whoLetsGo 13 = .ok (.iload_n 3, 1) := by decide +kernel
theorem dX0_whoLetsGo_14 : decode cX0_whoLetsGo 14 = .ok (.iload_n 1, 1) := by decide +kernel
theorem dX0_whoLetsGo_15 : decode cX0_whoLetsGo 15 = .ok (.invokevirtual 166, 3) := by decide +kernel
theorem dX0_whoLetsGo_18 : decode cX0_whoLetsGo 18 = .ok (.ifCond .eq 9, 3) := by decide +kernel
theorem dX0_whoLetsGo_21 : decode cX0_whoLetsGo 21 = .ok (.iload_n 2, 1) := by decide +kernel
theorem dX0_whoLetsGo_22 : decode cX0_whoLetsGo 22 = .ok (.iconst 1, 1) := by decide +kernel
theorem dX0_whoLetsGo_23 : decode cX0_whoLetsGo 23 = .ok (.iload_n 3, 1) := by decide +kernel
theorem dX0_whoLetsGo_24 : decode cX0_whoLetsGo 24 = .ok (.ishl, 1) := by decide +kernel
theorem dX0_whoLetsGo_25 : decode cX0_whoLetsGo 25 = .ok (.ior, 1) := by decide +kernel
theorem dX0_whoLetsGo_26 : decode cX0_whoLetsGo 26 = .ok (.istore_n 2, 1) := by decide +kernel
theorem dX0_whoLetsGo_27 : decode cX0_whoLetsGo 27 = .ok (.iinc 3 1, 3) := by decide +kernel
theorem dX0_whoLetsGo_30 : decode cX0_whoLetsGo 30 = .ok (.goto (-26), 3) := by decide +kernel
theorem dX0_whoLetsGo_33 : decode cX0_whoLetsGo 33 = .ok (.iload_n 2, 1) := by decide +kernel
theorem dX0_whoLetsGo_34 : decode cX0_whoLetsGo 34 = .ok (.ireturn, 1) := by decide +kernel
theorem dX0_theyCough_0 : decode cX0_theyCough 0 = .ok (.iconst 0, 1) := by decide +kernel
theorem dX0_theyCough_1 : decode cX0_theyCough 1 = .ok (.istore_n 2, 1) := by decide +kernel
theorem dX0_theyCough_2 : decode cX0_theyCough 2 = .ok (.iload_n 2, 1) := by decide +kernel
theorem dX0_theyCough_3 : decode cX0_theyCough 3 = .ok (.aload_n 0, 1) := by decide +kernel
theorem dX0_theyCough_4 : decode cX0_theyCough 4 = .ok (.getfield 44, 3) := by decide +kernel
theorem dX0_theyCough_7 : decode cX0_theyCough 7 = .ok (.if_icmp .ge 43, 3) := by decide +kernel
theorem dX0_theyCough_10 : decode cX0_theyCough 10 = .ok (.iload_n 1, 1) := by decide +kernel
theorem dX0_theyCough_11 : decode cX0_theyCough 11 = .ok (.iload_n 2, 1) := by decide +kernel
theorem dX0_theyCough_12 : decode cX0_theyCough 12 = .ok (.iushr, 1) := by decide +kernel
theorem dX0_theyCough_13 : decode cX0_theyCough 13 = .ok (.iconst 1, 1) := by decide +kernel
theorem dX0_theyCough_14 : decode cX0_theyCough 14 = .ok (.iand, 1) := by decide +kernel
theorem dX0_theyCough_15 : decode cX0_theyCough 15 = .ok (.iconst 1, 1) := by decide +kernel
theorem dX0_theyCough_16 : decode cX0_theyCough 16 = .ok (.if_icmp .ne 28, 3) := by decide +kernel
theorem dX0_theyCough_19 : decode cX0_theyCough 19 = .ok (.aload_n 0, 1) := by decide +kernel
theorem dX0_theyCough_20 : decode cX0_theyCough 20 = .ok (.getfield 11, 3) := by decide +kernel
theorem dX0_theyCough_23 : decode cX0_theyCough 23 = .ok (.iload_n 2, 1) := by decide +kernel
theorem dX0_theyCough_24 : decode cX0_theyCough 24 = .ok (.aaload, 1) := by decide +kernel
theorem dX0_theyCough_25 : decode cX0_theyCough 25 = .ok (.iconst 0, 1) := by decide +kernel
theorem dX0_theyCough_26 : decode cX0_theyCough 26 = .ok (.putfield 100, 3) := by decide +kernel
theorem dX0_theyCough_29 : decode cX0_theyCough 29 = .ok (.aload_n 0, 1) := by decide +kernel
theorem dX0_theyCough_30 : decode cX0_theyCough 30 = .ok (.getfield 11, 3) := by decide +kernel
theorem dX0_theyCough_33 : decode cX0_theyCough 33 = .ok (.iload_n 2, 1) := by decide +kernel
theorem dX0_theyCough_34 : decode cX0_theyCough 34 = .ok (.aaload, 1) := by decide +kernel
theorem dX0_theyCough_35 : decode cX0_theyCough 35 = .ok (.dup, 1) := by decide +kernel
theorem dX0_theyCough_36 : decode cX0_theyCough 36 = .ok (.getfield 97, 3) := by decide +kernel
theorem dX0_theyCough_39 : decode cX0_theyCough 39 = .ok (.iconst 1, 1) := by decide +kernel
theorem dX0_theyCough_40 : decode cX0_theyCough 40 = .ok (.iadd, 1) := by decide +kernel
theorem dX0_theyCough_41 : decode cX0_theyCough 41 = .ok (.putfield 97, 3) := by decide +kernel
theorem dX0_theyCough_44 : decode cX0_theyCough 44 = .ok (.iinc 2 1, 3) := by decide +kernel
theorem dX0_theyCough_47 : decode cX0_theyCough 47 = .ok (.goto (-45), 3) := by decide +kernel
theorem dX0_theyCough_50 : decode cX0_theyCough 50 = .ok (.return_, 1) := by decide +kernel
theorem dX1_init_0 : decode cX1_init 0 = .ok (.aload_n 0, 1) := by decide +kernel
theorem dX1_init_1 : decode cX1_init 1 = .ok (.invokespecial 3, 3) := by decide +kernel
theorem dX1_init_4 : decode cX1_init 4 = .ok (.return_, 1) := by decide +kernel
theorem dX1_becomes_0 : decode cX1_becomes 0 = .ok (.aload_n 0, 1) := by decide +kernel
theorem dX1_becomes_1 : decode cX1_becomes 1 = .ok (.aload_n 1, 1) := by decide +kernel
theorem dX1_becomes_2 : decode cX1_becomes 2 = .ok (.getfield 9, 3) := by decide +kernel
theorem dX1_becomes_5 : decode cX1_becomes 5 = .ok (.putfield 9, 3) := by decide +kernel
theorem dX1_becomes_8 : decode cX1_becomes 8 = .ok (.aload_n 0, 1) := by decide +kernel
theorem dX1_becomes_9 : decode cX1_becomes 9 = .ok (.aload_n 1, 1) := by decide +kernel
theorem dX1_becomes_10 : decode cX1_becomes 10 = .ok (.getfield 15, 3) := by decide +kernel
theorem dX1_becomes_13 : decode cX1_becomes 13 = .ok (.putfield 15, 3) := by decide +kernel
theorem dX1_becomes_16 : decode cX1_becomes 16 = .ok (.aload_n 0, 1) := by decide +kernel
theorem dX1_becomes_17 : decode cX1_becomes 17 = .ok (.aload_n 1, 1) := by decide +kernel
theorem dX1_becomes_18 : decode cX1_becomes 18 = .ok (.getfield 18, 3) := by decide +kernel
theorem dX1_becomes_21 : decode cX1_becomes 21 = .ok (.putfield 18, 3) := by decide +kernel
theorem dX1_becomes_24 : decode cX1_becomes 24 = .ok (.aload_n 0, 1) := by decide +kernel
theorem dX1_becomes_25 : decode cX1_becomes 25 = .ok (.aload_n 1, 1) := by decide +kernel
theorem dX1_becomes_26 : decode cX1_becomes 26 = .ok (.getfield 21, 3) := by decide +kernel
theorem dX1_becomes_29 : decode cX1_becomes 29 = .ok (.putfield 21, 3) := by decide +kernel
theorem dX1_becomes_32 : decode cX1_becomes 32 = .ok (.aload_n 0, 1) := by decide +kernel
theorem dX1_becomes_33 : decode cX1_becomes 33 = .ok (.aload_n 1, 1) := by decide +kernel
theorem dX1_becomes_34 : decode cX1_becomes 34 = .ok (.getfield 24, 3) := by decide +kernel
theorem dX1_becomes_37 : decode cX1_becomes 37 = .ok (.putfield 24, 3) := by decide +kernel
theorem dX1_becomes_40 : decode cX1_becomes 40 = .ok (.aload_n 0, 1) := by decide +kernel
theorem dX1_becomes_41 : decode cX1_becomes 41 = .ok (.aload_n 1, 1) := by decide +kernel
theorem dX1_becomes_42 : decode cX1_becomes 42 = .ok (.getfield 27, 3) := by decide +kernel
theorem dX1_becomes_45 : decode cX1_becomes 45 = .ok (.putfield 27, 3) := by decide +kernel
theorem dX1_becomes_48 : decode cX1_becomes 48 = .ok (.return_, 1) := by decide +kernel
theorem dX1_comesNew_0 : decode cX1_comesNew 0 = .ok (.aload_n 0, 1) := by decide +kernel
theorem dX1_comesNew_1 : decode cX1_comesNew 1 = .ok (.iload_n 1, 1) := by decide +kernel
theorem dX1_comesNew_2 : decode cX1_comesNew 2 = .ok (.putfield 9, 3) := by decide +kernel
theorem dX1_comesNew_5 : decode cX1_comesNew 5 = .ok (.aload_n 0, 1) := by decide +kernel
theorem dX1_comesNew_6 : decode cX1_comesNew 6 = .ok (.iload_n 2, 1) := by decide +kernel
theorem dX1_comesNew_7 : decode cX1_comesNew 7 = .ok (.putfield 15, 3) := by decide +kernel
theorem dX1_comesNew_10 : decode cX1_comesNew 10 = .ok (.aload_n 0, 1) := by decide +kernel
theorem dX1_comesNew_11 : decode cX1_comesNew 11 = .ok (.iload_n 3, 1) := by decide +kernel
theorem dX1_comesNew_12 : decode cX1_comesNew 12 = .ok (.putfield 18, 3) := by decide +kernel
theorem dX1_comesNew_15 : decode cX1_comesNew 15 = .ok (.aload_n 0, 1) := by decide +kernel
theorem dX1_comesNew_16 : decode cX1_comesNew 16 = .ok (.iconst 0, 1) := by decide +kernel
theorem dX1_comesNew_17 : decode cX1_comesNew 17 = .ok (.putfield 21, 3) := by decide +kernel
theorem dX1_comesNew_20 : decode cX1_comesNew 20 = .ok (.aload_n 0, 1) := by decide +kernel
theorem dX1_comesNew_21 : decode cX1_comesNew 21 = .ok (.iconst 0, 1) := by decide +kernel
theorem dX1_comesNew_22 : decode cX1_comesNew 22 = .ok (.putfield 24, 3) := by decide +kernel
theorem dX1_comesNew_25 : decode cX1_comesNew 25 = .ok (.aload_n 0, 1) := by decide +kernel
theorem dX1_comesNew_26 : decode cX1_comesNew 26 = .ok (.iconst 0, 1) := by decide +kernel
theorem dX1_comesNew_27 : decode cX1_comesNew 27 = .ok (.putfield 27, 3) := by decide +kernel
theorem dX1_comesNew_30 : decode cX1_comesNew 30 = .ok (.return_, 1) := by decide +kernel
theorem dX1_changeAge_0 : decode cX1_changeAge 0 = .ok (.aload_n 0, 1) := by decide +kernel
theorem dX1_changeAge_1 : decode cX1_changeAge 1 = .ok (.getfield 18, 3) := by decide +kernel
theorem dX1_changeAge_4 : decode cX1_changeAge 4 = .ok (.istore_n 2, 1) := by decide +kernel
theorem dX1_changeAge_5 : decode cX1_changeAge 5 = .ok (.aload_n 0, 1) := by decide +kernel
theorem dX1_changeAge_6 : decode cX1_changeAge 6 = .ok (.iload_n 1, 1) := by decide +kernel
theorem dX1_changeAge_7 : decode cX1_changeAge 7 = .ok (.putfield 18, 3) := by decide +kernel
theorem dX1_changeAge_10 : decode cX1_changeAge 10 = .ok (.iload_n 2, 1) := by decide +kernel
theorem dX1_changeAge_11 : decode cX1_changeAge 11 = .ok (.ireturn, 1) := by decide +kernel
theorem dX1_changeItch_0 : decode cX1_changeItch 0 = .ok (.aload_n 0, 1) := by decide +kernel
theorem dX1_changeItch_1 : decode cX1_changeItch 1 = .ok (.getfield 21, 3) := by decide +kernel
theorem dX1_changeItch_4 : decode cX1_changeItch 4 = .ok (.istore_n 2, 1) := by decide +kernel
theorem dX1_changeItch_5 : decode cX1_changeItch 5 = .ok (.aload_n 0, 1) := by decide +kernel
theorem dX1_changeItch_6 : decode cX1_changeItch 6 = .ok (.iload_n 1, 1) := by decide +kernel
theorem dX1_changeItch_7 : decode cX1_changeItch 7 = .ok (.putfield 21, 3) := by decide +kernel
theorem dX1_changeItch_10 : decode cX1_changeItch 10 = .ok (.iload_n 2, 1) := by decide +kernel
theorem dX1_changeItch_11 : decode cX1_changeItch 11 = .ok (.ireturn, 1) := by decide +kernel
theorem dX1_changeSweet_0 : decode cX1_changeSweet 0 = .ok (.aload_n 0, 1) := by decide +kernel
theorem dX1_changeSweet_1 : decode cX1_changeSweet 1 = .ok (.getfield 24, 3) := by decide +kernel
theorem dX1_changeSweet_4 : decode cX1_changeSweet 4 = .ok (.istore_n 2, 1) := by decide +kernel
theorem dX1_changeSweet_5 : decode cX1_changeSweet 5 = .ok (.aload_n 0, 1) := by decide +kernel
theorem dX1_changeSweet_6 : decode cX1_changeSweet 6 = .ok (.iload_n 1, 1) := by decide +kernel
theorem dX1_changeSweet_7 : decode cX1_changeSweet 7 = .ok (.putfield 24, 3) := by decide +kernel
theorem dX1_changeSweet_10 : decode cX1_changeSweet 10 = .ok (.iload_n 2, 1) := by decide +kernel
theorem dX1_changeSweet_11 : decode cX1_changeSweet 11 = .ok (.ireturn, 1) := by decide +kernel
theorem dX1_isOf_0 : decode cX1_isOf 0 = .ok (.aload_n 0, 1) := by decide +kernel
theorem dX1_isOf_1 : decode cX1_isOf 1 = .ok (.getfield 9, 3) := by decide +kernel
theorem dX1_isOf_4 : decode cX1_isOf 4 = .ok (.istore_n 2, 1) := by decide +kernel
theorem dX1_isOf_5 : decode cX1_isOf 5 = .ok (.iconst 0, 1) := by decide +kernel
theorem dX1_isOf_6 : decode cX1_isOf 6 = .ok (.istore_n 3, 1) := by decide +kernel
theorem dX1_isOf_7 : decode cX1_isOf 7 = .ok (.iload_n 3, 1) := by decide +kernel
theorem dX1_isOf_8 : decode cX1_isOf 8 = .ok (.bipush 6, 2) := by decide +kernel
theorem dX1_isOf_10 : decode cX1_isOf 10 = .ok (.if_icmp .ge 32, 3) := by decide +kernel
theorem dX1_isOf_13 : decode cX1_isOf 13 = .ok (.iload_n 2, 1) := by decide +kernel
theorem dX1_isOf_14 : decode cX1_isOf 14 = .ok (.ifCond .lt 28, 3) := by decide +kernel
theorem dX1_isOf_17 : decode cX1_isOf 17 = .ok (.iload_n 2, 1) := by decide +kernel
theorem dX1_isOf_18 : decode cX1_isOf 18 = .ok (.bipush 6, 2) := by decide +kernel
theorem dX1_isOf_20 : decode cX1_isOf 20 = .ok (.if_icmp .ge 22, 3) := by decide +kernel
theorem dX1_isOf_23 : decode cX1_isOf 23 = .ok (.iload_n 2, 1) := by decide +kernel
theorem dX1_isOf_24 : decode cX1_isOf 24 = .ok (.iload_n 1, 1) := by decide +kernel
theorem dX1_isOf_25 : decode cX1_isOf 25 = .ok (.if_icmp .ne 5, 3) := by decide +kernel
theorem dX1_isOf_28 : decode cX1_isOf 28 = .ok (.iconst 1, 1) := by decide +kernel
theorem dX1_isOf_29 : decode cX1_isOf 29 = .ok (.ireturn, 1) := by decide +kernel
theorem dX1_isOf_30 : decode cX1_isOf 30 = .ok (.getstatic 30, 3) := by decide +kernel
theorem dX1_isOf_33 : decode cX1_isOf 33 = .ok (.iload_n 2, 1) := by decide +kernel
theorem dX1_isOf_34 : decode cX1_isOf 34 = .ok (.iaload, 1) := by decide +kernel
theorem dX1_isOf_35 : decode cX1_isOf 35 = .ok (.istore_n 2, 1) := by decide +kernel
theorem dX1_isOf_36 : decode cX1_isOf 36 = .ok (.iinc 3 1, 3) := by decide +kernel
theorem dX1_isOf_39 : decode cX1_isOf 39 = .ok (.goto (-32), 3) := by decide +kernel
theorem dX1_isOf_42 : decode cX1_isOf 42 = .ok (.iconst 0, 1) := by decide +kernel
theorem dX1_isOf_43 : decode cX1_isOf 43 = .ok (.ireturn, 1) := by decide +kernel
theorem dX1_worth_0 : decode cX1_worth 0 = .ok (.aload_n 0, 1) := by decide +kernel
theorem dX1_worth_1 : decode cX1_worth 1 = .ok (.getfield 9, 3) := by decide +kernel
theorem dX1_worth_4 : decode cX1_worth 4 = .ok (.tableswitch 76 1 5 #[36, 52, 43, 60, 71], 36) := by decide +kernel
theorem dX1_worth_40 : decode cX1_worth 40 = .ok (.aload_n 0, 1) := by decide +kernel
theorem dX1_worth_41 : decode cX1_worth 41 = .ok (.getfield 18, 3) := by decide +kernel
theorem dX1_worth_44 : decode cX1_worth 44 = .ok (.iconst 4, 1) := by decide +kernel
theorem dX1_worth_45 : decode cX1_worth 45 = .ok (.iadd, 1) := by decide +kernel
theorem dX1_worth_46 : decode cX1_worth 46 = .ok (.ireturn, 1) := by decide +kernel
theorem dX1_worth_47 : decode cX1_worth 47 = .ok (.iconst 2, 1) := by decide +kernel
theorem dX1_worth_48 : decode cX1_worth 48 = .ok (.aload_n 0, 1) := by decide +kernel
theorem dX1_worth_49 : decode cX1_worth 49 = .ok (.getfield 18, 3) := by decide +kernel
theorem dX1_worth_52 : decode cX1_worth 52 = .ok (.iconst 4, 1) := by decide +kernel
theorem dX1_worth_53 : decode cX1_worth 53 = .ok (.iadd, 1) := by decide +kernel
theorem dX1_worth_54 : decode cX1_worth 54 = .ok (.imul, 1) := by decide +kernel
theorem dX1_worth_55 : decode cX1_worth 55 = .ok (.ireturn, 1) := by decide +kernel
theorem dX1_worth_56 : decode cX1_worth 56 = .ok (.bipush 100, 2) := by decide +kernel
theorem dX1_worth_58 : decode cX1_worth 58 = .ok (.aload_n 0, 1) := by decide +kernel
theorem dX1_worth_59 : decode cX1_worth 59 = .ok (.getfield 18, 3) := by decide +kernel
theorem dX1_worth_62 : decode cX1_worth 62 = .ok (.isub, 1) := by decide +kernel
theorem dX1_worth_63 : decode cX1_worth 63 = .ok (.ireturn, 1) := by decide +kernel
theorem dX1_worth_64 : decode cX1_worth 64 = .ok (.bipush 100, 2) := by decide +kernel
theorem dX1_worth_66 : decode cX1_worth 66 = .ok (.aload_n 0, 1) := by decide +kernel
theorem dX1_worth_67 : decode cX1_worth 67 = .ok (.getfield 18, 3) := by decide +kernel
theorem dX1_worth_70 : decode cX1_worth 70 = .ok (.isub, 1) := by decide +kernel
theorem dX1_worth_71 : decode cX1_worth 71 = .ok (.bipush 6, 2) := by decide +kernel
theorem dX1_worth_73 : decode cX1_worth 73 = .ok (.isub, 1) := by decide +kernel
theorem dX1_worth_74 : decode cX1_worth 74 = .ok (.ireturn, 1) := by decide +kernel
theorem dX1_worth_75 : decode cX1_worth 75 = .ok (.aload_n 0, 1) := by decide +kernel
theorem dX1_worth_76 : decode cX1_worth 76 = .ok (.getfield 15, 3) := by decide +kernel
theorem dX1_worth_79 : decode cX1_worth 79 = .ok (.ireturn, 1) := by decide +kernel
theorem dX1_worth_80 : decode cX1_worth 80 = .ok (.aload_n 0, 1) := by decide +kernel
theorem dX1_worth_81 : decode cX1_worth 81 = .ok (.getfield 18, 3) := by decide +kernel
theorem dX1_worth_84 : decode cX1_worth 84 = .ok (.ireturn, 1) := by decide +kernel
theorem dX2_init_0 : decode cX2_init 0 = .ok (.aload_n 0, 1) := by decide +kernel
theorem dX2_init_1 : decode cX2_init 1 = .ok (.invokespecial 3, 3) := by decide +kernel
theorem dX2_init_4 : decode cX2_init 4 = .ok (.aload_n 0, 1) := by decide +kernel
theorem dX2_init_5 : decode cX2_init 5 = .ok (.bipush 96, 2) := by decide +kernel
theorem dX2_init_7 : decode cX2_init 7 = .ok (.newarray .int, 2) := by decide +kernel
theorem dX2_init_9 : decode cX2_init 9 = .ok (.putfield 9, 3) := by decide +kernel
theorem dX2_init_12 : decode cX2_init 12 = .ok (.aload_n 0, 1) := by decide +kernel
theorem dX2_init_13 : decode cX2_init 13 = .ok (.iconst 0, 1) := by decide +kernel
theorem dX2_init_14 : decode cX2_init 14 = .ok (.newarray .byte, 2) := by decide +kernel
theorem dX2_init_16 : decode cX2_init 16 = .ok (.putfield 15, 3) := by decide +kernel
theorem dX2_init_19 : decode cX2_init 19 = .ok (.return_, 1) := by decide +kernel
theorem dX2_readTape_0 : decode cX2_readTape 0 = .ok (.aload_n 0, 1) := by decide +kernel
theorem dX2_readTape_1 : decode cX2_readTape 1 = .ok (.aload_n 1, 1) := by decide +kernel
theorem dX2_readTape_2 : decode cX2_readTape 2 = .ok (.putfield 15, 3) := by decide +kernel
theorem dX2_readTape_5 : decode cX2_readTape 5 = .ok (.aload_n 0, 1) := by decide +kernel
theorem dX2_readTape_6 : decode cX2_readTape 6 = .ok (.iload_n 2, 1) := by decide +kernel
theorem dX2_readTape_7 : decode cX2_readTape 7 = .ok (.aload_n 1, 1) := by decide +kernel
theorem dX2_readTape_8 : decode cX2_readTape 8 = .ok (.arraylength, 1) := by decide +kernel
theorem dX2_readTape_9 : decode cX2_readTape 9 = .ok (.invokestatic 19, 3) := by decide +kernel
theorem dX2_readTape_12 : decode cX2_readTape 12 = .ok (.putfield 25, 3) := by decide +kernel
theorem dX2_readTape_15 : decode cX2_readTape 15 = .ok (.aload_n 0, 1) := by decide +kernel
theorem dX2_readTape_16 : decode cX2_readTape 16 = .ok (.iconst 0, 1) := by decide +kernel
theorem dX2_readTape_17 : decode cX2_readTape 17 = .ok (.putfield 29, 3) := by decide +kernel
theorem dX2_readTape_20 : decode cX2_readTape 20 = .ok (.aload_n 0, 1) := by decide +kernel
theorem dX2_readTape_21 : decode cX2_readTape 21 = .ok (.iconst 2, 1) := by decide +kernel
theorem dX2_readTape_22 : decode cX2_readTape 22 = .ok (.putfield 32, 3) := by decide +kernel
theorem dX2_readTape_25 : decode cX2_readTape 25 = .ok (.aload_n 0, 1) := by decide +kernel
theorem dX2_readTape_26 : decode cX2_readTape 26 = .ok (.iconst (-1), 1) := by decide +kernel
theorem dX2_readTape_27 : decode cX2_readTape 27 = .ok (.putfield 35, 3) := by decide +kernel
theorem dX2_readTape_30 : decode cX2_readTape 30 = .ok (.aload_n 0, 1) := by decide +kernel
theorem dX2_readTape_31 : decode cX2_readTape 31 = .ok (.iconst 0, 1) := by decide +kernel
theorem dX2_readTape_32 : decode cX2_readTape 32 = .ok (.putfield 38, 3) := by decide +kernel
theorem dX2_readTape_35 : decode cX2_readTape 35 = .ok (.aload_n 0, 1) := by decide +kernel
theorem dX2_readTape_36 : decode cX2_readTape 36 = .ok (.iconst 0, 1) := by decide +kernel
theorem dX2_readTape_37 : decode cX2_readTape 37 = .ok (.putfield 41, 3) := by decide +kernel
theorem dX2_readTape_40 : decode cX2_readTape 40 = .ok (.aload_n 0, 1) := by decide +kernel
theorem dX2_readTape_41 : decode cX2_readTape 41 = .ok (.invokevirtual 44, 3) := by decide +kernel
theorem dX2_readTape_44 : decode cX2_readTape 44 = .ok (.aload_n 0, 1) := by decide +kernel
theorem dX2_readTape_45 : decode cX2_readTape 45 = .ok (.invokevirtual 47, 3) := by decide +kernel
theorem dX2_readTape_48 : decode cX2_readTape 48 = .ok (.aload_n 0, 1) := by decide +kernel
theorem dX2_readTape_49 : decode cX2_readTape 49 = .ok (.iconst 0, 1) := by decide +kernel
theorem dX2_readTape_50 : decode cX2_readTape 50 = .ok (.iconst 0, 1) := by decide +kernel
theorem dX2_readTape_51 : decode cX2_readTape 51 = .ok (.iconst 0, 1) := by decide +kernel
theorem dX2_readTape_52 : decode cX2_readTape 52 = .ok (.invokevirtual 50, 3) := by decide +kernel
theorem dX2_readTape_55 : decode cX2_readTape 55 = .ok (.aload_n 0, 1) := by decide +kernel
theorem dX2_readTape_56 : decode cX2_readTape 56 = .ok (.getfield 32, 3) := by decide +kernel
theorem dX2_readTape_59 : decode cX2_readTape 59 = .ok (.iconst 3, 1) := by decide +kernel
theorem dX2_readTape_60 : decode cX2_readTape 60 = .ok (.if_icmp .eq 7, 3) := by decide +kernel
theorem dX2_readTape_63 : decode cX2_readTape 63 = .ok (.aload_n 0, 1) := by decide +kernel
theorem dX2_readTape_64 : decode cX2_readTape 64 = .ok (.invokevirtual 54, 3) := by decide +kernel
theorem dX2_readTape_67 : decode cX2_readTape 67 = .ok (.aload_n 0, 1) := by decide +kernel
theorem dX2_readTape_68 : decode cX2_readTape 68 = .ok (.getfield 35, 3) := by decide +kernel
theorem dX2_readTape_71 : decode cX2_readTape 71 = .ok (.ifCond .ge 32, 3) := by decide +kernel
theorem dX2_readTape_74 : decode cX2_readTape 74 = .ok (.new 57, 3) := by decide +kernel
theorem dX2_readTape_77 : decode cX2_readTape 77 = .ok (.dup, 1) := by decide +kernel
theorem dX2_readTape_78 : decode cX2_readTape 78 = .ok (.aload_n 0, 1) := by decide +kernel
theorem dX2_readTape_79 : decode cX2_readTape 79 = .ok (.getfield 59, 3) := by decide +kernel
theorem dX2_readTape_82 : decode cX2_readTape 82 = .ok (.aload_n 0, 1) := by decide +kernel
theorem dX2_readTape_83 : decode cX2_readTape 83 = .ok (.getfield 41, 3) := by decide +kernel
theorem dX2_readTape_86 : decode cX2_readTape 86 = .ok (.aload_n 0, 1) := by decide +kernel
theorem dX2_readTape_87 : decode cX2_readTape 87 = .ok (.getfield 9, 3) := by decide +kernel
theorem dX2_readTape_90 : decode cX2_readTape 90 = .ok (.aload_n 0, 1) := by decide +kernel
theorem dX2_readTape_91 : decode cX2_readTape 91 = .ok (.getfield 38, 3) := by decide +kernel
theorem dX2_readTape_94 : decode cX2_readTape 94 = .ok (.invokestatic 62, 3) := by decide +kernel
theorem dX2_readTape_97 : decode cX2_readTape 97 = .ok (.invokespecial 68, 3) := by decide +kernel
theorem dX2_readTape_100 : decode cX2_readTape 100 = .ok (.goto 4, 3) := by decide +kernel
theorem dX2_readTape_103 : decode cX2_readTape 103 = .ok (.aconst_null, 1) := by decide +kernel
theorem dX2_readTape_104 : decode cX2_readTape 104 = .ok (.areturn, 1) := by decide +kernel
theorem dX2_isFault_0 : decode cX2_isFault 0 = .ok (.aload_n 0, 1) := by decide +kernel
theorem dX2_isFault_1 : decode cX2_isFault 1 = .ok (.getfield 35, 3) := by decide +kernel
theorem dX2_isFault_4 : decode cX2_isFault 4 = .ok (.ifCond .ge 11, 3) := by decide +kernel
theorem dX2_isFault_7 : decode cX2_isFault 7 = .ok (.aload_n 0, 1) := by decide +kernel
theorem dX2_isFault_8 : decode cX2_isFault 8 = .ok (.aload_n 0, 1) := by decide +kernel
theorem dX2_isFault_9 : decode cX2_isFault 9 = .ok (.getfield 71, 3) := by decide +kernel
theorem dX2_isFault_12 : decode cX2_isFault 12 = .ok (.putfield 35, 3) := by decide +kernel
theorem dX2_isFault_15 : decode cX2_isFault 15 = .ok (.return_, 1) := by decide +kernel
theorem dX2_goOn_0 : decode cX2_goOn 0 = .ok (.aload_n 0, 1) := by decide +kernel
theorem dX2_goOn_1 : decode cX2_goOn 1 = .ok (.getfield 32, 3) := by decide +kernel
theorem dX2_goOn_4 : decode cX2_goOn 4 = .ok (.ifCond .eq 11, 3) := by decide +kernel
theorem dX2_goOn_7 : decode cX2_goOn 7 = .ok (.aload_n 0, 1) := by decide +kernel
theorem dX2_goOn_8 : decode cX2_goOn 8 = .ok (.getfield 32, 3) := by decide +kernel
theorem dX2_goOn_11 : decode cX2_goOn 11 = .ok (.iconst 1, 1) := by decide +kernel
theorem dX2_goOn_12 : decode cX2_goOn 12 = .ok (.if_icmp .ne 7, 3) := by decide +kernel
theorem dX2_goOn_15 : decode cX2_goOn 15 = .ok (.iconst 1, 1) := by decide +kernel
theorem dX2_goOn_16 : decode cX2_goOn 16 = .ok (.goto 4, 3) := by decide +kernel
theorem dX2_goOn_19 : decode cX2_goOn 19 = .ok (.iconst 0, 1) := by decide +kernel
theorem dX2_goOn_20 : decode cX2_goOn 20 = .ok (.istore_n 1, 1) := by decide +kernel
theorem dX2_goOn_21 : decode cX2_goOn 21 = .ok (.aload_n 0, 1) := by decide +kernel
theorem dX2_goOn_22 : decode cX2_goOn 22 = .ok (.getfield 29, 3) := by decide +kernel
theorem dX2_goOn_25 : decode cX2_goOn 25 = .ok (.istore_n 2, 1) := by decide +kernel
theorem dX2_goOn_26 : decode cX2_goOn 26 = .ok (.aload_n 0, 1) := by decide +kernel
theorem dX2_goOn_27 : decode cX2_goOn 27 = .ok (.aload_n 0, 1) := by decide +kernel
theorem dX2_goOn_28 : decode cX2_goOn 28 = .ok (.getfield 29, 3) := by decide +kernel
theorem dX2_goOn_31 : decode cX2_goOn 31 = .ok (.putfield 71, 3) := by decide +kernel
theorem dX2_goOn_34 : decode cX2_goOn 34 = .ok (.aload_n 0, 1) := by decide +kernel
theorem dX2_goOn_35 : decode cX2_goOn 35 = .ok (.getfield 71, 3) := by decide +kernel
theorem dX2_goOn_38 : decode cX2_goOn 38 = .ok (.aload_n 0, 1) := by decide +kernel
theorem dX2_goOn_39 : decode cX2_goOn 39 = .ok (.getfield 25, 3) := by decide +kernel
theorem dX2_goOn_42 : decode cX2_goOn 42 = .ok (.if_icmp .ge 30, 3) := by decide +kernel
theorem dX2_goOn_45 : decode cX2_goOn 45 = .ok (.aload_n 0, 1) := by decide +kernel
theorem dX2_goOn_46 : decode cX2_goOn 46 = .ok (.getfield 15, 3) := by decide +kernel
theorem dX2_goOn_49 : decode cX2_goOn 49 = .ok (.aload_n 0, 1) := by decide +kernel
theorem dX2_goOn_50 : decode cX2_goOn 50 = .ok (.getfield 71, 3) := by decide +kernel
theorem dX2_goOn_53 : decode cX2_goOn 53 = .ok (.baload, 1) := by decide +kernel
theorem dX2_goOn_54 : decode cX2_goOn 54 = .ok (.bipush 32, 2) := by decide +kernel
theorem dX2_goOn_56 : decode cX2_goOn 56 = .ok (.if_icmp .ne 16, 3) := by decide +kernel
theorem dX2_goOn_59 : decode cX2_goOn 59 = .ok (.aload_n 0, 1) := by decide +kernel
theorem dX2_goOn_60 : decode cX2_goOn 60 = .ok (.dup, 1) := by decide +kernel
theorem dX2_goOn_61 : decode cX2_goOn 61 = .ok (.getfield 71, 3) := by decide +kernel
theorem dX2_goOn_64 : decode cX2_goOn 64 = .ok (.iconst 1, 1) := by decide +kernel
theorem dX2_goOn_65 : decode cX2_goOn 65 = .ok (.iadd, 1) := by decide +kernel
theorem dX2_goOn_66 : decode cX2_goOn 66 = .ok (.putfield 71, 3) := by decide +kernel
theorem dX2_goOn_69 : decode cX2_goOn 69 = .ok (.goto (-35), 3) := by decide +kernel
theorem dX2_goOn_72 : decode cX2_goOn 72 = .ok (.aload_n 0, 1) := by decide +kernel
theorem dX2_goOn_73 : decode cX2_goOn 73 = .ok (.aload_n 0, 1) := by decide +kernel
theorem dX2_goOn_74 : decode cX2_goOn 74 = .ok (.getfield 71, 3) := by decide +kernel
theorem dX2_goOn_77 : decode cX2_goOn 77 = .ok (.putfield 29, 3) := by decide +kernel
theorem dX2_goOn_80 : decode cX2_goOn 80 = .ok (.aload_n 0, 1) := by decide +kernel
theorem dX2_goOn_81 : decode cX2_goOn 81 = .ok (.aload_n 0, 1) := by decide +kernel
theorem dX2_goOn_82 : decode cX2_goOn 82 = .ok (.aload_n 0, 1) := by decide +kernel
theorem dX2_goOn_83 : decode cX2_goOn 83 = .ok (.getfield 71, 3) := by decide +kernel
theorem dX2_goOn_86 : decode cX2_goOn 86 = .ok (.invokevirtual 74, 3) := by decide +kernel
theorem dX2_goOn_89 : decode cX2_goOn 89 = .ok (.putfield 32, 3) := by decide +kernel
theorem dX2_goOn_92 : decode cX2_goOn 92 = .ok (.aload_n 0, 1) := by decide +kernel
theorem dX2_goOn_93 : decode cX2_goOn 93 = .ok (.getfield 32, 3) := by decide +kernel
theorem dX2_goOn_96 : decode cX2_goOn 96 = .ok (.iconst 2, 1) := by decide +kernel
theorem dX2_goOn_97 : decode cX2_goOn 97 = .ok (.if_icmp .ne 16, 3) := by decide +kernel
theorem dX2_goOn_100 : decode cX2_goOn 100 = .ok (.aload_n 0, 1) := by decide +kernel
theorem dX2_goOn_101 : decode cX2_goOn 101 = .ok (.dup, 1) := by decide +kernel
theorem dX2_goOn_102 : decode cX2_goOn 102 = .ok (.getfield 29, 3) := by decide +kernel
theorem dX2_goOn_105 : decode cX2_goOn 105 = .ok (.iconst 1, 1) := by decide +kernel
theorem dX2_goOn_106 : decode cX2_goOn 106 = .ok (.iadd, 1) := by decide +kernel
theorem dX2_goOn_107 : decode cX2_goOn 107 = .ok (.putfield 29, 3) := by decide +kernel
theorem dX2_goOn_110 : decode cX2_goOn 110 = .ok (.goto 98, 3) := by decide +kernel
theorem dX2_goOn_113 : decode cX2_goOn 113 = .ok (.aload_n 0, 1) := by decide +kernel
theorem dX2_goOn_114 : decode cX2_goOn 114 = .ok (.getfield 32, 3) := by decide +kernel
theorem dX2_goOn_117 : decode cX2_goOn 117 = .ok (.iconst 3, 1) := by decide +kernel
theorem dX2_goOn_118 : decode cX2_goOn 118 = .ok (.if_icmp .eq 90, 3) := by decide +kernel
theorem dX2_goOn_121 : decode cX2_goOn 121 = .ok (.aload_n 0, 1) := by decide +kernel
theorem dX2_goOn_122 : decode cX2_goOn 122 = .ok (.getfield 29, 3) := by decide +kernel
theorem dX2_goOn_125 : decode cX2_goOn 125 = .ok (.aload_n 0, 1) := by decide +kernel
theorem dX2_goOn_126 : decode cX2_goOn 126 = .ok (.getfield 25, 3) := by decide +kernel
theorem dX2_goOn_129 : decode cX2_goOn 129 = .ok (.if_icmp .ge 31, 3) := by decide +kernel
theorem dX2_goOn_132 : decode cX2_goOn 132 = .ok (.aload_n 0, 1) := by decide +kernel
theorem dX2_goOn_133 : decode cX2_goOn 133 = .ok (.aload_n 0, 1) := by decide +kernel
theorem dX2_goOn_134 : decode cX2_goOn 134 = .ok (.getfield 29, 3) := by decide +kernel
theorem dX2_goOn_137 : decode cX2_goOn 137 = .ok (.invokevirtual 74, 3) := by decide +kernel
theorem dX2_goOn_140 : decode cX2_goOn 140 = .ok (.aload_n 0, 1) := by decide +kernel
theorem dX2_goOn_141 : decode cX2_goOn 141 = .ok (.getfield 32, 3) := by decide +kernel
theorem dX2_goOn_144 : decode cX2_goOn 144 = .ok (.if_icmp .ne 16, 3) := by decide +kernel
theorem dX2_goOn_147 : decode cX2_goOn 147 = .ok (.aload_n 0, 1) := by decide +kernel
theorem dX2_goOn_148 : decode cX2_goOn 148 = .ok (.dup, 1) := by decide +kernel
theorem dX2_goOn_149 : decode cX2_goOn 149 = .ok (.getfield 29, 3) := by decide +kernel
theorem dX2_goOn_152 : decode cX2_goOn 152 = .ok (.iconst 1, 1) := by decide +kernel
theorem dX2_goOn_153 : decode cX2_goOn 153 = .ok (.iadd, 1) := by decide +kernel
theorem dX2_goOn_154 : decode cX2_goOn 154 = .ok (.putfield 29, 3) := by decide +kernel
theorem dX2_goOn_157 : decode cX2_goOn 157 = .ok (.goto (-36), 3) := by decide +kernel
theorem dX2_goOn_160 : decode cX2_goOn 160 = .ok (.iload_n 1, 1) := by decide +kernel
theorem dX2_goOn_161 : decode cX2_goOn 161 = .ok (.ifCond .eq 15, 3) := by decide +kernel
theorem dX2_goOn_164 : decode cX2_goOn 164 = .ok (.aload_n 0, 1) := by decide +kernel
theorem dX2_goOn_165 : decode cX2_goOn 165 = .ok (.getfield 71, 3) := by decide +kernel
theorem dX2_goOn_168 : decode cX2_goOn 168 = .ok (.iload_n 2, 1) := by decide +kernel
theorem dX2_goOn_169 : decode cX2_goOn 169 = .ok (.if_icmp .ne 7, 3) := by decide +kernel
theorem dX2_goOn_172 : decode cX2_goOn 172 = .ok (.iconst 1, 1) := by decide +kernel
theorem dX2_goOn_173 : decode cX2_goOn 173 = .ok (.goto 4, 3) := by decide +kernel
theorem dX2_goOn_176 : decode cX2_goOn 176 = .ok (.iconst 0, 1) := by decide +kernel
theorem dX2_goOn_177 : decode cX2_goOn 177 = .ok (.istore_n 3, 1) := by decide +kernel
theorem dX2_goOn_178 : decode cX2_goOn 178 = .ok (.iload_n 3, 1) := by decide +kernel
theorem dX2_goOn_179 : decode cX2_goOn 179 = .ok (.ifCond .ne 24, 3) := by decide +kernel
theorem dX2_goOn_182 : decode cX2_goOn 182 = .ok (.aload_n 0, 1) := by decide +kernel
theorem dX2_goOn_183 : decode cX2_goOn 183 = .ok (.getfield 32, 3) := by decide +kernel
theorem dX2_goOn_186 : decode cX2_goOn 186 = .ok (.iconst 1, 1) := by decide +kernel
theorem dX2_goOn_187 : decode cX2_goOn 187 = .ok (.if_icmp .ne 21, 3) := by decide +kernel
theorem dX2_goOn_190 : decode cX2_goOn 190 = .ok (.aload_n 0, 1) := by decide +kernel
theorem dX2_goOn_191 : decode cX2_goOn 191 = .ok (.getfield 29, 3) := by decide +kernel
theorem dX2_goOn_194 : decode cX2_goOn 194 = .ok (.aload_n 0, 1) := by decide +kernel
theorem dX2_goOn_195 : decode cX2_goOn 195 = .ok (.getfield 71, 3) := by decide +kernel
theorem dX2_goOn_198 : decode cX2_goOn 198 = .ok (.isub, 1) := by decide +kernel
theorem dX2_goOn_199 : decode cX2_goOn 199 = .ok (.iconst 4, 1) := by decide +kernel
theorem dX2_goOn_200 : decode cX2_goOn 200 = .ok (.if_icmp .le 8, 3) := by decide +kernel
theorem dX2_goOn_203 : decode cX2_goOn 203 = .ok (.aload_n 0, 1) := by decide +kernel
theorem dX2_goOn_204 : decode cX2_goOn 204 = .ok (.iconst 4, 1) := by decide +kernel
theorem dX2_goOn_205 : decode cX2_goOn 205 = .ok (.putfield 32, 3) := by decide +kernel
theorem dX2_goOn_208 : decode cX2_goOn 208 = .ok (.return_, 1) := by decide +kernel
theorem dX2_sortAt_0 : decode cX2_sortAt 0 = .ok (.iload_n 1, 1) := by decide +kernel
theorem dX2_sortAt_1 : decode cX2_sortAt 1 = .ok (.aload_n 0, 1) := by decide +kernel
theorem dX2_sortAt_2 : decode cX2_sortAt 2 = .ok (.getfield 25, 3) := by decide +kernel
theorem dX2_sortAt_5 : decode cX2_sortAt 5 = .ok (.if_icmp .lt 5, 3) := by decide +kernel
theorem dX2_sortAt_8 : decode cX2_sortAt 8 = .ok (.iconst 3, 1) := by decide +kernel
theorem dX2_sortAt_9 : decode cX2_sortAt 9 = .ok (.ireturn, 1) := by decide +kernel
theorem dX2_sortAt_10 : decode cX2_sortAt 10 = .ok (.aload_n 0, 1) := by decide +kernel
theorem dX2_sortAt_11 : decode cX2_sortAt 11 = .ok (.getfield 15, 3) := by decide +kernel
theorem dX2_sortAt_14 : decode cX2_sortAt 14 = .ok (.iload_n 1, 1) := by decide +kernel
theorem dX2_sortAt_15 : decode cX2_sortAt 15 = .ok (.baload, 1) := by decide +kernel
theorem dX2_sortAt_16 : decode cX2_sortAt 16 = .ok (.istore_n 2, 1) := by decide +kernel
theorem dX2_sortAt_17 : decode cX2_sortAt 17 = .ok (.iload_n 2, 1) := by decide +kernel
theorem dX2_sortAt_18 : decode cX2_sortAt 18 = .ok (.bipush 97, 2) := by decide +kernel
theorem dX2_sortAt_20 : decode cX2_sortAt 20 = .ok (.if_icmp .lt 11, 3) := by decide +kernel
theorem dX2_sortAt_23 : decode cX2_sortAt 23 = .ok (.iload_n 2, 1) := by decide +kernel
theorem dX2_sortAt_24 : decode cX2_sortAt 24 = .ok (.bipush 122, 2) := by decide +kernel
theorem dX2_sortAt_26 : decode cX2_sortAt 26 = .ok (.if_icmp .gt 5, 3) := by decide +kernel
theorem dX2_sortAt_29 : decode cX2_sortAt 29 = .ok (.iconst 0, 1) := by decide +kernel
theorem dX2_sortAt_30 : decode cX2_sortAt 30 = .ok (.ireturn, 1) := by decide +kernel
theorem dX2_sortAt_31 : decode cX2_sortAt 31 = .ok (.iload_n 2, 1) := by decide +kernel
theorem dX2_sortAt_32 : decode cX2_sortAt 32 = .ok (.bipush 48, 2) := by decide +kernel
theorem dX2_sortAt_34 : decode cX2_sortAt 34 = .ok (.if_icmp .lt 13, 3) := by decide +kernel
theorem dX2_sortAt_37 : decode cX2_sortAt 37 = .ok (.iload_n 2, 1) := by decide +kernel
theorem dX2_sortAt_38 : decode cX2_sortAt 38 = .ok (.bipush 57, 2) := by decide +kernel
theorem dX2_sortAt_40 : decode cX2_sortAt 40 = .ok (.if_icmp .gt 7, 3) := by decide +kernel
theorem dX2_sortAt_43 : decode cX2_sortAt 43 = .ok (.iconst 1, 1) := by decide +kernel
theorem dX2_sortAt_44 : decode cX2_sortAt 44 = .ok (.goto 4, 3) := by decide +kernel
theorem dX2_sortAt_47 : decode cX2_sortAt 47 = .ok (.iconst 2, 1) := by decide +kernel
theorem dX2_sortAt_48 : decode cX2_sortAt 48 = .ok (.ireturn, 1) := by decide +kernel
theorem dX2_takeKey_0 : decode cX2_takeKey 0 = .ok (.aload_n 0, 1) := by decide +kernel
theorem dX2_takeKey_1 : decode cX2_takeKey 1 = .ok (.ldc 78, 2) := by decide +kernel
theorem dX2_takeKey_3 : decode cX2_takeKey 3 = .ok (.invokevirtual 80, 3) := by decide +kernel
theorem dX2_takeKey_6 : decode cX2_takeKey 6 = .ok (.ifCond .eq 11, 3) := by decide +kernel
theorem dX2_takeKey_9 : decode cX2_takeKey 9 = .ok (.aload_n 0, 1) := by decide +kernel
theorem dX2_takeKey_10 : decode cX2_takeKey 10 = .ok (.iconst 0, 1) := by decide +kernel
theorem dX2_takeKey_11 : decode cX2_takeKey 11 = .ok (.putfield 59, 3) := by decide +kernel
theorem dX2_takeKey_14 : decode cX2_takeKey 14 = .ok (.goto 42, 3) := by decide +kernel
theorem dX2_takeKey_17 : decode cX2_takeKey 17 = .ok (.aload_n 0, 1) := by decide +kernel
theorem dX2_takeKey_18 : decode cX2_takeKey 18 = .ok (.ldc 84, 2) := by decide +kernel
theorem dX2_takeKey_20 : decode cX2_takeKey 20 = .ok (.invokevirtual 80, 3) := by decide +kernel
theorem dX2_takeKey_23 : decode cX2_takeKey 23 = .ok (.ifCond .eq 11, 3) := by decide +kernel
theorem dX2_takeKey_26 : decode cX2_takeKey 26 = .ok (.aload_n 0, 1) := by decide +kernel
theorem dX2_takeKey_27 : decode cX2_takeKey 27 = .ok (.iconst 1, 1) := by decide +kernel
theorem dX2_takeKey_28 : decode cX2_takeKey 28 = .ok (.putfield 59, 3) := by decide +kernel
theorem dX2_takeKey_31 : decode cX2_takeKey 31 = .ok (.goto 25, 3) := by decide +kernel
theorem dX2_takeKey_34 : decode cX2_takeKey 34 = .ok (.aload_n 0, 1) := by decide +kernel
theorem dX2_takeKey_35 : decode cX2_takeKey 35 = .ok (.ldc 86, 2) := by decide +kernel
theorem dX2_takeKey_37 : decode cX2_takeKey 37 = .ok (.invokevirtual 80, 3) := by decide +kernel
theorem dX2_takeKey_40 : decode cX2_takeKey 40 = .ok (.ifCond .eq 11, 3) := by decide +kernel
theorem dX2_takeKey_43 : decode cX2_takeKey 43 = .ok (.aload_n 0, 1) := by decide +kernel
theorem dX2_takeKey_44 : decode cX2_takeKey 44 = .ok (.iconst 2, 1) := by decide +kernel
theorem dX2_takeKey_45 : decode cX2_takeKey 45 = .ok (.putfield 59, 3) := by decide +kernel
theorem dX2_takeKey_48 : decode cX2_takeKey 48 = .ok (.goto 8, 3) := by decide +kernel
theorem dX2_takeKey_51 : decode cX2_takeKey 51 = .ok (.aload_n 0, 1) := by decide +kernel
theorem dX2_takeKey_52 : decode cX2_takeKey 52 = .ok (.invokevirtual 54, 3) := by decide +kernel
theorem dX2_takeKey_55 : decode cX2_takeKey 55 = .ok (.return_, 1) := by decide +kernel
theorem dX2_takeKey_56 : decode cX2_takeKey 56 = .ok (.aload_n 0, 1) := by decide +kernel
theorem dX2_takeKey_57 : decode cX2_takeKey 57 = .ok (.invokevirtual 44, 3) := by decide +kernel
theorem dX2_takeKey_60 : decode cX2_takeKey 60 = .ok (.return_, 1) := by decide +kernel
theorem dX2_isWord_0 : decode cX2_isWord 0 = .ok (.aload_n 0, 1) := by decide +kernel
theorem dX2_isWord_1 : decode cX2_isWord 1 = .ok (.getfield 32, 3) := by decide +kernel
theorem dX2_isWord_4 : decode cX2_isWord 4 = .ok (.ifCond .ne 19, 3) := by decide +kernel
theorem dX2_isWord_7 : decode cX2_isWord 7 = .ok (.aload_n 0, 1) := by decide +kernel
theorem dX2_isWord_8 : decode cX2_isWord 8 = .ok (.getfield 29, 3) := by decide +kernel
theorem dX2_isWord_11 : decode cX2_isWord 11 = .ok (.aload_n 0, 1) := by decide +kernel
theorem dX2_isWord_12 : decode cX2_isWord 12 = .ok (.getfield 71, 3) := by decide +kernel
theorem dX2_isWord_15 : decode cX2_isWord 15 = .ok (.isub, 1) := by decide +kernel
theorem dX2_isWord_16 : decode cX2_isWord 16 = .ok (.aload_n 1, 1) := by decide +kernel
theorem dX2_isWord_17 : decode cX2_isWord 17 = .ok (.invokevirtual 88, 3) := by decide +kernel
theorem dX2_isWord_20 : decode cX2_isWord 20 = .ok (.if_icmp .eq 5, 3) := by decide +kernel
theorem dX2_isWord_23 : decode cX2_isWord 23 = .ok (.iconst 0, 1) := by decide +kernel
theorem dX2_isWord_24 : decode cX2_isWord 24 = .ok (.ireturn, 1) := by decide +kernel
theorem dX2_isWord_25 : decode cX2_isWord 25 = .ok (.iconst 0, 1) := by decide +kernel
theorem dX2_isWord_26 : decode cX2_isWord 26 = .ok (.istore_n 2, 1) := by decide +kernel
theorem dX2_isWord_27 : decode cX2_isWord 27 = .ok (.iload_n 2, 1) := by decide +kernel
theorem dX2_isWord_28 : decode cX2_isWord 28 = .ok (.aload_n 1, 1) := by decide +kernel
theorem dX2_isWord_29 : decode cX2_isWord 29 = .ok (.invokevirtual 88, 3) := by decide +kernel
theorem dX2_isWord_32 : decode cX2_isWord 32 = .ok (.if_icmp .ge 30, 3) := by decide +kernel
theorem dX2_isWord_35 : decode cX2_isWord 35 = .ok (.aload_n 0, 1) := by decide +kernel
theorem dX2_isWord_36 : decode cX2_isWord 36 = .ok (.getfield 15, 3) := by decide +kernel
theorem dX2_isWord_39 : decode cX2_isWord 39 = .ok (.aload_n 0, 1) := by decide +kernel
theorem dX2_isWord_40 : decode cX2_isWord 40 = .ok (.getfield 71, 3) := by decide +kernel
theorem dX2_isWord_43 : decode cX2_isWord 43 = .ok (.iload_n 2, 1) := by decide +kernel
theorem dX2_isWord_44 : decode cX2_isWord 44 = .ok (.iadd, 1) := by decide +kernel
theorem dX2_isWord_45 : decode cX2_isWord 45 = .ok (.baload, 1) := by decide +kernel
theorem dX2_isWord_46 : decode cX2_isWord 46 = .ok (.aload_n 1, 1) := by decide +kernel
theorem dX2_isWord_47 : decode cX2_isWord 47 = .ok (.iload_n 2, 1) := by decide +kernel
theorem dX2_isWord_48 : decode cX2_isWord 48 = .ok (.invokevirtual 93, 3) := by decide +kernel
theorem dX2_isWord_51 : decode cX2_isWord 51 = .ok (.if_icmp .eq 5, 3) := by decide +kernel
theorem dX2_isWord_54 : decode cX2_isWord 54 = .ok (.iconst 0, 1) := by decide +kernel
theorem dX2_isWord_55 : decode cX2_isWord 55 = .ok (.ireturn, 1) := by decide +kernel
theorem dX2_isWord_56 : decode cX2_isWord 56 = .ok (.iinc 2 1, 3) := by decide +kernel
theorem dX2_isWord_59 : decode cX2_isWord 59 = .ok (.goto (-32), 3) := by decide +kernel
theorem dX2_isWord_62 : decode cX2_isWord 62 = .ok (.iconst 1, 1) := by decide +kernel
theorem dX2_isWord_63 : decode cX2_isWord 63 = .ok (.ireturn, 1) := by decide +kernel
theorem dX2_takeLevel_0 : decode cX2_takeLevel 0 = .ok (.aload_n 0, 1) := by decide +kernel
theorem dX2_takeLevel_1 : decode cX2_takeLevel 1 = .ok (.iload_n 1, 1) := by decide +kernel
theorem dX2_takeLevel_2 : decode cX2_takeLevel 2 = .ok (.iload_n 2, 1) := by decide +kernel
theorem dX2_takeLevel_3 : decode cX2_takeLevel 3 = .ok (.iload_n 3, 1) := by decide +kernel
theorem dX2_takeLevel_4 : decode cX2_takeLevel 4 = .ok (.invokevirtual 97, 3) := by decide +kernel
theorem dX2_takeLevel_7 : decode cX2_takeLevel 7 = .ok (.iconst 0, 1) := by decide +kernel
theorem dX2_takeLevel_8 : decode cX2_takeLevel 8 = .ok (.istore 4, 2) := by decide +kernel
theorem dX2_takeLevel_10 : decode cX2_takeLevel 10 = .ok (.iload 4, 2) := by decide +kernel
theorem dX2_takeLevel_12 : decode cX2_takeLevel 12 = .ok (.bipush 96, 2) := by decide +kernel
theorem dX2_takeLevel_14 : decode cX2_takeLevel 14 = .ok (.if_icmp .ge 62, 3) := by decide +kernel
theorem dX2_takeLevel_17 : decode cX2_takeLevel 17 = .ok (.aload_n 0, 1) := by decide +kernel
theorem dX2_takeLevel_18 : decode cX2_takeLevel 18 = .ok (.getfield 35, 3) := by decide +kernel
theorem dX2_takeLevel_21 : decode cX2_takeLevel 21 = .ok (.ifCond .ge 55, 3) := by decide +kernel
theorem dX2_takeLevel_24 : decode cX2_takeLevel 24 = .ok (.aload_n 0, 1) := by decide +kernel
theorem dX2_takeLevel_25 : decode cX2_takeLevel 25 = .ok (.invokevirtual 100, 3) := by decide +kernel
theorem dX2_takeLevel_28 : decode cX2_takeLevel 28 = .ok (.iload_n 1, 1) := by decide +kernel
theorem dX2_takeLevel_29 : decode cX2_takeLevel 29 = .ok (.if_icmp .ne 47, 3) := by decide +kernel
theorem dX2_takeLevel_32 : decode cX2_takeLevel 32 = .ok (.aload_n 0, 1) := by decide +kernel
theorem dX2_takeLevel_33 : decode cX2_takeLevel 33 = .ok (.getfield 15, 3) := by decide +kernel
theorem dX2_takeLevel_36 : decode cX2_takeLevel 36 = .ok (.aload_n 0, 1) := by decide +kernel
theorem dX2_takeLevel_37 : decode cX2_takeLevel 37 = .ok (.getfield 71, 3) := by decide +kernel
theorem dX2_takeLevel_40 : decode cX2_takeLevel 40 = .ok (.baload, 1) := by decide +kernel
theorem dX2_takeLevel_41 : decode cX2_takeLevel 41 = .ok (.istore 5, 2) := by decide +kernel
theorem dX2_takeLevel_43 : decode cX2_takeLevel 43 = .ok (.aload_n 0, 1) := by decide +kernel
theorem dX2_takeLevel_44 : decode cX2_takeLevel 44 = .ok (.invokevirtual 44, 3) := by decide +kernel
theorem dX2_takeLevel_47 : decode cX2_takeLevel 47 = .ok (.aload_n 0, 1) := by decide +kernel
theorem dX2_takeLevel_48 : decode cX2_takeLevel 48 = .ok (.iload_n 1, 1) := by decide +kernel
theorem dX2_takeLevel_49 : decode cX2_takeLevel 49 = .ok (.iload_n 2, 1) := by decide +kernel
theorem dX2_takeLevel_50 : decode cX2_takeLevel 50 = .ok (.iload_n 3, 1) := by decide +kernel
theorem dX2_takeLevel_51 : decode cX2_takeLevel 51 = .ok (.invokevirtual 97, 3) := by decide +kernel
theorem dX2_takeLevel_54 : decode cX2_takeLevel 54 = .ok (.aload_n 0, 1) := by decide +kernel
theorem dX2_takeLevel_55 : decode cX2_takeLevel 55 = .ok (.sipush 20000, 3) := by decide +kernel
theorem dX2_takeLevel_58 : decode cX2_takeLevel 58 = .ok (.iload 5, 2) := by decide +kernel
theorem dX2_takeLevel_60 : decode cX2_takeLevel 60 = .ok (.iadd, 1) := by decide +kernel
theorem dX2_takeLevel_61 : decode cX2_takeLevel 61 = .ok (.invokevirtual 103, 3) := by decide +kernel
theorem dX2_takeLevel_64 : decode cX2_takeLevel 64 = .ok (.iload_n 1, 1) := by decide +kernel
theorem dX2_takeLevel_65 : decode cX2_takeLevel 65 = .ok (.iconst 2, 1) := by decide +kernel
theorem dX2_takeLevel_66 : decode cX2_takeLevel 66 = .ok (.if_icmp .ne 4, 3) := by decide +kernel
theorem dX2_takeLevel_69 : decode cX2_takeLevel 69 = .ok (.return_, 1) := by decide +kernel
theorem dX2_takeLevel_70 : decode cX2_takeLevel 70 = .ok (.iinc 4 1, 3) := by decide +kernel
theorem dX2_takeLevel_73 : decode cX2_takeLevel 73 = .ok (.goto (-63), 3) := by decide +kernel
theorem dX2_takeLevel_76 : decode cX2_takeLevel 76 = .ok (.return_, 1) := by decide +kernel
theorem dX2_takeBelow_0 : decode cX2_takeBelow 0 = .ok (.aload_n 0, 1) := by decide +kernel
theorem dX2_takeBelow_1 : decode cX2_takeBelow 1 = .ok (.getfield 35, 3) := by decide +kernel
theorem dX2_takeBelow_4 : decode cX2_takeBelow 4 = .ok (.ifCond .lt 4, 3) := by decide +kernel
theorem dX2_takeBelow_7 : decode cX2_takeBelow 7 = .ok (.return_, 1) := by decide +kernel
theorem dX2_takeBelow_8 : decode cX2_takeBelow 8 = .ok (.iload_n 1, 1) := by decide +kernel
theorem dX2_takeBelow_9 : decode cX2_takeBelow 9 = .ok (.iconst 4, 1) := by decide +kernel
theorem dX2_takeBelow_10 : decode cX2_takeBelow 10 = .ok (.if_icmp .lt 12, 3) := by decide +kernel
theorem dX2_takeBelow_13 : decode cX2_takeBelow 13 = .ok (.aload_n 0, 1) := by decide +kernel
theorem dX2_takeBelow_14 : decode cX2_takeBelow 14 = .ok (.iload_n 2, 1) := by decide +kernel
theorem dX2_takeBelow_15 : decode cX2_takeBelow 15 = .ok (.iload_n 3, 1) := by decide +kernel
theorem dX2_takeBelow_16 : decode cX2_takeBelow 16 = .ok (.invokevirtual 107, 3) := by decide +kernel
theorem dX2_takeBelow_19 : decode cX2_takeBelow 19 = .ok (.goto 12, 3) := by decide +kernel
theorem dX2_takeBelow_22 : decode cX2_takeBelow 22 = .ok (.aload_n 0, 1) := by decide +kernel
theorem dX2_takeBelow_23 : decode cX2_takeBelow 23 = .ok (.iload_n 1, 1) := by decide +kernel
theorem dX2_takeBelow_24 : decode cX2_takeBelow 24 = .ok (.iconst 1, 1) := by decide +kernel
theorem dX2_takeBelow_25 : decode cX2_takeBelow 25 = .ok (.iadd, 1) := by decide +kernel
theorem dX2_takeBelow_26 : decode cX2_takeBelow 26 = .ok (.iload_n 2, 1) := by decide +kernel
theorem dX2_takeBelow_27 : decode cX2_takeBelow 27 = .ok (.iload_n 3, 1) := by decide +kernel
theorem dX2_takeBelow_28 : decode cX2_takeBelow 28 = .ok (.invokevirtual 50, 3) := by decide +kernel
theorem dX2_takeBelow_31 : decode cX2_takeBelow 31 = .ok (.return_, 1) := by decide +kernel
theorem dX2_levelAtHand_0 : decode cX2_levelAtHand 0 = .ok (.aload_n 0, 1) := by decide +kernel
theorem dX2_levelAtHand_1 : decode cX2_levelAtHand 1 = .ok (.getfield 32, 3) := by decide +kernel
theorem dX2_levelAtHand_4 : decode cX2_levelAtHand 4 = .ok (.iconst 2, 1) := by decide +kernel
theorem dX2_levelAtHand_5 : decode cX2_levelAtHand 5 = .ok (.if_icmp .eq 5, 3) := by decide +kernel
theorem dX2_levelAtHand_8 : decode cX2_levelAtHand 8 = .ok (.iconst (-1), 1) := by decide +kernel
theorem dX2_levelAtHand_9 : decode cX2_levelAtHand 9 = .ok (.ireturn, 1) := by decide +kernel
theorem dX2_levelAtHand_10 : decode cX2_levelAtHand 10 = .ok (.aload_n 0, 1) := by decide +kernel
theorem dX2_levelAtHand_11 : decode cX2_levelAtHand 11 = .ok (.getfield 15, 3) := by decide +kernel
theorem dX2_levelAtHand_14 : decode cX2_levelAtHand 14 = .ok (.aload_n 0, 1) := by decide +kernel
theorem dX2_levelAtHand_15 : decode cX2_levelAtHand 15 = .ok (.getfield 71, 3) := by decide +kernel
theorem dX2_levelAtHand_18 : decode cX2_levelAtHand 18 = .ok (.baload, 1) := by decide +kernel
theorem dX2_levelAtHand_19 : decode cX2_levelAtHand 19 = .ok (.lookupswitch 91 #[(38, 83), (42, 89), (43, 87), (45, 87), (47, 89), (60, 85), (61, 85), (62, 85), (124, 81)], 81) := by decide +kernel
theorem dX2_levelAtHand_100 : decode cX2_levelAtHand 100 = .ok (.iconst 0, 1) := by decide +kernel
theorem dX2_levelAtHand_101 : decode cX2_levelAtHand 101 = .ok (.ireturn, 1) := by decide +kernel
theorem dX2_levelAtHand_102 : decode cX2_levelAtHand 102 = .ok (.iconst 1, 1) := by decide +kernel
theorem dX2_levelAtHand_103 : decode cX2_levelAtHand 103 = .ok (.ireturn, 1) := by decide +kernel
theorem dX2_levelAtHand_104 : decode cX2_levelAtHand 104 = .ok (.iconst 2, 1) := by decide +kernel
theorem dX2_levelAtHand_105 : decode cX2_levelAtHand 105 = .ok (.ireturn, 1) := by decide +kernel
theorem dX2_levelAtHand_106 : decode cX2_levelAtHand 106 = .ok (.iconst 3, 1) := by decide +kernel
theorem dX2_levelAtHand_107 : decode cX2_levelAtHand 107 = .ok (.ireturn, 1) := by decide +kernel
theorem dX2_levelAtHand_108 : decode cX2_levelAtHand 108 = .ok (.iconst 4, 1) := by decide +kernel
theorem dX2_levelAtHand_109 : decode cX2_levelAtHand 109 = .ok (.ireturn, 1) := by decide +kernel
theorem dX2_levelAtHand_110 : decode cX2_levelAtHand 110 = .ok (.iconst (-1), 1) := by decide +kernel
theorem dX2_levelAtHand_111 : decode cX2_levelAtHand 111 = .ok (.ireturn, 1) := by decide +kernel
theorem dX2_takePiece_0 : decode cX2_takePiece 0 = .ok (.aload_n 0, 1) := by decide +kernel
theorem dX2_takePiece_1 : decode cX2_takePiece 1 = .ok (.getfield 32, 3) := by decide +kernel
theorem dX2_takePiece_4 : decode cX2_takePiece 4 = .ok (.iconst 1, 1) := by decide +kernel
theorem dX2_takePiece_5 : decode cX2_takePiece 5 = .ok (.if_icmp .ne 14, 3) := by decide +kernel
theorem dX2_takePiece_8 : decode cX2_takePiece 8 = .ok (.aload_n 0, 1) := by decide +kernel
theorem dX2_takePiece_9 : decode cX2_takePiece 9 = .ok (.aload_n 0, 1) := by decide +kernel
theorem dX2_takePiece_10 : decode cX2_takePiece 10 = .ok (.invokevirtual 111, 3) := by decide +kernel
theorem dX2_takePiece_13 : decode cX2_takePiece 13 = .ok (.invokevirtual 114, 3) := by decide +kernel
theorem dX2_takePiece_16 : decode cX2_takePiece 16 = .ok (.goto 93, 3) := by decide +kernel
theorem dX2_takePiece_19 : decode cX2_takePiece 19 = .ok (.aload_n 0, 1) := by decide +kernel
theorem dX2_takePiece_20 : decode cX2_takePiece 20 = .ok (.getfield 32, 3) := by decide +kernel
theorem dX2_takePiece_23 : decode cX2_takePiece 23 = .ok (.ifCond .ne 10, 3) := by decide +kernel
theorem dX2_takePiece_26 : decode cX2_takePiece 26 = .ok (.aload_n 0, 1) := by decide +kernel
theorem dX2_takePiece_27 : decode cX2_takePiece 27 = .ok (.invokevirtual 117, 3) := by decide +kernel
theorem dX2_takePiece_30 : decode cX2_takePiece 30 = .ok (.goto 79, 3) := by decide +kernel
theorem dX2_takePiece_33 : decode cX2_takePiece 33 = .ok (.aload_n 0, 1) := by decide +kernel
theorem dX2_takePiece_34 : decode cX2_takePiece 34 = .ok (.bipush 33, 2) := by decide +kernel
theorem dX2_takePiece_36 : decode cX2_takePiece 36 = .ok (.invokevirtual 120, 3) := by decide +kernel
theorem dX2_takePiece_39 : decode cX2_takePiece 39 = .ok (.ifCond .eq 31, 3) := by decide +kernel
theorem dX2_takePiece_42 : decode cX2_takePiece 42 = .ok (.iload_n 2, 1) := by decide +kernel
theorem dX2_takePiece_43 : decode cX2_takePiece 43 = .ok (.bipush 8, 2) := by decide +kernel
theorem dX2_takePiece_45 : decode cX2_takePiece 45 = .ok (.if_icmp .ge 25, 3) := by decide +kernel
theorem dX2_takePiece_48 : decode cX2_takePiece 48 = .ok (.aload_n 0, 1) := by decide +kernel
theorem dX2_takePiece_49 : decode cX2_takePiece 49 = .ok (.invokevirtual 44, 3) := by decide +kernel
theorem dX2_takePiece_52 : decode cX2_takePiece 52 = .ok (.aload_n 0, 1) := by decide +kernel
theorem dX2_takePiece_53 : decode cX2_takePiece 53 = .ok (.iload_n 1, 1) := by decide +kernel
theorem dX2_takePiece_54 : decode cX2_takePiece 54 = .ok (.iload_n 2, 1) := by decide +kernel
theorem dX2_takePiece_55 : decode cX2_takePiece 55 = .ok (.iconst 1, 1) := by decide +kernel
theorem dX2_takePiece_56 : decode cX2_takePiece 56 = .ok (.iadd, 1) := by decide +kernel
theorem dX2_takePiece_57 : decode cX2_takePiece 57 = .ok (.invokevirtual 107, 3) := by decide +kernel
theorem dX2_takePiece_60 : decode cX2_takePiece 60 = .ok (.aload_n 0, 1) := by decide +kernel
theorem dX2_takePiece_61 : decode cX2_takePiece 61 = .ok (.sipush 20033, 3) := by decide +kernel
theorem dX2_takePiece_64 : decode cX2_takePiece 64 = .ok (.invokevirtual 103, 3) := by decide +kernel
theorem dX2_takePiece_67 : decode cX2_takePiece 67 = .ok (.goto 42, 3) := by decide +kernel
theorem dX2_takePiece_70 : decode cX2_takePiece 70 = .ok (.aload_n 0, 1) := by decide +kernel
theorem dX2_takePiece_71 : decode cX2_takePiece 71 = .ok (.bipush 40, 2) := by decide +kernel
theorem dX2_takePiece_73 : decode cX2_takePiece 73 = .ok (.invokevirtual 120, 3) := by decide +kernel
theorem dX2_takePiece_76 : decode cX2_takePiece 76 = .ok (.ifCond .eq 29, 3) := by decide +kernel
theorem dX2_takePiece_79 : decode cX2_takePiece 79 = .ok (.iload_n 1, 1) := by decide +kernel
theorem dX2_takePiece_80 : decode cX2_takePiece 80 = .ok (.bipush 8, 2) := by decide +kernel
theorem dX2_takePiece_82 : decode cX2_takePiece 82 = .ok (.if_icmp .ge 23, 3) := by decide +kernel
theorem dX2_takePiece_85 : decode cX2_takePiece 85 = .ok (.aload_n 0, 1) := by decide +kernel
theorem dX2_takePiece_86 : decode cX2_takePiece 86 = .ok (.invokevirtual 44, 3) := by decide +kernel
theorem dX2_takePiece_89 : decode cX2_takePiece 89 = .ok (.aload_n 0, 1) := by decide +kernel
theorem dX2_takePiece_90 : decode cX2_takePiece 90 = .ok (.iconst 0, 1) := by decide +kernel
theorem dX2_takePiece_91 : decode cX2_takePiece 91 = .ok (.iload_n 1, 1) := by decide +kernel
theorem dX2_takePiece_92 : decode cX2_takePiece 92 = .ok (.iconst 1, 1) := by decide +kernel
theorem dX2_takePiece_93 : decode cX2_takePiece 93 = .ok (.iadd, 1) := by decide +kernel
theorem dX2_takePiece_94 : decode cX2_takePiece 94 = .ok (.iload_n 2, 1) := by decide +kernel
theorem dX2_takePiece_95 : decode cX2_takePiece 95 = .ok (.invokevirtual 50, 3) := by decide +kernel
theorem dX2_takePiece_98 : decode cX2_takePiece 98 = .ok (.aload_n 0, 1) := by decide +kernel
theorem dX2_takePiece_99 : decode cX2_takePiece 99 = .ok (.invokevirtual 124, 3) := by decide +kernel
theorem dX2_takePiece_102 : decode cX2_takePiece 102 = .ok (.goto 7, 3) := by decide +kernel
theorem dX2_takePiece_105 : decode cX2_takePiece 105 = .ok (.aload_n 0, 1) := by decide +kernel
theorem dX2_takePiece_106 : decode cX2_takePiece 106 = .ok (.invokevirtual 54, 3) := by decide +kernel
theorem dX2_takePiece_109 : decode cX2_takePiece 109 = .ok (.return_, 1) := by decide +kernel
theorem dX2_isSign_0 : decode cX2_isSign 0 = .ok (.aload_n 0, 1) := by decide +kernel
theorem dX2_isSign_1 : decode cX2_isSign 1 = .ok (.getfield 32, 3) := by decide +kernel
theorem dX2_isSign_4 : decode cX2_isSign 4 = .ok (.iconst 2, 1) := by decide +kernel
theorem dX2_isSign_5 : decode cX2_isSign 5 = .ok (.if_icmp .ne 20, 3) := by decide +kernel
theorem dX2_isSign_8 : decode cX2_isSign 8 = .ok (.aload_n 0, 1) := by decide +kernel
theorem dX2_isSign_9 : decode cX2_isSign 9 = .ok (.getfield 15, 3) := by decide +kernel
theorem dX2_isSign_12 : decode cX2_isSign 12 = .ok (.aload_n 0, 1) := by decide +kernel
theorem dX2_isSign_13 : decode cX2_isSign 13 = .ok (.getfield 71, 3) := by decide +kernel
theorem dX2_isSign_16 : decode cX2_isSign 16 = .ok (.baload, 1) := by decide +kernel
theorem dX2_isSign_17 : decode cX2_isSign 17 = .ok (.iload_n 1, 1) := by decide +kernel
theorem dX2_isSign_18 : decode cX2_isSign 18 = .ok (.if_icmp .ne 7, 3) := by decide +kernel
theorem dX2_isSign_21 : decode cX2_isSign 21 = .ok (.iconst 1, 1) := by decide +kernel
theorem dX2_isSign_22 : decode cX2_isSign 22 = .ok (.goto 4, 3) := by decide +kernel
theorem dX2_isSign_25 : decode cX2_isSign 25 = .ok (.iconst 0, 1) := by decide +kernel
theorem dX2_isSign_26 : decode cX2_isSign 26 = .ok (.ireturn, 1) := by decide +kernel
theorem dX2_takeClosing_0 : decode cX2_takeClosing 0 = .ok (.aload_n 0, 1) := by decide +kernel
theorem dX2_takeClosing_1 : decode cX2_takeClosing 1 = .ok (.bipush 41, 2) := by decide +kernel
theorem dX2_takeClosing_3 : decode cX2_takeClosing 3 = .ok (.invokevirtual 120, 3) := by decide +kernel
theorem dX2_takeClosing_6 : decode cX2_takeClosing 6 = .ok (.ifCond .eq 10, 3) := by decide +kernel
theorem dX2_takeClosing_9 : decode cX2_takeClosing 9 = .ok (.aload_n 0, 1) := by decide +kernel
theorem dX2_takeClosing_10 : decode cX2_takeClosing 10 = .ok (.invokevirtual 44, 3) := by decide +kernel
theorem dX2_takeClosing_13 : decode cX2_takeClosing 13 = .ok (.goto 7, 3) := by decide +kernel
theorem dX2_takeClosing_16 : decode cX2_takeClosing 16 = .ok (.aload_n 0, 1) := by decide +kernel
theorem dX2_takeClosing_17 : decode cX2_takeClosing 17 = .ok (.invokevirtual 54, 3) := by decide +kernel
theorem dX2_takeClosing_20 : decode cX2_takeClosing 20 = .ok (.return_, 1) := by decide +kernel
theorem dX2_takeName_0 : decode cX2_takeName 0 = .ok (.aload_n 0, 1) := by decide +kernel
theorem dX2_takeName_1 : decode cX2_takeName 1 = .ok (.getfield 29, 3) := by decide +kernel
theorem dX2_takeName_4 : decode cX2_takeName 4 = .ok (.aload_n 0, 1) := by decide +kernel
theorem dX2_takeName_5 : decode cX2_takeName 5 = .ok (.getfield 71, 3) := by decide +kernel
theorem dX2_takeName_8 : decode cX2_takeName 8 = .ok (.isub, 1) := by decide +kernel
theorem dX2_takeName_9 : decode cX2_takeName 9 = .ok (.iconst 1, 1) := by decide +kernel
theorem dX2_takeName_10 : decode cX2_takeName 10 = .ok (.if_icmp .ne 23, 3) := by decide +kernel
theorem dX2_takeName_13 : decode cX2_takeName 13 = .ok (.aload_n 0, 1) := by decide +kernel
theorem dX2_takeName_14 : decode cX2_takeName 14 = .ok (.invokevirtual 127, 3) := by decide +kernel
theorem dX2_takeName_17 : decode cX2_takeName 17 = .ok (.aload_n 0, 1) := by decide +kernel
theorem dX2_takeName_18 : decode cX2_takeName 18 = .ok (.getfield 15, 3) := by decide +kernel
theorem dX2_takeName_21 : decode cX2_takeName 21 = .ok (.aload_n 0, 1) := by decide +kernel
theorem dX2_takeName_22 : decode cX2_takeName 22 = .ok (.getfield 71, 3) := by decide +kernel
theorem dX2_takeName_25 : decode cX2_takeName 25 = .ok (.baload, 1) := by decide +kernel
theorem dX2_takeName_26 : decode cX2_takeName 26 = .ok (.i2c, 1) := by decide +kernel
theorem dX2_takeName_27 : decode cX2_takeName 27 = .ok (.invokevirtual 131, 3) := by decide +kernel
theorem dX2_takeName_30 : decode cX2_takeName 30 = .ok (.goto 4, 3) := by decide +kernel
theorem dX2_takeName_33 : decode cX2_takeName 33 = .ok (.iconst (-1), 1) := by decide +kernel
theorem dX2_takeName_34 : decode cX2_takeName 34 = .ok (.istore_n 1, 1) := by decide +kernel
theorem dX2_takeName_35 : decode cX2_takeName 35 = .ok (.iload_n 1, 1) := by decide +kernel
theorem dX2_takeName_36 : decode cX2_takeName 36 = .ok (.ifCond .ge 10, 3) := by decide +kernel
theorem dX2_takeName_39 : decode cX2_takeName 39 = .ok (.aload_n 0, 1) := by decide +kernel
theorem dX2_takeName_40 : decode cX2_takeName 40 = .ok (.invokevirtual 54, 3) := by decide +kernel
theorem dX2_takeName_43 : decode cX2_takeName 43 = .ok (.goto 12, 3) := by decide +kernel
theorem dX2_takeName_46 : decode cX2_takeName 46 = .ok (.aload_n 0, 1) := by decide +kernel
theorem dX2_takeName_47 : decode cX2_takeName 47 = .ok (.sipush 10000, 3) := by decide +kernel
theorem dX2_takeName_50 : decode cX2_takeName 50 = .ok (.iload_n 1, 1) := by decide +kernel
theorem dX2_takeName_51 : decode cX2_takeName 51 = .ok (.iadd, 1) := by decide +kernel
theorem dX2_takeName_52 : decode cX2_takeName 52 = .ok (.invokevirtual 114, 3) := by decide +kernel
theorem dX2_takeName_55 : decode cX2_takeName 55 = .ok (.return_, 1) := by decide +kernel
theorem dX2_namesOfKey_0 : decode cX2_namesOfKey 0 = .ok (.aload_n 0, 1) := by decide +kernel
theorem dX2_namesOfKey_1 : decode cX2_namesOfKey 1 = .ok (.getfield 59, 3) := by decide +kernel
theorem dX2_namesOfKey_4 : decode cX2_namesOfKey 4 = .ok (.lookupswitch 34 #[(0, 28), (1, 31)], 28) := by decide +kernel
theorem dX2_namesOfKey_32 : decode cX2_namesOfKey 32 = .ok (.ldc 134, 2) := by decide +kernel
theorem dX2_namesOfKey_34 : decode cX2_namesOfKey 34 = .ok (.areturn, 1) := by decide +kernel
theorem dX2_namesOfKey_35 : decode cX2_namesOfKey 35 = .ok (.ldc 136, 2) := by decide +kernel
theorem dX2_namesOfKey_37 : decode cX2_namesOfKey 37 = .ok (.areturn, 1) := by decide +kernel
theorem dX2_namesOfKey_38 : decode cX2_namesOfKey 38 = .ok (.ldc 138, 2) := by decide +kernel
theorem dX2_namesOfKey_40 : decode cX2_namesOfKey 40 = .ok (.areturn, 1) := by decide +kernel
theorem dX2_numberAtHand_0 : decode cX2_numberAtHand 0 = .ok (.iconst 0, 1) := by decide +kernel
theorem dX2_numberAtHand_1 : decode cX2_numberAtHand 1 = .ok (.istore_n 1, 1) := by decide +kernel
theorem dX2_numberAtHand_2 : decode cX2_numberAtHand 2 = .ok (.aload_n 0, 1) := by decide +kernel
theorem dX2_numberAtHand_3 : decode cX2_numberAtHand 3 = .ok (.getfield 71, 3) := by decide +kernel
theorem dX2_numberAtHand_6 : decode cX2_numberAtHand 6 = .ok (.istore_n 2, 1) := by decide +kernel
theorem dX2_numberAtHand_7 : decode cX2_numberAtHand 7 = .ok (.iload_n 2, 1) := by decide +kernel
theorem dX2_numberAtHand_8 : decode cX2_numberAtHand 8 = .ok (.aload_n 0, 1) := by decide +kernel
theorem dX2_numberAtHand_9 : decode cX2_numberAtHand 9 = .ok (.getfield 29, 3) := by decide +kernel
theorem dX2_numberAtHand_12 : decode cX2_numberAtHand 12 = .ok (.if_icmp .ge 24, 3) := by decide +kernel
theorem dX2_numberAtHand_15 : decode cX2_numberAtHand 15 = .ok (.bipush 10, 2) := by decide +kernel
theorem dX2_numberAtHand_17 : decode cX2_numberAtHand 17 = .ok (.iload_n 1, 1) := by decide +kernel
theorem dX2_numberAtHand_18 : decode cX2_numberAtHand 18 = .ok (.imul, 1) := by decide +kernel
theorem dX2_numberAtHand_19 : decode cX2_numberAtHand 19 = .ok (.aload_n 0, 1) := by decide +kernel
theorem dX2_numberAtHand_20 : decode cX2_numberAtHand 20 = .ok (.getfield 15, 3) := by decide +kernel
theorem dX2_numberAtHand_23 : decode cX2_numberAtHand 23 = .ok (.iload_n 2, 1) := by decide +kernel
theorem dX2_numberAtHand_24 : decode cX2_numberAtHand 24 = .ok (.baload, 1) := by decide +kernel
theorem dX2_numberAtHand_25 : decode cX2_numberAtHand 25 = .ok (.iadd, 1) := by decide +kernel
theorem dX2_numberAtHand_26 : decode cX2_numberAtHand 26 = .ok (.bipush 48, 2) := by decide +kernel
theorem dX2_numberAtHand_28 : decode cX2_numberAtHand 28 = .ok (.isub, 1) := by decide +kernel
theorem dX2_numberAtHand_29 : decode cX2_numberAtHand 29 = .ok (.istore_n 1, 1) := by decide +kernel
theorem dX2_numberAtHand_30 : decode cX2_numberAtHand 30 = .ok (.iinc 2 1, 3) := by decide +kernel
theorem dX2_numberAtHand_33 : decode cX2_numberAtHand 33 = .ok (.goto (-26), 3) := by decide +kernel
theorem dX2_numberAtHand_36 : decode cX2_numberAtHand 36 = .ok (.iload_n 1, 1) := by decide +kernel
theorem dX2_numberAtHand_37 : decode cX2_numberAtHand 37 = .ok (.ireturn, 1) := by decide +kernel
theorem dX2_takeLeaf_0 : decode cX2_takeLeaf 0 = .ok (.aload_n 0, 1) := by decide +kernel
theorem dX2_takeLeaf_1 : decode cX2_takeLeaf 1 = .ok (.dup, 1) := by decide +kernel
theorem dX2_takeLeaf_2 : decode cX2_takeLeaf 2 = .ok (.getfield 41, 3) := by decide +kernel
theorem dX2_takeLeaf_5 : decode cX2_takeLeaf 5 = .ok (.iconst 1, 1) := by decide +kernel
theorem dX2_takeLeaf_6 : decode cX2_takeLeaf 6 = .ok (.iadd, 1) := by decide +kernel
theorem dX2_takeLeaf_7 : decode cX2_takeLeaf 7 = .ok (.putfield 41, 3) := by decide +kernel
theorem dX2_takeLeaf_10 : decode cX2_takeLeaf 10 = .ok (.aload_n 0, 1) := by decide +kernel
theorem dX2_takeLeaf_11 : decode cX2_takeLeaf 11 = .ok (.iload_n 1, 1) := by decide +kernel
theorem dX2_takeLeaf_12 : decode cX2_takeLeaf 12 = .ok (.invokevirtual 103, 3) := by decide +kernel
theorem dX2_takeLeaf_15 : decode cX2_takeLeaf 15 = .ok (.aload_n 0, 1) := by decide +kernel
theorem dX2_takeLeaf_16 : decode cX2_takeLeaf 16 = .ok (.invokevirtual 44, 3) := by decide +kernel
theorem dX2_takeLeaf_19 : decode cX2_takeLeaf 19 = .ok (.return_, 1) := by decide +kernel
theorem dX2_write_0 : decode cX2_write 0 = .ok (.aload_n 0, 1) := by decide +kernel
theorem dX2_write_1 : decode cX2_write 1 = .ok (.getfield 38, 3) := by decide +kernel
theorem dX2_write_4 : decode cX2_write 4 = .ok (.bipush 96, 2) := by decide +kernel
theorem dX2_write_6 : decode cX2_write 6 = .ok (.if_icmp .ge 23, 3) := by decide +kernel
theorem dX2_write_9 : decode cX2_write 9 = .ok (.aload_n 0, 1) := by decide +kernel
theorem dX2_write_10 : decode cX2_write 10 = .ok (.getfield 9, 3) := by decide +kernel
theorem dX2_write_13 : decode cX2_write 13 = .ok (.aload_n 0, 1) := by decide +kernel
theorem dX2_write_14 : decode cX2_write 14 = .ok (.getfield 38, 3) := by decide +kernel
theorem dX2_write_17 : decode cX2_write 17 = .ok (.iload_n 1, 1) := by decide +kernel
theorem dX2_write_18 : decode cX2_write 18 = .ok (.iastore, 1) := by decide +kernel
theorem dX2_write_19 : decode cX2_write 19 = .ok (.aload_n 0, 1) := by decide +kernel
theorem dX2_write_20 : decode cX2_write 20 = .ok (.dup, 1) := by decide +kernel
theorem dX2_write_21 : decode cX2_write 21 = .ok (.getfield 38, 3) := by decide +kernel
theorem dX2_write_24 : decode cX2_write 24 = .ok (.iconst 1, 1) := by decide +kernel
theorem dX2_write_25 : decode cX2_write 25 = .ok (.iadd, 1) := by decide +kernel
theorem dX2_write_26 : decode cX2_write 26 = .ok (.putfield 38, 3) := by decide +kernel
theorem dX2_write_29 : decode cX2_write 29 = .ok (.return_, 1) := by decide +kernel
theorem dX3_init_0 : decode cX3_init 0 = .ok (.aload_n 0, 1) := by decide +kernel
theorem dX3_init_1 : decode cX3_init 1 = .ok (.invokespecial 3, 3) := by decide +kernel
theorem dX3_init_4 : decode cX3_init 4 = .ok (.aload_n 0, 1) := by decide +kernel
theorem dX3_init_5 : decode cX3_init 5 = .ok (.bipush 24, 2) := by decide +kernel
theorem dX3_init_7 : decode cX3_init 7 = .ok (.newarray .int, 2) := by decide +kernel
theorem dX3_init_9 : decode cX3_init 9 = .ok (.putfield 9, 3) := by decide +kernel
theorem dX3_init_12 : decode cX3_init 12 = .ok (.aload_n 0, 1) := by decide +kernel
theorem dX3_init_13 : decode cX3_init 13 = .ok (.iconst (-1), 1) := by decide +kernel
theorem dX3_init_14 : decode cX3_init 14 = .ok (.putfield 15, 3) := by decide +kernel
theorem dX3_init_17 : decode cX3_init 17 = .ok (.return_, 1) := by decide +kernel
theorem dX3_becomes_0 : decode cX3_becomes 0 = .ok (.iconst 0, 1) := by decide +kernel
theorem dX3_becomes_1 : decode cX3_becomes 1 = .ok (.istore_n 2, 1) := by decide +kernel
theorem dX3_becomes_2 : decode cX3_becomes 2 = .ok (.iload_n 2, 1) := by decide +kernel
theorem dX3_becomes_3 : decode cX3_becomes 3 = .ok (.aload_n 1, 1) := by decide +kernel
theorem dX3_becomes_4 : decode cX3_becomes 4 = .ok (.getfield 19, 3) := by decide +kernel
theorem dX3_becomes_7 : decode cX3_becomes 7 = .ok (.if_icmp .ge 21, 3) := by decide +kernel
theorem dX3_becomes_10 : decode cX3_becomes 10 = .ok (.aload_n 0, 1) := by decide +kernel
theorem dX3_becomes_11 : decode cX3_becomes 11 = .ok (.getfield 9, 3) := by decide +kernel
theorem dX3_becomes_14 : decode cX3_becomes 14 = .ok (.iload_n 2, 1) := by decide +kernel
theorem dX3_becomes_15 : decode cX3_becomes 15 = .ok (.aload_n 1, 1) := by decide +kernel
theorem dX3_becomes_16 : decode cX3_becomes 16 = .ok (.getfield 9, 3) := by decide +kernel
theorem dX3_becomes_19 : decode cX3_becomes 19 = .ok (.iload_n 2, 1) := by decide +kernel
theorem dX3_becomes_20 : decode cX3_becomes 20 = .ok (.iaload, 1) := by decide +kernel
theorem dX3_becomes_21 : decode cX3_becomes 21 = .ok (.iastore, 1) := by decide +kernel
theorem dX3_becomes_22 : decode cX3_becomes 22 = .ok (.iinc 2 1, 3) := by decide +kernel
theorem dX3_becomes_25 : decode cX3_becomes 25 = .ok (.goto (-23), 3) := by decide +kernel
theorem dX3_becomes_28 : decode cX3_becomes 28 = .ok (.aload_n 0, 1) := by decide +kernel
theorem dX3_becomes_29 : decode cX3_becomes 29 = .ok (.aload_n 1, 1) := by decide +kernel
theorem dX3_becomes_30 : decode cX3_becomes 30 = .ok (.getfield 15, 3) := by decide +kernel
theorem dX3_becomes_33 : decode cX3_becomes 33 = .ok (.putfield 15, 3) := by decide +kernel
theorem dX3_becomes_36 : decode cX3_becomes 36 = .ok (.aload_n 0, 1) := by decide +kernel
theorem dX3_becomes_37 : decode cX3_becomes 37 = .ok (.aload_n 1, 1) := by decide +kernel
theorem dX3_becomes_38 : decode cX3_becomes 38 = .ok (.getfield 19, 3) := by decide +kernel
theorem dX3_becomes_41 : decode cX3_becomes 41 = .ok (.putfield 19, 3) := by decide +kernel
theorem dX3_becomes_44 : decode cX3_becomes 44 = .ok (.return_, 1) := by decide +kernel
theorem dX3_clears_0 : decode cX3_clears 0 = .ok (.iconst 0, 1) := by decide +kernel
theorem dX3_clears_1 : decode cX3_clears 1 = .ok (.istore_n 3, 1) := by decide +kernel
theorem dX3_clears_2 : decode cX3_clears 2 = .ok (.iload_n 3, 1) := by decide +kernel
theorem dX3_clears_3 : decode cX3_clears 3 = .ok (.bipush 24, 2) := by decide +kernel
theorem dX3_clears_5 : decode cX3_clears 5 = .ok (.if_icmp .ge 16, 3) := by decide +kernel
theorem dX3_clears_8 : decode cX3_clears 8 = .ok (.aload_n 0, 1) := by decide +kernel
theorem dX3_clears_9 : decode cX3_clears 9 = .ok (.getfield 9, 3) := by decide +kernel
theorem dX3_clears_12 : decode cX3_clears 12 = .ok (.iload_n 3, 1) := by decide +kernel
theorem dX3_clears_13 : decode cX3_clears 13 = .ok (.iconst 0, 1) := by decide +kernel
theorem dX3_clears_14 : decode cX3_clears 14 = .ok (.iastore, 1) := by decide +kernel
theorem dX3_clears_15 : decode cX3_clears 15 = .ok (.iinc 3 1, 3) := by decide +kernel
theorem dX3_clears_18 : decode cX3_clears 18 = .ok (.goto (-16), 3) := by decide +kernel
theorem dX3_clears_21 : decode cX3_clears 21 = .ok (.aload_n 0, 1) := by decide +kernel
theorem dX3_clears_22 : decode cX3_clears 22 = .ok (.iload_n 1, 1) := by decide +kernel
theorem dX3_clears_23 : decode cX3_clears 23 = .ok (.putfield 15, 3) := by decide +kernel
theorem dX3_clears_26 : decode cX3_clears 26 = .ok (.aload_n 0, 1) := by decide +kernel
theorem dX3_clears_27 : decode cX3_clears 27 = .ok (.iload_n 2, 1) := by decide +kernel
theorem dX3_clears_28 : decode cX3_clears 28 = .ok (.putfield 19, 3) := by decide +kernel
theorem dX3_clears_31 : decode cX3_clears 31 = .ok (.return_, 1) := by decide +kernel
theorem dX3_isNumber_0 : decode cX3_isNumber 0 = .ok (.aload_n 0, 1) := by decide +kernel
theorem dX3_isNumber_1 : decode cX3_isNumber 1 = .ok (.getfield 9, 3) := by decide +kernel
theorem dX3_isNumber_4 : decode cX3_isNumber 4 = .ok (.iload_n 1, 1) := by decide +kernel
theorem dX3_isNumber_5 : decode cX3_isNumber 5 = .ok (.iaload, 1) := by decide +kernel
theorem dX3_isNumber_6 : decode cX3_isNumber 6 = .ok (.ldc 22, 2) := by decide +kernel
theorem dX3_isNumber_8 : decode cX3_isNumber 8 = .ok (.if_icmp .eq 7, 3) := by decide +kernel
theorem dX3_isNumber_11 : decode cX3_isNumber 11 = .ok (.iconst 1, 1) := by decide +kernel
theorem dX3_isNumber_12 : decode cX3_isNumber 12 = .ok (.goto 4, 3) := by decide +kernel
theorem dX3_isNumber_15 : decode cX3_isNumber 15 = .ok (.iconst 0, 1) := by decide +kernel
theorem dX3_isNumber_16 : decode cX3_isNumber 16 = .ok (.ireturn, 1) := by decide +kernel
theorem dX3_hasStretch_0 : decode cX3_hasStretch 0 = .ok (.iload_n 2, 1) := by decide +kernel
theorem dX3_hasStretch_1 : decode cX3_hasStretch 1 = .ok (.ifCond .lt 29, 3) := by decide +kernel
theorem dX3_hasStretch_4 : decode cX3_hasStretch 4 = .ok (.iload_n 2, 1) := by decide +kernel
theorem dX3_hasStretch_5 : decode cX3_hasStretch 5 = .ok (.aload_n 0, 1) := by decide +kernel
theorem dX3_hasStretch_6 : decode cX3_hasStretch 6 = .ok (.getfield 19, 3) := by decide +kernel
theorem dX3_hasStretch_9 : decode cX3_hasStretch 9 = .ok (.if_icmp .gt 21, 3) := by decide +kernel
theorem dX3_hasStretch_12 : decode cX3_hasStretch 12 = .ok (.iload_n 1, 1) := by decide +kernel
theorem dX3_hasStretch_13 : decode cX3_hasStretch 13 = .ok (.ifCond .lt 17, 3) := by decide +kernel
theorem dX3_hasStretch_16 : decode cX3_hasStretch 16 = .ok (.iload_n 1, 1) := by decide +kernel
theorem dX3_hasStretch_17 : decode cX3_hasStretch 17 = .ok (.aload_n 0, 1) := by decide +kernel
theorem dX3_hasStretch_18 : decode cX3_hasStretch 18 = .ok (.getfield 19, 3) := by decide +kernel
theorem dX3_hasStretch_21 : decode cX3_hasStretch 21 = .ok (.iload_n 2, 1) := by decide +kernel
theorem dX3_hasStretch_22 : decode cX3_hasStretch 22 = .ok (.isub, 1) := by decide +kernel
theorem dX3_hasStretch_23 : decode cX3_hasStretch 23 = .ok (.if_icmp .gt 7, 3) := by decide +kernel
theorem dX3_hasStretch_26 : decode cX3_hasStretch 26 = .ok (.iconst 1, 1) := by decide +kernel
theorem dX3_hasStretch_27 : decode cX3_hasStretch 27 = .ok (.goto 4, 3) := by decide +kernel
theorem dX3_hasStretch_30 : decode cX3_hasStretch 30 = .ok (.iconst 0, 1) := by decide +kernel
theorem dX3_hasStretch_31 : decode cX3_hasStretch 31 = .ok (.ireturn, 1) := by decide +kernel
theorem dX4_init_0 : decode cX4_init 0 = .ok (.aload_n 0, 1) := by decide +kernel
theorem dX4_init_1 : decode cX4_init 1 = .ok (.invokespecial 3, 3) := by decide +kernel
theorem dX4_init_4 : decode cX4_init 4 = .ok (.aload_n 0, 1) := by decide +kernel
theorem dX4_init_5 : decode cX4_init 5 = .ok (.iconst 0, 1) := by decide +kernel
theorem dX4_init_6 : decode cX4_init 6 = .ok (.putfield 9, 3) := by decide +kernel
theorem dX4_init_9 : decode cX4_init 9 = .ok (.aload_n 0, 1) := by decide +kernel
theorem dX4_init_10 : decode cX4_init 10 = .ok (.new 15, 3) := by decide +kernel
theorem dX4_init_13 : decode cX4_init 13 = .ok (.dup, 1) := by decide +kernel
theorem dX4_init_14 : decode cX4_init 14 = .ok (.invokespecial 17, 3) := by decide +kernel
theorem dX4_init_17 : decode cX4_init 17 = .ok (.putfield 18, 3) := by decide +kernel
theorem dX4_init_20 : decode cX4_init 20 = .ok (.aload_n 0, 1) := by decide +kernel
theorem dX4_init_21 : decode cX4_init 21 = .ok (.new 22, 3) := by decide +kernel
theorem dX4_init_24 : decode cX4_init 24 = .ok (.dup, 1) := by decide +kernel
theorem dX4_init_25 : decode cX4_init 25 = .ok (.invokespecial 24, 3) := by decide +kernel
theorem dX4_init_28 : decode cX4_init 28 = .ok (.putfield 25, 3) := by decide +kernel
theorem dX4_init_31 : decode cX4_init 31 = .ok (.return_, 1) := by decide +kernel
theorem dX5_init_0 : decode cX5_init 0 = .ok (.aload_n 0, 1) := by decide +kernel
theorem dX5_init_1 : decode cX5_init 1 = .ok (.invokespecial 1, 3) := by decide +kernel
theorem dX5_init_4 : decode cX5_init 4 = .ok (.aload_n 0, 1) := by decide +kernel
theorem dX5_init_5 : decode cX5_init 5 = .ok (.iload_n 1, 1) := by decide +kernel
theorem dX5_init_6 : decode cX5_init 6 = .ok (.putfield 7, 3) := by decide +kernel
theorem dX5_init_9 : decode cX5_init 9 = .ok (.aload_n 0, 1) := by decide +kernel
theorem dX5_init_10 : decode cX5_init 10 = .ok (.iload_n 2, 1) := by decide +kernel
theorem dX5_init_11 : decode cX5_init 11 = .ok (.putfield 13, 3) := by decide +kernel
theorem dX5_init_14 : decode cX5_init 14 = .ok (.aload_n 0, 1) := by decide +kernel
theorem dX5_init_15 : decode cX5_init 15 = .ok (.aload_n 3, 1) := by decide +kernel
theorem dX5_init_16 : decode cX5_init 16 = .ok (.putfield 16, 3) := by decide +kernel
theorem dX5_init_19 : decode cX5_init 19 = .ok (.aload_n 0, 1) := by decide +kernel
theorem dX5_init_20 : decode cX5_init 20 = .ok (.iconst 0, 1) := by decide +kernel
theorem dX5_init_21 : decode cX5_init 21 = .ok (.iload_n 2, 1) := by decide +kernel
theorem dX5_init_22 : decode cX5_init 22 = .ok (.invokestatic 20, 3) := by decide +kernel
theorem dX5_init_25 : decode cX5_init 25 = .ok (.newarray .int, 2) := by decide +kernel
theorem dX5_init_27 : decode cX5_init 27 = .ok (.putfield 26, 3) := by decide +kernel
theorem dX5_init_30 : decode cX5_init 30 = .ok (.return_, 1) := by decide +kernel
theorem dX5_gives_0 : decode cX5_gives 0 = .ok (.iconst 0, 1) := by decide +kernel
theorem dX5_gives_1 : decode cX5_gives 1 = .ok (.istore 4, 2) := by decide +kernel
theorem dX5_gives_3 : decode cX5_gives 3 = .ok (.iconst 0, 1) := by decide +kernel
theorem dX5_gives_4 : decode cX5_gives 4 = .ok (.istore 5, 2) := by decide +kernel
theorem dX5_gives_6 : decode cX5_gives 6 = .ok (.iload 5, 2) := by decide +kernel
theorem dX5_gives_8 : decode cX5_gives 8 = .ok (.aload_n 0, 1) := by decide +kernel
theorem dX5_gives_9 : decode cX5_gives 9 = .ok (.getfield 16, 3) := by decide +kernel
theorem dX5_gives_12 : decode cX5_gives 12 = .ok (.arraylength, 1) := by decide +kernel
theorem dX5_gives_13 : decode cX5_gives 13 = .ok (.if_icmp .ge 143, 3) := by decide +kernel
theorem dX5_gives_16 : decode cX5_gives 16 = .ok (.aload_n 0, 1) := by decide +kernel
theorem dX5_gives_17 : decode cX5_gives 17 = .ok (.getfield 16, 3) := by decide +kernel
theorem dX5_gives_20 : decode cX5_gives 20 = .ok (.iload 5, 2) := by decide +kernel
theorem dX5_gives_22 : decode cX5_gives 22 = .ok (.iaload, 1) := by decide +kernel
theorem dX5_gives_23 : decode cX5_gives 23 = .ok (.istore 6, 2) := by decide +kernel
theorem dX5_gives_25 : decode cX5_gives 25 = .ok (.iload 6, 2) := by decide +kernel
theorem dX5_gives_27 : decode cX5_gives 27 = .ok (.sipush 20000, 3) := by decide +kernel
theorem dX5_gives_30 : decode cX5_gives 30 = .ok (.if_icmp .ge 34, 3) := by decide +kernel
theorem dX5_gives_33 : decode cX5_gives 33 = .ok (.iload 4, 2) := by decide +kernel
theorem dX5_gives_35 : decode cX5_gives 35 = .ok (.aload_n 0, 1) := by decide +kernel
theorem dX5_gives_36 : decode cX5_gives 36 = .ok (.getfield 26, 3) := by decide +kernel
theorem dX5_gives_39 : decode cX5_gives 39 = .ok (.arraylength, 1) := by decide +kernel
theorem dX5_gives_40 : decode cX5_gives 40 = .ok (.if_icmp .ge 110, 3) := by decide +kernel
theorem dX5_gives_43 : decode cX5_gives 43 = .ok (.aload_n 0, 1) := by decide +kernel
theorem dX5_gives_44 : decode cX5_gives 44 = .ok (.getfield 26, 3) := by decide +kernel
theorem dX5_gives_47 : decode cX5_gives 47 = .ok (.iload 4, 2) := by decide +kernel
theorem dX5_gives_49 : decode cX5_gives 49 = .ok (.iload 6, 2) := by decide +kernel
theorem dX5_gives_51 : decode cX5_gives 51 = .ok (.iload_n 1, 1) := by decide +kernel
theorem dX5_gives_52 : decode cX5_gives 52 = .ok (.iload_n 2, 1) := by decide +kernel
theorem dX5_gives_53 : decode cX5_gives 53 = .ok (.iload_n 3, 1) := by decide +kernel
theorem dX5_gives_54 : decode cX5_gives 54 = .ok (.invokestatic 29, 3) := by decide +kernel
theorem dX5_gives_57 : decode cX5_gives 57 = .ok (.iastore, 1) := by decide +kernel
theorem dX5_gives_58 : decode cX5_gives 58 = .ok (.iinc 4 1, 3) := by decide +kernel
theorem dX5_gives_61 : decode cX5_gives 61 = .ok (.goto 89, 3) := by decide +kernel
theorem dX5_gives_64 : decode cX5_gives 64 = .ok (.iload 6, 2) := by decide +kernel
theorem dX5_gives_66 : decode cX5_gives 66 = .ok (.sipush 20033, 3) := by decide +kernel
theorem dX5_gives_69 : decode cX5_gives 69 = .ok (.if_icmp .ne 38, 3) := by decide +kernel
theorem dX5_gives_72 : decode cX5_gives 72 = .ok (.iload 4, 2) := by decide +kernel
theorem dX5_gives_74 : decode cX5_gives 74 = .ok (.iconst 1, 1) := by decide +kernel
theorem dX5_gives_75 : decode cX5_gives 75 = .ok (.if_icmp .lt 75, 3) := by decide +kernel
theorem dX5_gives_78 : decode cX5_gives 78 = .ok (.aload_n 0, 1) := by decide +kernel
theorem dX5_gives_79 : decode cX5_gives 79 = .ok (.getfield 26, 3) := by decide +kernel
theorem dX5_gives_82 : decode cX5_gives 82 = .ok (.iload 4, 2) := by decide +kernel
theorem dX5_gives_84 : decode cX5_gives 84 = .ok (.iconst 1, 1) := by decide +kernel
theorem dX5_gives_85 : decode cX5_gives 85 = .ok (.isub, 1) := by decide +kernel
theorem dX5_gives_86 : decode cX5_gives 86 = .ok (.aload_n 0, 1) := by decide +kernel
theorem dX5_gives_87 : decode cX5_gives 87 = .ok (.getfield 26, 3) := by decide +kernel
theorem dX5_gives_90 : decode cX5_gives 90 = .ok (.iload 4, 2) := by decide +kernel
theorem dX5_gives_92 : decode cX5_gives 92 = .ok (.iconst 1, 1) := by decide +kernel
theorem dX5_gives_93 : decode cX5_gives 93 = .ok (.isub, 1) := by decide +kernel
theorem dX5_gives_94 : decode cX5_gives 94 = .ok (.iaload, 1) := by decide +kernel
theorem dX5_gives_95 : decode cX5_gives 95 = .ok (.ifCond .ne 7, 3) := by decide +kernel
theorem dX5_gives_98 : decode cX5_gives 98 = .ok (.iconst 1, 1) := by decide +kernel
theorem dX5_gives_99 : decode cX5_gives 99 = .ok (.goto 4, 3) := by decide +kernel
theorem dX5_gives_102 : decode cX5_gives 102 = .ok (.iconst 0, 1) := by decide +kernel
theorem dX5_gives_103 : decode cX5_gives 103 = .ok (.iastore, 1) := by decide +kernel
theorem dX5_gives_104 : decode cX5_gives 104 = .ok (.goto 46, 3) := by decide +kernel
theorem dX5_gives_107 : decode cX5_gives 107 = .ok (.iload 4, 2) := by decide +kernel
theorem dX5_gives_109 : decode cX5_gives 109 = .ok (.iconst 2, 1) := by decide +kernel
theorem dX5_gives_110 : decode cX5_gives 110 = .ok (.if_icmp .lt 40, 3) := by decide +kernel
theorem dX5_gives_113 : decode cX5_gives 113 = .ok (.iinc 4 (-1), 3) := by decide +kernel
theorem dX5_gives_116 : decode cX5_gives 116 = .ok (.aload_n 0, 1) := by decide +kernel
theorem dX5_gives_117 : decode cX5_gives 117 = .ok (.getfield 26, 3) := by decide +kernel
theorem dX5_gives_120 : decode cX5_gives 120 = .ok (.iload 4, 2) := by decide +kernel
theorem dX5_gives_122 : decode cX5_gives 122 = .ok (.iconst 1, 1) := by decide +kernel
theorem dX5_gives_123 : decode cX5_gives 123 = .ok (.isub, 1) := by decide +kernel
theorem dX5_gives_124 : decode cX5_gives 124 = .ok (.iload 6, 2) := by decide +kernel
theorem dX5_gives_126 : decode cX5_gives 126 = .ok (.sipush 20000, 3) := by decide +kernel
theorem dX5_gives_129 : decode cX5_gives 129 = .ok (.isub, 1) := by decide +kernel
theorem dX5_gives_130 : decode cX5_gives 130 = .ok (.aload_n 0, 1) := by decide +kernel
theorem dX5_gives_131 : decode cX5_gives 131 = .ok (.getfield 26, 3) := by decide +kernel
theorem dX5_gives_134 : decode cX5_gives 134 = .ok (.iload 4, 2) := by decide +kernel
theorem dX5_gives_136 : decode cX5_gives 136 = .ok (.iconst 1, 1) := by decide +kernel
theorem dX5_gives_137 : decode cX5_gives 137 = .ok (.isub, 1) := by decide +kernel
theorem dX5_gives_138 : decode cX5_gives 138 = .ok (.iaload, 1) := by decide +kernel
theorem dX5_gives_139 : decode cX5_gives 139 = .ok (.aload_n 0, 1) := by decide +kernel
theorem dX5_gives_140 : decode cX5_gives 140 = .ok (.getfield 26, 3) := by decide +kernel
theorem dX5_gives_143 : decode cX5_gives 143 = .ok (.iload 4, 2) := by decide +kernel
theorem dX5_gives_145 : decode cX5_gives 145 = .ok (.iaload, 1) := by decide +kernel
theorem dX5_gives_146 : decode cX5_gives 146 = .ok (.invokestatic 33, 3) := by decide +kernel
theorem dX5_gives_149 : decode cX5_gives 149 = .ok (.iastore, 1) := by decide +kernel
theorem dX5_gives_150 : decode cX5_gives 150 = .ok (.iinc 5 1, 3) := by decide +kernel
theorem dX5_gives_153 : decode cX5_gives 153 = .ok (.goto (-147), 3) := by decide +kernel
theorem dX5_gives_156 : decode cX5_gives 156 = .ok (.iload 4, 2) := by decide +kernel
theorem dX5_gives_158 : decode cX5_gives 158 = .ok (.ifCond .le 12, 3) := by decide +kernel
theorem dX5_gives_161 : decode cX5_gives 161 = .ok (.aload_n 0, 1) := by decide +kernel
theorem dX5_gives_162 : decode cX5_gives 162 = .ok (.getfield 26, 3) := by decide +kernel
theorem dX5_gives_165 : decode cX5_gives 165 = .ok (.iconst 0, 1) := by decide +kernel
theorem dX5_gives_166 : decode cX5_gives 166 = .ok (.iaload, 1) := by decide +kernel
theorem dX5_gives_167 : decode cX5_gives 167 = .ok (.goto 4, 3) := by decide +kernel
theorem dX5_gives_170 : decode cX5_gives 170 = .ok (.iconst 0, 1) := by decide +kernel
theorem dX5_gives_171 : decode cX5_gives 171 = .ok (.ireturn, 1) := by decide +kernel
theorem dX5_leaf_0 : decode cX5_leaf 0 = .ok (.iload_n 0, 1) := by decide +kernel
theorem dX5_leaf_1 : decode cX5_leaf 1 = .ok (.tableswitch 33 10000 10002 #[27, 29, 31], 27) := by decide +kernel
theorem dX5_leaf_28 : decode cX5_leaf 28 = .ok (.iload_n 1, 1) := by decide +kernel
theorem dX5_leaf_29 : decode cX5_leaf 29 = .ok (.ireturn, 1) := by decide +kernel
theorem dX5_leaf_30 : decode cX5_leaf 30 = .ok (.iload_n 2, 1) := by decide +kernel
theorem dX5_leaf_31 : decode cX5_leaf 31 = .ok (.ireturn, 1) := by decide +kernel
theorem dX5_leaf_32 : decode cX5_leaf 32 = .ok (.iload_n 3, 1) := by decide +kernel
theorem dX5_leaf_33 : decode cX5_leaf 33 = .ok (.ireturn, 1) := by decide +kernel
theorem dX5_leaf_34 : decode cX5_leaf 34 = .ok (.iload_n 0, 1) := by decide +kernel
theorem dX5_leaf_35 : decode cX5_leaf 35 = .ok (.ireturn, 1) := by decide +kernel
theorem dX5_joined_0 : decode cX5_joined 0 = .ok (.iload_n 0, 1) := by decide +kernel
theorem dX5_joined_1 : decode cX5_joined 1 = .ok (.tableswitch 186 38 62 #[172, 186, 186, 186, 123, 115, 186, 119, 186, 127, 186, 186, 186, 186, 186, 186, 186, 186, 186, 186, 186, 186, 139, 150, 161], 115) := by decide +kernel
theorem dX5_joined_116 : decode cX5_joined 116 = .ok (.iload_n 1, 1) := by decide +kernel
theorem dX5_joined_117 : decode cX5_joined 117 = .ok (.iload_n 2, 1) := by decide +kernel
theorem dX5_joined_118 : decode cX5_joined 118 = .ok (.iadd, 1) := by decide +kernel
theorem dX5_joined_119 : decode cX5_joined 119 = .ok (.ireturn, 1) := by decide +kernel
theorem dX5_joined_120 : decode cX5_joined 120 = .ok (.iload_n 1, 1) := by decide +kernel
theorem dX5_joined_121 : decode cX5_joined 121 = .ok (.iload_n 2, 1) := by decide +kernel
theorem dX5_joined_122 : decode cX5_joined 122 = .ok (.isub, 1) := by decide +kernel
theorem dX5_joined_123 : decode cX5_joined 123 = .ok (.ireturn, 1) := by decide +kernel
theorem dX5_joined_124 : decode cX5_joined 124 = .ok (.iload_n 1, 1) := by decide +kernel
theorem dX5_joined_125 : decode cX5_joined 125 = .ok (.iload_n 2, 1) := by decide +kernel
theorem dX5_joined_126 : decode cX5_joined 126 = .ok (.imul, 1) := by decide +kernel
theorem dX5_joined_127 : decode cX5_joined 127 = .ok (.ireturn, 1) := by decide +kernel
theorem dX5_joined_128 : decode cX5_joined 128 = .ok (.iload_n 2, 1) := by decide +kernel
theorem dX5_joined_129 : decode cX5_joined 129 = .ok (.ifCond .ne 7, 3) := by decide +kernel
theorem dX5_joined_132 : decode cX5_joined 132 = .ok (.iconst 0, 1) := by decide +kernel
theorem dX5_joined_133 : decode cX5_joined 133 = .ok (.goto 6, 3) := by decide +kernel
theorem dX5_joined_136 : decode cX5_joined 136 = .ok (.iload_n 1, 1) := by decide +kernel
theorem dX5_joined_137 : decode cX5_joined 137 = .ok (.iload_n 2, 1) := by decide +kernel
theorem dX5_joined_138 : decode cX5_joined 138 = .ok (.idiv, 1) := by decide +kernel
theorem dX5_joined_139 : decode cX5_joined 139 = .ok (.ireturn, 1) := by decide +kernel
theorem dX5_joined_140 : decode cX5_joined 140 = .ok (.iload_n 1, 1) := by decide +kernel
theorem dX5_joined_141 : decode cX5_joined 141 = .ok (.iload_n 2, 1) := by decide +kernel
theorem dX5_joined_142 : decode cX5_joined 142 = .ok (.if_icmp .ge 7, 3) := by decide +kernel
theorem dX5_joined_145 : decode cX5_joined 145 = .ok (.iconst 1, 1) := by decide +kernel
theorem dX5_joined_146 : decode cX5_joined 146 = .ok (.goto 4, 3) := by decide +kernel
theorem dX5_joined_149 : decode cX5_joined 149 = .ok (.iconst 0, 1) := by decide +kernel
theorem dX5_joined_150 : decode cX5_joined 150 = .ok (.ireturn, 1) := by decide +kernel
theorem dX5_joined_151 : decode cX5_joined 151 = .ok (.iload_n 1, 1) := by decide +kernel
theorem dX5_joined_152 : decode cX5_joined 152 = .ok (.iload_n 2, 1) := by decide +kernel
theorem dX5_joined_153 : decode cX5_joined 153 = .ok (.if_icmp .ne 7, 3) := by decide +kernel
theorem dX5_joined_156 : decode cX5_joined 156 = .ok (.iconst 1, 1) := by decide +kernel
theorem dX5_joined_157 : decode cX5_joined 157 = .ok (.goto 4, 3) := by decide +kernel
theorem dX5_joined_160 : decode cX5_joined 160 = .ok (.iconst 0, 1) := by decide +kernel
theorem dX5_joined_161 : decode cX5_joined 161 = .ok (.ireturn, 1) := by decide +kernel
theorem dX5_joined_162 : decode cX5_joined 162 = .ok (.iload_n 1, 1) := by decide +kernel
theorem dX5_joined_163 : decode cX5_joined 163 = .ok (.iload_n 2, 1) := by decide +kernel
theorem dX5_joined_164 : decode cX5_joined 164 = .ok (.if_icmp .le 7, 3) := by decide +kernel
theorem dX5_joined_167 : decode cX5_joined 167 = .ok (.iconst 1, 1) := by decide +kernel
theorem dX5_joined_168 : decode cX5_joined 168 = .ok (.goto 4, 3) := by decide +kernel
theorem dX5_joined_171 : decode cX5_joined 171 = .ok (.iconst 0, 1) := by decide +kernel
theorem dX5_joined_172 : decode cX5_joined 172 = .ok (.ireturn, 1) := by decide +kernel
theorem dX5_joined_173 : decode cX5_joined 173 = .ok (.iload_n 1, 1) := by decide +kernel
theorem dX5_joined_174 : decode cX5_joined 174 = .ok (.ifCond .eq 11, 3) := by decide +kernel
theorem dX5_joined_177 : decode cX5_joined 177 = .ok (.iload_n 2, 1) := by decide +kernel
theorem dX5_joined_178 : decode cX5_joined 178 = .ok (.ifCond .eq 7, 3) := by decide +kernel
theorem dX5_joined_181 : decode cX5_joined 181 = .ok (.iconst 1, 1) := by decide +kernel
theorem dX5_joined_182 : decode cX5_joined 182 = .ok (.goto 4, 3) := by decide +kernel
theorem dX5_joined_185 : decode cX5_joined 185 = .ok (.iconst 0, 1) := by decide +kernel
theorem dX5_joined_186 : decode cX5_joined 186 = .ok (.ireturn, 1) := by decide +kernel
theorem dX5_joined_187 : decode cX5_joined 187 = .ok (.iload_n 1, 1) := by decide +kernel
theorem dX5_joined_188 : decode cX5_joined 188 = .ok (.ifCond .ne 7, 3) := by decide +kernel
theorem dX5_joined_191 : decode cX5_joined 191 = .ok (.iload_n 2, 1) := by decide +kernel
theorem dX5_joined_192 : decode cX5_joined 192 = .ok (.ifCond .eq 7, 3) := by decide +kernel
theorem dX5_joined_195 : decode cX5_joined 195 = .ok (.iconst 1, 1) := by decide +kernel
theorem dX5_joined_196 : decode cX5_joined 196 = .ok (.goto 4, 3) := by decide +kernel
theorem dX5_joined_199 : decode cX5_joined 199 = .ok (.iconst 0, 1) := by decide +kernel
theorem dX5_joined_200 : decode cX5_joined 200 = .ok (.ireturn, 1) := by decide +kernel
theorem dX6_init_0 : decode cX6_init 0 = .ok (.aload_n 0, 1) := by decide +kernel
theorem dX6_init_1 : decode cX6_init 1 = .ok (.invokespecial 3, 3) := by decide +kernel
theorem dX6_init_4 : decode cX6_init 4 = .ok (.aload_n 0, 1) := by decide +kernel
theorem dX6_init_5 : decode cX6_init 5 = .ok (.new 9, 3) := by decide +kernel
theorem dX6_init_8 : decode cX6_init 8 = .ok (.dup, 1) := by decide +kernel
theorem dX6_init_9 : decode cX6_init 9 = .ok (.invokespecial 11, 3) := by decide +kernel
theorem dX6_init_12 : decode cX6_init 12 = .ok (.putfield 12, 3) := by decide +kernel
theorem dX6_init_15 : decode cX6_init 15 = .ok (.aload_n 0, 1) := by decide +kernel
theorem dX6_init_16 : decode cX6_init 16 = .ok (.new 9, 3) := by decide +kernel
theorem dX6_init_19 : decode cX6_init 19 = .ok (.dup, 1) := by decide +kernel
theorem dX6_init_20 : decode cX6_init 20 = .ok (.invokespecial 11, 3) := by decide +kernel
theorem dX6_init_23 : decode cX6_init 23 = .ok (.putfield 16, 3) := by decide +kernel
theorem dX6_init_26 : decode cX6_init 26 = .ok (.aload_n 0, 1) := by decide +kernel
theorem dX6_init_27 : decode cX6_init 27 = .ok (.new 9, 3) := by decide +kernel
theorem dX6_init_30 : decode cX6_init 30 = .ok (.dup, 1) := by decide +kernel
theorem dX6_init_31 : decode cX6_init 31 = .ok (.invokespecial 11, 3) := by decide +kernel
theorem dX6_init_34 : decode cX6_init 34 = .ok (.putfield 19, 3) := by decide +kernel
theorem dX6_init_37 : decode cX6_init 37 = .ok (.aload_n 0, 1) := by decide +kernel
theorem dX6_init_38 : decode cX6_init 38 = .ok (.new 22, 3) := by decide +kernel
theorem dX6_init_41 : decode cX6_init 41 = .ok (.dup, 1) := by decide +kernel
theorem dX6_init_42 : decode cX6_init 42 = .ok (.invokespecial 24, 3) := by decide +kernel
theorem dX6_init_45 : decode cX6_init 45 = .ok (.putfield 25, 3) := by decide +kernel
theorem dX6_init_48 : decode cX6_init 48 = .ok (.aload_n 0, 1) := by decide +kernel
theorem dX6_init_49 : decode cX6_init 49 = .ok (.iconst 4, 1) := by decide +kernel
theorem dX6_init_50 : decode cX6_init 50 = .ok (.anewarray 29, 3) := by decide +kernel
theorem dX6_init_53 : decode cX6_init 53 = .ok (.putfield 31, 3) := by decide +kernel
theorem dX6_init_56 : decode cX6_init 56 = .ok (.aload_n 0, 1) := by decide +kernel
theorem dX6_init_57 : decode cX6_init 57 = .ok (.iconst 5, 1) := by decide +kernel
theorem dX6_init_58 : decode cX6_init 58 = .ok (.anewarray 35, 3) := by decide +kernel
theorem dX6_init_61 : decode cX6_init 61 = .ok (.putfield 37, 3) := by decide +kernel
theorem dX6_init_64 : decode cX6_init 64 = .ok (.aload_n 0, 1) := by decide +kernel
theorem dX6_init_65 : decode cX6_init 65 = .ok (.bipush 96, 2) := by decide +kernel
theorem dX6_init_67 : decode cX6_init 67 = .ok (.newarray .byte, 2) := by decide +kernel
theorem dX6_init_69 : decode cX6_init 69 = .ok (.putfield 41, 3) := by decide +kernel
theorem dX6_init_72 : decode cX6_init 72 = .ok (.aload_n 0, 1) := by decide +kernel
theorem dX6_init_73 : decode cX6_init 73 = .ok (.bipush 60, 2) := by decide +kernel
theorem dX6_init_75 : decode cX6_init 75 = .ok (.newarray .int, 2) := by decide +kernel
theorem dX6_init_77 : decode cX6_init 77 = .ok (.putfield 45, 3) := by decide +kernel
theorem dX6_init_80 : decode cX6_init 80 = .ok (.iconst 0, 1) := by decide +kernel
theorem dX6_init_81 : decode cX6_init 81 = .ok (.istore_n 1, 1) := by decide +kernel
theorem dX6_init_82 : decode cX6_init 82 = .ok (.iload_n 1, 1) := by decide +kernel
theorem dX6_init_83 : decode cX6_init 83 = .ok (.iconst 4, 1) := by decide +kernel
theorem dX6_init_84 : decode cX6_init 84 = .ok (.if_icmp .ge 22, 3) := by decide +kernel
theorem dX6_init_87 : decode cX6_init 87 = .ok (.aload_n 0, 1) := by decide +kernel
theorem dX6_init_88 : decode cX6_init 88 = .ok (.getfield 31, 3) := by decide +kernel
theorem dX6_init_91 : decode cX6_init 91 = .ok (.iload_n 1, 1) := by decide +kernel
theorem dX6_init_92 : decode cX6_init 92 = .ok (.new 29, 3) := by decide +kernel
theorem dX6_init_95 : decode cX6_init 95 = .ok (.dup, 1) := by decide +kernel
theorem dX6_init_96 : decode cX6_init 96 = .ok (.invokespecial 49, 3) := by decide +kernel
theorem dX6_init_99 : decode cX6_init 99 = .ok (.aastore, 1) := by decide +kernel
theorem dX6_init_100 : decode cX6_init 100 = .ok (.iinc 1 1, 3) := by decide +kernel
theorem dX6_init_103 : decode cX6_init 103 = .ok (.goto (-21), 3) := by decide +kernel
theorem dX6_init_106 : decode cX6_init 106 = .ok (.iconst 0, 1) := by decide +kernel
theorem dX6_init_107 : decode cX6_init 107 = .ok (.istore_n 1, 1) := by decide +kernel
theorem dX6_init_108 : decode cX6_init 108 = .ok (.iload_n 1, 1) := by decide +kernel
theorem dX6_init_109 : decode cX6_init 109 = .ok (.iconst 5, 1) := by decide +kernel
theorem dX6_init_110 : decode cX6_init 110 = .ok (.if_icmp .ge 22, 3) := by decide +kernel
theorem dX6_init_113 : decode cX6_init 113 = .ok (.aload_n 0, 1) := by decide +kernel
theorem dX6_init_114 : decode cX6_init 114 = .ok (.getfield 37, 3) := by decide +kernel
theorem dX6_init_117 : decode cX6_init 117 = .ok (.iload_n 1, 1) := by decide +kernel
theorem dX6_init_118 : decode cX6_init 118 = .ok (.new 35, 3) := by decide +kernel
theorem dX6_init_121 : decode cX6_init 121 = .ok (.dup, 1) := by decide +kernel
theorem dX6_init_122 : decode cX6_init 122 = .ok (.invokespecial 50, 3) := by decide +kernel
theorem dX6_init_125 : decode cX6_init 125 = .ok (.aastore, 1) := by decide +kernel
theorem dX6_init_126 : decode cX6_init 126 = .ok (.iinc 1 1, 3) := by decide +kernel
theorem dX6_init_129 : decode cX6_init 129 = .ok (.goto (-21), 3) := by decide +kernel
theorem dX6_init_132 : decode cX6_init 132 = .ok (.return_, 1) := by decide +kernel
theorem dX6_person_0 : decode cX6_person 0 = .ok (.iload_n 1, 1) := by decide +kernel
theorem dX6_person_1 : decode cX6_person 1 = .ok (.bipush 6, 2) := by decide +kernel
theorem dX6_person_3 : decode cX6_person 3 = .ok (.invokestatic 51, 3) := by decide +kernel
theorem dX6_person_6 : decode cX6_person 6 = .ok (.ifCond .eq 21, 3) := by decide +kernel
theorem dX6_person_9 : decode cX6_person 9 = .ok (.iload_n 2, 1) := by decide +kernel
theorem dX6_person_10 : decode cX6_person 10 = .ok (.bipush 30, 2) := by decide +kernel
theorem dX6_person_12 : decode cX6_person 12 = .ok (.invokestatic 51, 3) := by decide +kernel
theorem dX6_person_15 : decode cX6_person 15 = .ok (.ifCond .eq 12, 3) := by decide +kernel
theorem dX6_person_18 : decode cX6_person 18 = .ok (.iload_n 3, 1) := by decide +kernel
theorem dX6_person_19 : decode cX6_person 19 = .ok (.bipush 100, 2) := by decide +kernel
theorem dX6_person_21 : decode cX6_person 21 = .ok (.invokestatic 51, 3) := by decide +kernel
theorem dX6_person_24 : decode cX6_person 24 = .ok (.ifCond .ne 6, 3) := by decide +kernel
theorem dX6_person_27 : decode cX6_person 27 = .ok (.ldc 55, 2) := by decide +kernel
theorem dX6_person_29 : decode cX6_person 29 = .ok (.ireturn, 1) := by decide +kernel
theorem dX6_person_30 : decode cX6_person 30 = .ok (.aload_n 0, 1) := by decide +kernel
theorem dX6_person_31 : decode cX6_person 31 = .ok (.getfield 12, 3) := by decide +kernel
theorem dX6_person_34 : decode cX6_person 34 = .ok (.iload_n 2, 1) := by decide +kernel
theorem dX6_person_35 : decode cX6_person 35 = .ok (.invokevirtual 56, 3) := by decide +kernel
theorem dX6_person_38 : decode cX6_person 38 = .ok (.ifCond .lt 6, 3) := by decide +kernel
theorem dX6_person_41 : decode cX6_person 41 = .ok (.ldc 60, 2) := by decide +kernel
theorem dX6_person_43 : decode cX6_person 43 = .ok (.ireturn, 1) := by decide +kernel
theorem dX6_person_44 : decode cX6_person 44 = .ok (.aload_n 0, 1) := by decide +kernel
theorem dX6_person_45 : decode cX6_person 45 = .ok (.getfield 12, 3) := by decide +kernel
theorem dX6_person_48 : decode cX6_person 48 = .ok (.getfield 61, 3) := by decide +kernel
theorem dX6_person_51 : decode cX6_person 51 = .ok (.bipush 10, 2) := by decide +kernel
theorem dX6_person_53 : decode cX6_person 53 = .ok (.if_icmp .lt 8, 3) := by decide +kernel
theorem dX6_person_56 : decode cX6_person 56 = .ok (.ldc 65, 2) := by decide +kernel
theorem dX6_person_58 : decode cX6_person 58 = .ok (.goto 13, 3) := by decide +kernel
theorem dX6_person_61 : decode cX6_person 61 = .ok (.aload_n 0, 1) := by decide +kernel
theorem dX6_person_62 : decode cX6_person 62 = .ok (.getfield 12, 3) := by decide +kernel
theorem dX6_person_65 : decode cX6_person 65 = .ok (.iload_n 1, 1) := by decide +kernel
theorem dX6_person_66 : decode cX6_person 66 = .ok (.iload_n 2, 1) := by decide +kernel
theorem dX6_person_67 : decode cX6_person 67 = .ok (.iload_n 3, 1) := by decide +kernel
theorem dX6_person_68 : decode cX6_person 68 = .ok (.invokevirtual 66, 3) := by decide +kernel
theorem dX6_person_71 : decode cX6_person 71 = .ok (.ireturn, 1) := by decide +kernel
theorem dX6_told_0 : decode cX6_told 0 = .ok (.aload_n 0, 1) := by decide +kernel
theorem dX6_told_1 : decode cX6_told 1 = .ok (.getfield 12, 3) := by decide +kernel
theorem dX6_told_4 : decode cX6_told 4 = .ok (.iload_n 1, 1) := by decide +kernel
