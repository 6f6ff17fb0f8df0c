theorem dX6_told_5 : decode cX6_told 5 = .ok (.invokevirtual 70, 3) := by decide +kernel
theorem dX6_told_8 : decode cX6_told 8 = .ok (.ifCond .ne 6, 3) := by decide +kernel
theorem dX6_told_11 : decode cX6_told 11 = .ok (.ldc 55, 2) := by decide +kernel
theorem dX6_told_13 : decode cX6_told 13 = .ok (.ireturn, 1) := by decide +kernel
theorem dX6_told_14 : decode cX6_told 14 = .ok (.aload_n 0, 1) := by decide +kernel
theorem dX6_told_15 : decode cX6_told 15 = .ok (.getfield 12, 3) := by decide +kernel
theorem dX6_told_18 : decode cX6_told 18 = .ok (.getfield 74, 3) := by decide +kernel
theorem dX6_told_21 : decode cX6_told 21 = .ok (.iload_n 1, 1) := by decide +kernel
theorem dX6_told_22 : decode cX6_told 22 = .ok (.aaload, 1) := by decide +kernel
theorem dX6_told_23 : decode cX6_told 23 = .ok (.astore_n 3, 1) := by decide +kernel
theorem dX6_told_24 : decode cX6_told 24 = .ok (.iload_n 2, 1) := by decide +kernel
theorem dX6_told_25 : decode cX6_told 25 = .ok (.tableswitch 120 0 8 #[51, 56, 61, 66, 71, 76, 81, 90, 115], 51) := by decide +kernel
theorem dX6_told_76 : decode cX6_told 76 = .ok (.aload_n 3, 1) := by decide +kernel
theorem dX6_told_77 : decode cX6_told 77 = .ok (.getfield 78, 3) := by decide +kernel
theorem dX6_told_80 : decode cX6_told 80 = .ok (.ireturn, 1) := by decide +kernel
theorem dX6_told_81 : decode cX6_told 81 = .ok (.aload_n 3, 1) := by decide +kernel
theorem dX6_told_82 : decode cX6_told 82 = .ok (.getfield 83, 3) := by decide +kernel
theorem dX6_told_85 : decode cX6_told 85 = .ok (.ireturn, 1) := by decide +kernel
theorem dX6_told_86 : decode cX6_told 86 = .ok (.aload_n 3, 1) := by decide +kernel
theorem dX6_told_87 : decode cX6_told 87 = .ok (.getfield 86, 3) := by decide +kernel
theorem dX6_told_90 : decode cX6_told 90 = .ok (.ireturn, 1) := by decide +kernel
theorem dX6_told_91 : decode cX6_told 91 = .ok (.aload_n 3, 1) := by decide +kernel
theorem dX6_told_92 : decode cX6_told 92 = .ok (.getfield 89, 3) := by decide +kernel
theorem dX6_told_95 : decode cX6_told 95 = .ok (.ireturn, 1) := by decide +kernel
theorem dX6_told_96 : decode cX6_told 96 = .ok (.aload_n 3, 1) := by decide +kernel
theorem dX6_told_97 : decode cX6_told 97 = .ok (.getfield 92, 3) := by decide +kernel
theorem dX6_told_100 : decode cX6_told 100 = .ok (.ireturn, 1) := by decide +kernel
theorem dX6_told_101 : decode cX6_told 101 = .ok (.aload_n 3, 1) := by decide +kernel
theorem dX6_told_102 : decode cX6_told 102 = .ok (.getfield 95, 3) := by decide +kernel
theorem dX6_told_105 : decode cX6_told 105 = .ok (.ireturn, 1) := by decide +kernel
theorem dX6_told_106 : decode cX6_told 106 = .ok (.aload_n 0, 1) := by decide +kernel
theorem dX6_told_107 : decode cX6_told 107 = .ok (.getfield 12, 3) := by decide +kernel
theorem dX6_told_110 : decode cX6_told 110 = .ok (.aload_n 3, 1) := by decide +kernel
theorem dX6_told_111 : decode cX6_told 111 = .ok (.invokevirtual 98, 3) := by decide +kernel
theorem dX6_told_114 : decode cX6_told 114 = .ok (.ireturn, 1) := by decide +kernel
theorem dX6_told_115 : decode cX6_told 115 = .ok (.aload_n 0, 1) := by decide +kernel
theorem dX6_told_116 : decode cX6_told 116 = .ok (.getfield 12, 3) := by decide +kernel
theorem dX6_told_119 : decode cX6_told 119 = .ok (.iload_n 1, 1) := by decide +kernel
theorem dX6_told_120 : decode cX6_told 120 = .ok (.aload_n 0, 1) := by decide +kernel
theorem dX6_told_121 : decode cX6_told 121 = .ok (.getfield 12, 3) := by decide +kernel
theorem dX6_told_124 : decode cX6_told 124 = .ok (.iconst 0, 1) := by decide +kernel
theorem dX6_told_125 : decode cX6_told 125 = .ok (.invokevirtual 102, 3) := by decide +kernel
theorem dX6_told_128 : decode cX6_told 128 = .ok (.invokevirtual 105, 3) := by decide +kernel
theorem dX6_told_131 : decode cX6_told 131 = .ok (.ifCond .eq 7, 3) := by decide +kernel
theorem dX6_told_134 : decode cX6_told 134 = .ok (.iconst 1, 1) := by decide +kernel
theorem dX6_told_135 : decode cX6_told 135 = .ok (.goto 4, 3) := by decide +kernel
theorem dX6_told_138 : decode cX6_told 138 = .ok (.iconst 0, 1) := by decide +kernel
theorem dX6_told_139 : decode cX6_told 139 = .ok (.ireturn, 1) := by decide +kernel
theorem dX6_told_140 : decode cX6_told 140 = .ok (.aload_n 3, 1) := by decide +kernel
theorem dX6_told_141 : decode cX6_told 141 = .ok (.invokevirtual 108, 3) := by decide +kernel
theorem dX6_told_144 : decode cX6_told 144 = .ok (.ireturn, 1) := by decide +kernel
theorem dX6_told_145 : decode cX6_told 145 = .ok (.ldc 55, 2) := by decide +kernel
theorem dX6_told_147 : decode cX6_told 147 = .ok (.ireturn, 1) := by decide +kernel
theorem dX6_as_0 : decode cX6_as 0 = .ok (.aload_n 0, 1) := by decide +kernel
theorem dX6_as_1 : decode cX6_as 1 = .ok (.getfield 12, 3) := by decide +kernel
theorem dX6_as_4 : decode cX6_as 4 = .ok (.iload_n 1, 1) := by decide +kernel
theorem dX6_as_5 : decode cX6_as 5 = .ok (.invokevirtual 70, 3) := by decide +kernel
theorem dX6_as_8 : decode cX6_as 8 = .ok (.ifCond .eq 12, 3) := by decide +kernel
theorem dX6_as_11 : decode cX6_as 11 = .ok (.iload_n 2, 1) := by decide +kernel
theorem dX6_as_12 : decode cX6_as 12 = .ok (.bipush 6, 2) := by decide +kernel
theorem dX6_as_14 : decode cX6_as 14 = .ok (.invokestatic 51, 3) := by decide +kernel
theorem dX6_as_17 : decode cX6_as 17 = .ok (.ifCond .ne 6, 3) := by decide +kernel
theorem dX6_as_20 : decode cX6_as 20 = .ok (.ldc 55, 2) := by decide +kernel
theorem dX6_as_22 : decode cX6_as 22 = .ok (.ireturn, 1) := by decide +kernel
theorem dX6_as_23 : decode cX6_as 23 = .ok (.aload_n 0, 1) := by decide +kernel
theorem dX6_as_24 : decode cX6_as 24 = .ok (.getfield 12, 3) := by decide +kernel
theorem dX6_as_27 : decode cX6_as 27 = .ok (.getfield 74, 3) := by decide +kernel
theorem dX6_as_30 : decode cX6_as 30 = .ok (.iload_n 1, 1) := by decide +kernel
theorem dX6_as_31 : decode cX6_as 31 = .ok (.aaload, 1) := by decide +kernel
theorem dX6_as_32 : decode cX6_as 32 = .ok (.astore_n 3, 1) := by decide +kernel
theorem dX6_as_33 : decode cX6_as 33 = .ok (.aload_n 3, 1) := by decide +kernel
theorem dX6_as_34 : decode cX6_as 34 = .ok (.iload_n 2, 1) := by decide +kernel
theorem dX6_as_35 : decode cX6_as 35 = .ok (.invokevirtual 112, 3) := by decide +kernel
theorem dX6_as_38 : decode cX6_as 38 = .ok (.ifCond .eq 10, 3) := by decide +kernel
theorem dX6_as_41 : decode cX6_as 41 = .ok (.aload_n 3, 1) := by decide +kernel
theorem dX6_as_42 : decode cX6_as 42 = .ok (.getfield 86, 3) := by decide +kernel
theorem dX6_as_45 : decode cX6_as 45 = .ok (.goto 5, 3) := by decide +kernel
theorem dX6_as_48 : decode cX6_as 48 = .ok (.ldc 115, 2) := by decide +kernel
theorem dX6_as_50 : decode cX6_as 50 = .ok (.ireturn, 1) := by decide +kernel
theorem dX6_turns_0 : decode cX6_turns 0 = .ok (.aload_n 0, 1) := by decide +kernel
theorem dX6_turns_1 : decode cX6_turns 1 = .ok (.getfield 12, 3) := by decide +kernel
theorem dX6_turns_4 : decode cX6_turns 4 = .ok (.iload_n 1, 1) := by decide +kernel
theorem dX6_turns_5 : decode cX6_turns 5 = .ok (.invokevirtual 70, 3) := by decide +kernel
theorem dX6_turns_8 : decode cX6_turns 8 = .ok (.ifCond .eq 12, 3) := by decide +kernel
theorem dX6_turns_11 : decode cX6_turns 11 = .ok (.iload_n 2, 1) := by decide +kernel
theorem dX6_turns_12 : decode cX6_turns 12 = .ok (.bipush 6, 2) := by decide +kernel
theorem dX6_turns_14 : decode cX6_turns 14 = .ok (.invokestatic 51, 3) := by decide +kernel
theorem dX6_turns_17 : decode cX6_turns 17 = .ok (.ifCond .ne 6, 3) := by decide +kernel
theorem dX6_turns_20 : decode cX6_turns 20 = .ok (.ldc 55, 2) := by decide +kernel
theorem dX6_turns_22 : decode cX6_turns 22 = .ok (.ireturn, 1) := by decide +kernel
theorem dX6_turns_23 : decode cX6_turns 23 = .ok (.aload_n 0, 1) := by decide +kernel
theorem dX6_turns_24 : decode cX6_turns 24 = .ok (.getfield 12, 3) := by decide +kernel
theorem dX6_turns_27 : decode cX6_turns 27 = .ok (.getfield 74, 3) := by decide +kernel
theorem dX6_turns_30 : decode cX6_turns 30 = .ok (.iload_n 1, 1) := by decide +kernel
theorem dX6_turns_31 : decode cX6_turns 31 = .ok (.aaload, 1) := by decide +kernel
theorem dX6_turns_32 : decode cX6_turns 32 = .ok (.astore_n 3, 1) := by decide +kernel
theorem dX6_turns_33 : decode cX6_turns 33 = .ok (.aload_n 3, 1) := by decide +kernel
theorem dX6_turns_34 : decode cX6_turns 34 = .ok (.getfield 78, 3) := by decide +kernel
theorem dX6_turns_37 : decode cX6_turns 37 = .ok (.istore 4, 2) := by decide +kernel
theorem dX6_turns_39 : decode cX6_turns 39 = .ok (.aload_n 3, 1) := by decide +kernel
theorem dX6_turns_40 : decode cX6_turns 40 = .ok (.iload_n 2, 1) := by decide +kernel
theorem dX6_turns_41 : decode cX6_turns 41 = .ok (.putfield 78, 3) := by decide +kernel
theorem dX6_turns_44 : decode cX6_turns 44 = .ok (.iload 4, 2) := by decide +kernel
theorem dX6_turns_46 : decode cX6_turns 46 = .ok (.ireturn, 1) := by decide +kernel
theorem dX6_set_0 : decode cX6_set 0 = .ok (.aload_n 0, 1) := by decide +kernel
theorem dX6_set_1 : decode cX6_set 1 = .ok (.getfield 12, 3) := by decide +kernel
theorem dX6_set_4 : decode cX6_set 4 = .ok (.iload_n 1, 1) := by decide +kernel
theorem dX6_set_5 : decode cX6_set 5 = .ok (.invokevirtual 70, 3) := by decide +kernel
theorem dX6_set_8 : decode cX6_set 8 = .ok (.ifCond .ne 6, 3) := by decide +kernel
theorem dX6_set_11 : decode cX6_set 11 = .ok (.ldc 55, 2) := by decide +kernel
theorem dX6_set_13 : decode cX6_set 13 = .ok (.ireturn, 1) := by decide +kernel
theorem dX6_set_14 : decode cX6_set 14 = .ok (.iload_n 2, 1) := by decide +kernel
theorem dX6_set_15 : decode cX6_set 15 = .ok (.tableswitch 110 2 4 #[25, 53, 82], 25) := by decide +kernel
theorem dX6_set_40 : decode cX6_set 40 = .ok (.iload_n 3, 1) := by decide +kernel
theorem dX6_set_41 : decode cX6_set 41 = .ok (.bipush 100, 2) := by decide +kernel
theorem dX6_set_43 : decode cX6_set 43 = .ok (.invokestatic 51, 3) := by decide +kernel
theorem dX6_set_46 : decode cX6_set 46 = .ok (.ifCond .eq 19, 3) := by decide +kernel
theorem dX6_set_49 : decode cX6_set 49 = .ok (.aload_n 0, 1) := by decide +kernel
theorem dX6_set_50 : decode cX6_set 50 = .ok (.getfield 12, 3) := by decide +kernel
theorem dX6_set_53 : decode cX6_set 53 = .ok (.getfield 74, 3) := by decide +kernel
theorem dX6_set_56 : decode cX6_set 56 = .ok (.iload_n 1, 1) := by decide +kernel
theorem dX6_set_57 : decode cX6_set 57 = .ok (.aaload, 1) := by decide +kernel
theorem dX6_set_58 : decode cX6_set 58 = .ok (.iload_n 3, 1) := by decide +kernel
theorem dX6_set_59 : decode cX6_set 59 = .ok (.invokevirtual 116, 3) := by decide +kernel
theorem dX6_set_62 : decode cX6_set 62 = .ok (.goto 5, 3) := by decide +kernel
theorem dX6_set_65 : decode cX6_set 65 = .ok (.ldc 55, 2) := by decide +kernel
theorem dX6_set_67 : decode cX6_set 67 = .ok (.ireturn, 1) := by decide +kernel
theorem dX6_set_68 : decode cX6_set 68 = .ok (.iload_n 3, 1) := by decide +kernel
theorem dX6_set_69 : decode cX6_set 69 = .ok (.sipush 1000, 3) := by decide +kernel
theorem dX6_set_72 : decode cX6_set 72 = .ok (.invokestatic 51, 3) := by decide +kernel
theorem dX6_set_75 : decode cX6_set 75 = .ok (.ifCond .eq 19, 3) := by decide +kernel
theorem dX6_set_78 : decode cX6_set 78 = .ok (.aload_n 0, 1) := by decide +kernel
theorem dX6_set_79 : decode cX6_set 79 = .ok (.getfield 12, 3) := by decide +kernel
theorem dX6_set_82 : decode cX6_set 82 = .ok (.getfield 74, 3) := by decide +kernel
theorem dX6_set_85 : decode cX6_set 85 = .ok (.iload_n 1, 1) := by decide +kernel
theorem dX6_set_86 : decode cX6_set 86 = .ok (.aaload, 1) := by decide +kernel
theorem dX6_set_87 : decode cX6_set 87 = .ok (.iload_n 3, 1) := by decide +kernel
theorem dX6_set_88 : decode cX6_set 88 = .ok (.invokevirtual 119, 3) := by decide +kernel
theorem dX6_set_91 : decode cX6_set 91 = .ok (.goto 5, 3) := by decide +kernel
theorem dX6_set_94 : decode cX6_set 94 = .ok (.ldc 55, 2) := by decide +kernel
theorem dX6_set_96 : decode cX6_set 96 = .ok (.ireturn, 1) := by decide +kernel
theorem dX6_set_97 : decode cX6_set 97 = .ok (.iload_n 3, 1) := by decide +kernel
theorem dX6_set_98 : decode cX6_set 98 = .ok (.bipush 100, 2) := by decide +kernel
theorem dX6_set_100 : decode cX6_set 100 = .ok (.invokestatic 51, 3) := by decide +kernel
theorem dX6_set_103 : decode cX6_set 103 = .ok (.ifCond .eq 19, 3) := by decide +kernel
theorem dX6_set_106 : decode cX6_set 106 = .ok (.aload_n 0, 1) := by decide +kernel
theorem dX6_set_107 : decode cX6_set 107 = .ok (.getfield 12, 3) := by decide +kernel
theorem dX6_set_110 : decode cX6_set 110 = .ok (.getfield 74, 3) := by decide +kernel
theorem dX6_set_113 : decode cX6_set 113 = .ok (.iload_n 1, 1) := by decide +kernel
theorem dX6_set_114 : decode cX6_set 114 = .ok (.aaload, 1) := by decide +kernel
theorem dX6_set_115 : decode cX6_set 115 = .ok (.iload_n 3, 1) := by decide +kernel
theorem dX6_set_116 : decode cX6_set 116 = .ok (.invokevirtual 122, 3) := by decide +kernel
theorem dX6_set_119 : decode cX6_set 119 = .ok (.goto 5, 3) := by decide +kernel
theorem dX6_set_122 : decode cX6_set 122 = .ok (.ldc 55, 2) := by decide +kernel
theorem dX6_set_124 : decode cX6_set 124 = .ok (.ireturn, 1) := by decide +kernel
theorem dX6_set_125 : decode cX6_set 125 = .ok (.ldc 55, 2) := by decide +kernel
theorem dX6_set_127 : decode cX6_set 127 = .ok (.ireturn, 1) := by decide +kernel
theorem dX6_move_0 : decode cX6_move 0 = .ok (.aload_n 0, 1) := by decide +kernel
theorem dX6_move_1 : decode cX6_move 1 = .ok (.getfield 12, 3) := by decide +kernel
theorem dX6_move_4 : decode cX6_move 4 = .ok (.iload_n 1, 1) := by decide +kernel
theorem dX6_move_5 : decode cX6_move 5 = .ok (.invokevirtual 70, 3) := by decide +kernel
theorem dX6_move_8 : decode cX6_move 8 = .ok (.ifCond .eq 12, 3) := by decide +kernel
theorem dX6_move_11 : decode cX6_move 11 = .ok (.iload_n 2, 1) := by decide +kernel
theorem dX6_move_12 : decode cX6_move 12 = .ok (.bipush 30, 2) := by decide +kernel
theorem dX6_move_14 : decode cX6_move 14 = .ok (.invokestatic 51, 3) := by decide +kernel
theorem dX6_move_17 : decode cX6_move 17 = .ok (.ifCond .ne 6, 3) := by decide +kernel
theorem dX6_move_20 : decode cX6_move 20 = .ok (.ldc 55, 2) := by decide +kernel
theorem dX6_move_22 : decode cX6_move 22 = .ok (.ireturn, 1) := by decide +kernel
theorem dX6_move_23 : decode cX6_move 23 = .ok (.aload_n 0, 1) := by decide +kernel
theorem dX6_move_24 : decode cX6_move 24 = .ok (.getfield 12, 3) := by decide +kernel
theorem dX6_move_27 : decode cX6_move 27 = .ok (.iload_n 2, 1) := by decide +kernel
theorem dX6_move_28 : decode cX6_move 28 = .ok (.invokevirtual 56, 3) := by decide +kernel
theorem dX6_move_31 : decode cX6_move 31 = .ok (.istore_n 3, 1) := by decide +kernel
theorem dX6_move_32 : decode cX6_move 32 = .ok (.iload_n 3, 1) := by decide +kernel
theorem dX6_move_33 : decode cX6_move 33 = .ok (.ifCond .lt 11, 3) := by decide +kernel
theorem dX6_move_36 : decode cX6_move 36 = .ok (.iload_n 3, 1) := by decide +kernel
theorem dX6_move_37 : decode cX6_move 37 = .ok (.iload_n 1, 1) := by decide +kernel
theorem dX6_move_38 : decode cX6_move 38 = .ok (.if_icmp .eq 6, 3) := by decide +kernel
theorem dX6_move_41 : decode cX6_move 41 = .ok (.ldc 60, 2) := by decide +kernel
theorem dX6_move_43 : decode cX6_move 43 = .ok (.ireturn, 1) := by decide +kernel
theorem dX6_move_44 : decode cX6_move 44 = .ok (.aload_n 0, 1) := by decide +kernel
theorem dX6_move_45 : decode cX6_move 45 = .ok (.getfield 12, 3) := by decide +kernel
theorem dX6_move_48 : decode cX6_move 48 = .ok (.getfield 74, 3) := by decide +kernel
theorem dX6_move_51 : decode cX6_move 51 = .ok (.iload_n 1, 1) := by decide +kernel
theorem dX6_move_52 : decode cX6_move 52 = .ok (.aaload, 1) := by decide +kernel
theorem dX6_move_53 : decode cX6_move 53 = .ok (.astore 4, 2) := by decide +kernel
theorem dX6_move_55 : decode cX6_move 55 = .ok (.aload 4, 2) := by decide +kernel
theorem dX6_move_57 : decode cX6_move 57 = .ok (.getfield 83, 3) := by decide +kernel
theorem dX6_move_60 : decode cX6_move 60 = .ok (.istore 5, 2) := by decide +kernel
theorem dX6_move_62 : decode cX6_move 62 = .ok (.aload 4, 2) := by decide +kernel
theorem dX6_move_64 : decode cX6_move 64 = .ok (.iload_n 2, 1) := by decide +kernel
theorem dX6_move_65 : decode cX6_move 65 = .ok (.putfield 83, 3) := by decide +kernel
theorem dX6_move_68 : decode cX6_move 68 = .ok (.iload 5, 2) := by decide +kernel
theorem dX6_move_70 : decode cX6_move 70 = .ok (.ireturn, 1) := by decide +kernel
theorem dX6_onSeat_0 : decode cX6_onSeat 0 = .ok (.iload_n 1, 1) := by decide +kernel
theorem dX6_onSeat_1 : decode cX6_onSeat 1 = .ok (.bipush 30, 2) := by decide +kernel
theorem dX6_onSeat_3 : decode cX6_onSeat 3 = .ok (.invokestatic 51, 3) := by decide +kernel
theorem dX6_onSeat_6 : decode cX6_onSeat 6 = .ok (.ifCond .ne 6, 3) := by decide +kernel
theorem dX6_onSeat_9 : decode cX6_onSeat 9 = .ok (.ldc 55, 2) := by decide +kernel
theorem dX6_onSeat_11 : decode cX6_onSeat 11 = .ok (.ireturn, 1) := by decide +kernel
theorem dX6_onSeat_12 : decode cX6_onSeat 12 = .ok (.aload_n 0, 1) := by decide +kernel
theorem dX6_onSeat_13 : decode cX6_onSeat 13 = .ok (.getfield 12, 3) := by decide +kernel
theorem dX6_onSeat_16 : decode cX6_onSeat 16 = .ok (.iload_n 1, 1) := by decide +kernel
theorem dX6_onSeat_17 : decode cX6_onSeat 17 = .ok (.invokevirtual 56, 3) := by decide +kernel
theorem dX6_onSeat_20 : decode cX6_onSeat 20 = .ok (.istore_n 2, 1) := by decide +kernel
theorem dX6_onSeat_21 : decode cX6_onSeat 21 = .ok (.iload_n 2, 1) := by decide +kernel
theorem dX6_onSeat_22 : decode cX6_onSeat 22 = .ok (.ifCond .ge 8, 3) := by decide +kernel
theorem dX6_onSeat_25 : decode cX6_onSeat 25 = .ok (.ldc 125, 2) := by decide +kernel
theorem dX6_onSeat_27 : decode cX6_onSeat 27 = .ok (.goto 4, 3) := by decide +kernel
theorem dX6_onSeat_30 : decode cX6_onSeat 30 = .ok (.iload_n 2, 1) := by decide +kernel
theorem dX6_onSeat_31 : decode cX6_onSeat 31 = .ok (.ireturn, 1) := by decide +kernel
theorem dX6_deal_0 : decode cX6_deal 0 = .ok (.iload_n 1, 1) := by decide +kernel
theorem dX6_deal_1 : decode cX6_deal 1 = .ok (.iconst 1, 1) := by decide +kernel
theorem dX6_deal_2 : decode cX6_deal 2 = .ok (.if_icmp .lt 9, 3) := by decide +kernel
theorem dX6_deal_5 : decode cX6_deal 5 = .ok (.iload_n 1, 1) := by decide +kernel
theorem dX6_deal_6 : decode cX6_deal 6 = .ok (.bipush 10, 2) := by decide +kernel
theorem dX6_deal_8 : decode cX6_deal 8 = .ok (.if_icmp .le 6, 3) := by decide +kernel
theorem dX6_deal_11 : decode cX6_deal 11 = .ok (.ldc 55, 2) := by decide +kernel
theorem dX6_deal_13 : decode cX6_deal 13 = .ok (.ireturn, 1) := by decide +kernel
theorem dX6_deal_14 : decode cX6_deal 14 = .ok (.iload_n 1, 1) := by decide +kernel
theorem dX6_deal_15 : decode cX6_deal 15 = .ok (.bipush 10, 2) := by decide +kernel
theorem dX6_deal_17 : decode cX6_deal 17 = .ok (.aload_n 0, 1) := by decide +kernel
theorem dX6_deal_18 : decode cX6_deal 18 = .ok (.getfield 12, 3) := by decide +kernel
theorem dX6_deal_21 : decode cX6_deal 21 = .ok (.getfield 61, 3) := by decide +kernel
theorem dX6_deal_24 : decode cX6_deal 24 = .ok (.isub, 1) := by decide +kernel
theorem dX6_deal_25 : decode cX6_deal 25 = .ok (.invokestatic 126, 3) := by decide +kernel
theorem dX6_deal_28 : decode cX6_deal 28 = .ok (.istore_n 2, 1) := by decide +kernel
theorem dX6_deal_29 : decode cX6_deal 29 = .ok (.iconst 0, 1) := by decide +kernel
theorem dX6_deal_30 : decode cX6_deal 30 = .ok (.istore_n 3, 1) := by decide +kernel
theorem dX6_deal_31 : decode cX6_deal 31 = .ok (.iload_n 3, 1) := by decide +kernel
theorem dX6_deal_32 : decode cX6_deal 32 = .ok (.iload_n 2, 1) := by decide +kernel
theorem dX6_deal_33 : decode cX6_deal 33 = .ok (.if_icmp .ge 16, 3) := by decide +kernel
theorem dX6_deal_36 : decode cX6_deal 36 = .ok (.aload_n 0, 1) := by decide +kernel
theorem dX6_deal_37 : decode cX6_deal 37 = .ok (.getfield 12, 3) := by decide +kernel
theorem dX6_deal_40 : decode cX6_deal 40 = .ok (.invokevirtual 132, 3) := by decide +kernel
theorem dX6_deal_43 : decode cX6_deal 43 = .ok (.iinc 3 1, 3) := by decide +kernel
theorem dX6_deal_46 : decode cX6_deal 46 = .ok (.goto (-15), 3) := by decide +kernel
theorem dX6_deal_49 : decode cX6_deal 49 = .ok (.iload_n 2, 1) := by decide +kernel
theorem dX6_deal_50 : decode cX6_deal 50 = .ok (.ireturn, 1) := by decide +kernel
theorem dX6_seed_0 : decode cX6_seed 0 = .ok (.aload_n 0, 1) := by decide +kernel
theorem dX6_seed_1 : decode cX6_seed 1 = .ok (.getfield 12, 3) := by decide +kernel
theorem dX6_seed_4 : decode cX6_seed 4 = .ok (.getfield 135, 3) := by decide +kernel
theorem dX6_seed_7 : decode cX6_seed 7 = .ok (.istore_n 2, 1) := by decide +kernel
theorem dX6_seed_8 : decode cX6_seed 8 = .ok (.aload_n 0, 1) := by decide +kernel
theorem dX6_seed_9 : decode cX6_seed 9 = .ok (.getfield 12, 3) := by decide +kernel
theorem dX6_seed_12 : decode cX6_seed 12 = .ok (.iload_n 1, 1) := by decide +kernel
theorem dX6_seed_13 : decode cX6_seed 13 = .ok (.putfield 135, 3) := by decide +kernel
theorem dX6_seed_16 : decode cX6_seed 16 = .ok (.iload_n 2, 1) := by decide +kernel
theorem dX6_seed_17 : decode cX6_seed 17 = .ok (.ireturn, 1) := by decide +kernel
theorem dX6_hall_0 : decode cX6_hall 0 = .ok (.iload_n 1, 1) := by decide +kernel
theorem dX6_hall_1 : decode cX6_hall 1 = .ok (.ifCond .ne 31, 3) := by decide +kernel
theorem dX6_hall_4 : decode cX6_hall 4 = .ok (.iload_n 2, 1) := by decide +kernel
theorem dX6_hall_5 : decode cX6_hall 5 = .ok (.bipush 100, 2) := by decide +kernel
theorem dX6_hall_7 : decode cX6_hall 7 = .ok (.invokestatic 51, 3) := by decide +kernel
theorem dX6_hall_10 : decode cX6_hall 10 = .ok (.ifCond .eq 22, 3) := by decide +kernel
theorem dX6_hall_13 : decode cX6_hall 13 = .ok (.aload_n 0, 1) := by decide +kernel
theorem dX6_hall_14 : decode cX6_hall 14 = .ok (.getfield 12, 3) := by decide +kernel
theorem dX6_hall_17 : decode cX6_hall 17 = .ok (.getfield 138, 3) := by decide +kernel
theorem dX6_hall_20 : decode cX6_hall 20 = .ok (.istore_n 3, 1) := by decide +kernel
theorem dX6_hall_21 : decode cX6_hall 21 = .ok (.aload_n 0, 1) := by decide +kernel
theorem dX6_hall_22 : decode cX6_hall 22 = .ok (.getfield 12, 3) := by decide +kernel
theorem dX6_hall_25 : decode cX6_hall 25 = .ok (.iload_n 2, 1) := by decide +kernel
theorem dX6_hall_26 : decode cX6_hall 26 = .ok (.putfield 138, 3) := by decide +kernel
theorem dX6_hall_29 : decode cX6_hall 29 = .ok (.goto 39, 3) := by decide +kernel
theorem dX6_hall_32 : decode cX6_hall 32 = .ok (.iload_n 1, 1) := by decide +kernel
theorem dX6_hall_33 : decode cX6_hall 33 = .ok (.iconst 1, 1) := by decide +kernel
theorem dX6_hall_34 : decode cX6_hall 34 = .ok (.if_icmp .ne 31, 3) := by decide +kernel
theorem dX6_hall_37 : decode cX6_hall 37 = .ok (.iload_n 2, 1) := by decide +kernel
theorem dX6_hall_38 : decode cX6_hall 38 = .ok (.bipush 10, 2) := by decide +kernel
theorem dX6_hall_40 : decode cX6_hall 40 = .ok (.invokestatic 51, 3) := by decide +kernel
theorem dX6_hall_43 : decode cX6_hall 43 = .ok (.ifCond .eq 22, 3) := by decide +kernel
theorem dX6_hall_46 : decode cX6_hall 46 = .ok (.aload_n 0, 1) := by decide +kernel
theorem dX6_hall_47 : decode cX6_hall 47 = .ok (.getfield 12, 3) := by decide +kernel
theorem dX6_hall_50 : decode cX6_hall 50 = .ok (.getfield 141, 3) := by decide +kernel
theorem dX6_hall_53 : decode cX6_hall 53 = .ok (.istore_n 3, 1) := by decide +kernel
theorem dX6_hall_54 : decode cX6_hall 54 = .ok (.aload_n 0, 1) := by decide +kernel
theorem dX6_hall_55 : decode cX6_hall 55 = .ok (.getfield 12, 3) := by decide +kernel
theorem dX6_hall_58 : decode cX6_hall 58 = .ok (.iload_n 2, 1) := by decide +kernel
theorem dX6_hall_59 : decode cX6_hall 59 = .ok (.putfield 141, 3) := by decide +kernel
theorem dX6_hall_62 : decode cX6_hall 62 = .ok (.goto 6, 3) := by decide +kernel
theorem dX6_hall_65 : decode cX6_hall 65 = .ok (.ldc 55, 2) := by decide +kernel
theorem dX6_hall_67 : decode cX6_hall 67 = .ok (.istore_n 3, 1) := by decide +kernel
theorem dX6_hall_68 : decode cX6_hall 68 = .ok (.iload_n 3, 1) := by decide +kernel
theorem dX6_hall_69 : decode cX6_hall 69 = .ok (.ireturn, 1) := by decide +kernel
theorem dX6_bars_0 : decode cX6_bars 0 = .ok (.iload_n 1, 1) := by decide +kernel
theorem dX6_bars_1 : decode cX6_bars 1 = .ok (.iconst 1, 1) := by decide +kernel
theorem dX6_bars_2 : decode cX6_bars 2 = .ok (.if_icmp .lt 9, 3) := by decide +kernel
theorem dX6_bars_5 : decode cX6_bars 5 = .ok (.iload_n 1, 1) := by decide +kernel
theorem dX6_bars_6 : decode cX6_bars 6 = .ok (.bipush 24, 2) := by decide +kernel
theorem dX6_bars_8 : decode cX6_bars 8 = .ok (.if_icmp .le 6, 3) := by decide +kernel
theorem dX6_bars_11 : decode cX6_bars 11 = .ok (.ldc 55, 2) := by decide +kernel
theorem dX6_bars_13 : decode cX6_bars 13 = .ok (.ireturn, 1) := by decide +kernel
theorem dX6_bars_14 : decode cX6_bars 14 = .ok (.aload_n 0, 1) := by decide +kernel
theorem dX6_bars_15 : decode cX6_bars 15 = .ok (.getfield 12, 3) := by decide +kernel
theorem dX6_bars_18 : decode cX6_bars 18 = .ok (.getfield 144, 3) := by decide +kernel
theorem dX6_bars_21 : decode cX6_bars 21 = .ok (.istore_n 2, 1) := by decide +kernel
theorem dX6_bars_22 : decode cX6_bars 22 = .ok (.iload_n 2, 1) := by decide +kernel
theorem dX6_bars_23 : decode cX6_bars 23 = .ok (.istore_n 3, 1) := by decide +kernel
theorem dX6_bars_24 : decode cX6_bars 24 = .ok (.iload_n 3, 1) := by decide +kernel
theorem dX6_bars_25 : decode cX6_bars 25 = .ok (.iload_n 1, 1) := by decide +kernel
theorem dX6_bars_26 : decode cX6_bars 26 = .ok (.if_icmp .ge 19, 3) := by decide +kernel
theorem dX6_bars_29 : decode cX6_bars 29 = .ok (.aload_n 0, 1) := by decide +kernel
theorem dX6_bars_30 : decode cX6_bars 30 = .ok (.getfield 12, 3) := by decide +kernel
theorem dX6_bars_33 : decode cX6_bars 33 = .ok (.getfield 147, 3) := by decide +kernel
theorem dX6_bars_36 : decode cX6_bars 36 = .ok (.iload_n 3, 1) := by decide +kernel
theorem dX6_bars_37 : decode cX6_bars 37 = .ok (.iconst 0, 1) := by decide +kernel
theorem dX6_bars_38 : decode cX6_bars 38 = .ok (.iastore, 1) := by decide +kernel
theorem dX6_bars_39 : decode cX6_bars 39 = .ok (.iinc 3 1, 3) := by decide +kernel
theorem dX6_bars_42 : decode cX6_bars 42 = .ok (.goto (-18), 3) := by decide +kernel
theorem dX6_bars_45 : decode cX6_bars 45 = .ok (.aload_n 0, 1) := by decide +kernel
theorem dX6_bars_46 : decode cX6_bars 46 = .ok (.getfield 12, 3) := by decide +kernel
theorem dX6_bars_49 : decode cX6_bars 49 = .ok (.iload_n 1, 1) := by decide +kernel
theorem dX6_bars_50 : decode cX6_bars 50 = .ok (.putfield 144, 3) := by decide +kernel
theorem dX6_bars_53 : decode cX6_bars 53 = .ok (.iload_n 2, 1) := by decide +kernel
theorem dX6_bars_54 : decode cX6_bars 54 = .ok (.ireturn, 1) := by decide +kernel
theorem dX6_loud_0 : decode cX6_loud 0 = .ok (.iload_n 1, 1) := by decide +kernel
theorem dX6_loud_1 : decode cX6_loud 1 = .ok (.aload_n 0, 1) := by decide +kernel
theorem dX6_loud_2 : decode cX6_loud 2 = .ok (.getfield 12, 3) := by decide +kernel
theorem dX6_loud_5 : decode cX6_loud 5 = .ok (.getfield 144, 3) := by decide +kernel
theorem dX6_loud_8 : decode cX6_loud 8 = .ok (.invokestatic 51, 3) := by decide +kernel
theorem dX6_loud_11 : decode cX6_loud 11 = .ok (.ifCond .eq 12, 3) := by decide +kernel
theorem dX6_loud_14 : decode cX6_loud 14 = .ok (.iload_n 2, 1) := by decide +kernel
theorem dX6_loud_15 : decode cX6_loud 15 = .ok (.bipush 100, 2) := by decide +kernel
theorem dX6_loud_17 : decode cX6_loud 17 = .ok (.invokestatic 51, 3) := by decide +kernel
theorem dX6_loud_20 : decode cX6_loud 20 = .ok (.ifCond .ne 6, 3) := by decide +kernel
theorem dX6_loud_23 : decode cX6_loud 23 = .ok (.ldc 55, 2) := by decide +kernel
theorem dX6_loud_25 : decode cX6_loud 25 = .ok (.ireturn, 1) := by decide +kernel
theorem dX6_loud_26 : decode cX6_loud 26 = .ok (.aload_n 0, 1) := by decide +kernel
theorem dX6_loud_27 : decode cX6_loud 27 = .ok (.getfield 12, 3) := by decide +kernel
theorem dX6_loud_30 : decode cX6_loud 30 = .ok (.getfield 147, 3) := by decide +kernel
theorem dX6_loud_33 : decode cX6_loud 33 = .ok (.iload_n 1, 1) := by decide +kernel
theorem dX6_loud_34 : decode cX6_loud 34 = .ok (.iaload, 1) := by decide +kernel
theorem dX6_loud_35 : decode cX6_loud 35 = .ok (.istore_n 3, 1) := by decide +kernel
theorem dX6_loud_36 : decode cX6_loud 36 = .ok (.aload_n 0, 1) := by decide +kernel
theorem dX6_loud_37 : decode cX6_loud 37 = .ok (.getfield 12, 3) := by decide +kernel
theorem dX6_loud_40 : decode cX6_loud 40 = .ok (.getfield 147, 3) := by decide +kernel
theorem dX6_loud_43 : decode cX6_loud 43 = .ok (.iload_n 1, 1) := by decide +kernel
theorem dX6_loud_44 : decode cX6_loud 44 = .ok (.iload_n 2, 1) := by decide +kernel
theorem dX6_loud_45 : decode cX6_loud 45 = .ok (.iastore, 1) := by decide +kernel
theorem dX6_loud_46 : decode cX6_loud 46 = .ok (.iload_n 3, 1) := by decide +kernel
theorem dX6_loud_47 : decode cX6_loud 47 = .ok (.ireturn, 1) := by decide +kernel
theorem dX6_music_0 : decode cX6_music 0 = .ok (.iload_n 1, 1) := by decide +kernel
theorem dX6_music_1 : decode cX6_music 1 = .ok (.ifCond .lt 9, 3) := by decide +kernel
theorem dX6_music_4 : decode cX6_music 4 = .ok (.iload_n 1, 1) := by decide +kernel
theorem dX6_music_5 : decode cX6_music 5 = .ok (.bipush 99, 2) := by decide +kernel
theorem dX6_music_7 : decode cX6_music 7 = .ok (.if_icmp .le 8, 3) := by decide +kernel
theorem dX6_music_10 : decode cX6_music 10 = .ok (.ldc 55, 2) := by decide +kernel
theorem dX6_music_12 : decode cX6_music 12 = .ok (.goto 11, 3) := by decide +kernel
theorem dX6_music_15 : decode cX6_music 15 = .ok (.aload_n 0, 1) := by decide +kernel
theorem dX6_music_16 : decode cX6_music 16 = .ok (.getfield 12, 3) := by decide +kernel
theorem dX6_music_19 : decode cX6_music 19 = .ok (.iload_n 1, 1) := by decide +kernel
theorem dX6_music_20 : decode cX6_music 20 = .ok (.invokevirtual 102, 3) := by decide +kernel
theorem dX6_music_23 : decode cX6_music 23 = .ok (.ireturn, 1) := by decide +kernel
theorem dX6_run_0 : decode cX6_run 0 = .ok (.iload_n 1, 1) := by decide +kernel
theorem dX6_run_1 : decode cX6_run 1 = .ok (.iconst 1, 1) := by decide +kernel
theorem dX6_run_2 : decode cX6_run 2 = .ok (.if_icmp .lt 10, 3) := by decide +kernel
theorem dX6_run_5 : decode cX6_run 5 = .ok (.iload_n 1, 1) := by decide +kernel
theorem dX6_run_6 : decode cX6_run 6 = .ok (.sipush 200, 3) := by decide +kernel
theorem dX6_run_9 : decode cX6_run 9 = .ok (.if_icmp .le 8, 3) := by decide +kernel
theorem dX6_run_12 : decode cX6_run 12 = .ok (.ldc 55, 2) := by decide +kernel
theorem dX6_run_14 : decode cX6_run 14 = .ok (.goto 18, 3) := by decide +kernel
theorem dX6_run_17 : decode cX6_run 17 = .ok (.aload_n 0, 1) := by decide +kernel
theorem dX6_run_18 : decode cX6_run 18 = .ok (.getfield 12, 3) := by decide +kernel
theorem dX6_run_21 : decode cX6_run 21 = .ok (.aload_n 0, 1) := by decide +kernel
theorem dX6_run_22 : decode cX6_run 22 = .ok (.getfield 12, 3) := by decide +kernel
theorem dX6_run_25 : decode cX6_run 25 = .ok (.iload_n 1, 1) := by decide +kernel
theorem dX6_run_26 : decode cX6_run 26 = .ok (.invokevirtual 150, 3) := by decide +kernel
theorem dX6_run_29 : decode cX6_run 29 = .ok (.invokevirtual 153, 3) := by decide +kernel
theorem dX6_run_32 : decode cX6_run 32 = .ok (.ireturn, 1) := by decide +kernel
theorem dX6_did_0 : decode cX6_did 0 = .ok (.aload_n 0, 1) := by decide +kernel
theorem dX6_did_1 : decode cX6_did 1 = .ok (.getfield 12, 3) := by decide +kernel
theorem dX6_did_4 : decode cX6_did 4 = .ok (.getfield 156, 3) := by decide +kernel
theorem dX6_did_7 : decode cX6_did 7 = .ok (.ireturn, 1) := by decide +kernel
theorem dX6_behind_0 : decode cX6_behind 0 = .ok (.iload_n 1, 1) := by decide +kernel
theorem dX6_behind_1 : decode cX6_behind 1 = .ok (.ifCond .lt 19, 3) := by decide +kernel
theorem dX6_behind_4 : decode cX6_behind 4 = .ok (.iload_n 1, 1) := by decide +kernel
theorem dX6_behind_5 : decode cX6_behind 5 = .ok (.sipush 200, 3) := by decide +kernel
theorem dX6_behind_8 : decode cX6_behind 8 = .ok (.if_icmp .gt 12, 3) := by decide +kernel
theorem dX6_behind_11 : decode cX6_behind 11 = .ok (.iload_n 2, 1) := by decide +kernel
theorem dX6_behind_12 : decode cX6_behind 12 = .ok (.ifCond .lt 8, 3) := by decide +kernel
theorem dX6_behind_15 : decode cX6_behind 15 = .ok (.iload_n 2, 1) := by decide +kernel
theorem dX6_behind_16 : decode cX6_behind 16 = .ok (.iconst 2, 1) := by decide +kernel
theorem dX6_behind_17 : decode cX6_behind 17 = .ok (.if_icmp .le 6, 3) := by decide +kernel
theorem dX6_behind_20 : decode cX6_behind 20 = .ok (.ldc 55, 2) := by decide +kernel
theorem dX6_behind_22 : decode cX6_behind 22 = .ok (.ireturn, 1) := by decide +kernel
theorem dX6_behind_23 : decode cX6_behind 23 = .ok (.aload_n 0, 1) := by decide +kernel
theorem dX6_behind_24 : decode cX6_behind 24 = .ok (.getfield 19, 3) := by decide +kernel
theorem dX6_behind_27 : decode cX6_behind 27 = .ok (.aload_n 0, 1) := by decide +kernel
theorem dX6_behind_28 : decode cX6_behind 28 = .ok (.getfield 12, 3) := by decide +kernel
theorem dX6_behind_31 : decode cX6_behind 31 = .ok (.invokevirtual 159, 3) := by decide +kernel
theorem dX6_behind_34 : decode cX6_behind 34 = .ok (.aload_n 0, 1) := by decide +kernel
theorem dX6_behind_35 : decode cX6_behind 35 = .ok (.getfield 19, 3) := by decide +kernel
theorem dX6_behind_38 : decode cX6_behind 38 = .ok (.iload_n 1, 1) := by decide +kernel
theorem dX6_behind_39 : decode cX6_behind 39 = .ok (.invokevirtual 153, 3) := by decide +kernel
theorem dX6_behind_42 : decode cX6_behind 42 = .ok (.pop, 1) := by decide +kernel
theorem dX6_behind_43 : decode cX6_behind 43 = .ok (.iload_n 2, 1) := by decide +kernel
theorem dX6_behind_44 : decode cX6_behind 44 = .ok (.lookupswitch 44 #[(0, 28), (1, 36)], 28) := by decide +kernel
theorem dX6_behind_72 : decode cX6_behind 72 = .ok (.aload_n 0, 1) := by decide +kernel
theorem dX6_behind_73 : decode cX6_behind 73 = .ok (.getfield 19, 3) := by decide +kernel
theorem dX6_behind_76 : decode cX6_behind 76 = .ok (.invokevirtual 163, 3) := by decide +kernel
theorem dX6_behind_79 : decode cX6_behind 79 = .ok (.ireturn, 1) := by decide +kernel
theorem dX6_behind_80 : decode cX6_behind 80 = .ok (.aload_n 0, 1) := by decide +kernel
theorem dX6_behind_81 : decode cX6_behind 81 = .ok (.getfield 19, 3) := by decide +kernel
theorem dX6_behind_84 : decode cX6_behind 84 = .ok (.getfield 166, 3) := by decide +kernel
theorem dX6_behind_87 : decode cX6_behind 87 = .ok (.ireturn, 1) := by decide +kernel
theorem dX6_behind_88 : decode cX6_behind 88 = .ok (.aload_n 0, 1) := by decide +kernel
theorem dX6_behind_89 : decode cX6_behind 89 = .ok (.getfield 19, 3) := by decide +kernel
theorem dX6_behind_92 : decode cX6_behind 92 = .ok (.invokevirtual 169, 3) := by decide +kernel
theorem dX6_behind_95 : decode cX6_behind 95 = .ok (.ireturn, 1) := by decide +kernel
theorem dX6_first_0 : decode cX6_first 0 = .ok (.aload_n 0, 1) := by decide +kernel
theorem dX6_first_1 : decode cX6_first 1 = .ok (.getfield 19, 3) := by decide +kernel
theorem dX6_first_4 : decode cX6_first 4 = .ok (.aload_n 0, 1) := by decide +kernel
theorem dX6_first_5 : decode cX6_first 5 = .ok (.getfield 12, 3) := by decide +kernel
theorem dX6_first_8 : decode cX6_first 8 = .ok (.invokevirtual 159, 3) := by decide +kernel
theorem dX6_first_11 : decode cX6_first 11 = .ok (.iconst 1, 1) := by decide +kernel
theorem dX6_first_12 : decode cX6_first 12 = .ok (.istore_n 1, 1) := by decide +kernel
theorem dX6_first_13 : decode cX6_first 13 = .ok (.iload_n 1, 1) := by decide +kernel
theorem dX6_first_14 : decode cX6_first 14 = .ok (.sipush 200, 3) := by decide +kernel
theorem dX6_first_17 : decode cX6_first 17 = .ok (.if_icmp .gt 21, 3) := by decide +kernel
theorem dX6_first_20 : decode cX6_first 20 = .ok (.aload_n 0, 1) := by decide +kernel
theorem dX6_first_21 : decode cX6_first 21 = .ok (.getfield 19, 3) := by decide +kernel
theorem dX6_first_24 : decode cX6_first 24 = .ok (.invokevirtual 172, 3) := by decide +kernel
theorem dX6_first_27 : decode cX6_first 27 = .ok (.ifCond .le 5, 3) := by decide +kernel
theorem dX6_first_30 : decode cX6_first 30 = .ok (.iload_n 1, 1) := by decide +kernel
theorem dX6_first_31 : decode cX6_first 31 = .ok (.ireturn, 1) := by decide +kernel
theorem dX6_first_32 : decode cX6_first 32 = .ok (.iinc 1 1, 3) := by decide +kernel
theorem dX6_first_35 : decode cX6_first 35 = .ok (.goto (-22), 3) := by decide +kernel
theorem dX6_first_38 : decode cX6_first 38 = .ok (.ldc 125, 2) := by decide +kernel
theorem dX6_first_40 : decode cX6_first 40 = .ok (.ireturn, 1) := by decide +kernel
theorem dX6_rest_0 : decode cX6_rest 0 = .ok (.iload_n 1, 1) := by decide +kernel
theorem dX6_rest_1 : decode cX6_rest 1 = .ok (.iconst 1, 1) := by decide +kernel
theorem dX6_rest_2 : decode cX6_rest 2 = .ok (.if_icmp .lt 9, 3) := by decide +kernel
theorem dX6_rest_5 : decode cX6_rest 5 = .ok (.iload_n 1, 1) := by decide +kernel
theorem dX6_rest_6 : decode cX6_rest 6 = .ok (.bipush 60, 2) := by decide +kernel
theorem dX6_rest_8 : decode cX6_rest 8 = .ok (.if_icmp .le 6, 3) := by decide +kernel
theorem dX6_rest_11 : decode cX6_rest 11 = .ok (.ldc 55, 2) := by decide +kernel
theorem dX6_rest_13 : decode cX6_rest 13 = .ok (.ireturn, 1) := by decide +kernel
theorem dX6_rest_14 : decode cX6_rest 14 = .ok (.iconst 0, 1) := by decide +kernel
theorem dX6_rest_15 : decode cX6_rest 15 = .ok (.istore_n 2, 1) := by decide +kernel
theorem dX6_rest_16 : decode cX6_rest 16 = .ok (.ldc 175, 2) := by decide +kernel
theorem dX6_rest_18 : decode cX6_rest 18 = .ok (.istore_n 3, 1) := by decide +kernel
theorem dX6_rest_19 : decode cX6_rest 19 = .ok (.iconst 0, 1) := by decide +kernel
theorem dX6_rest_20 : decode cX6_rest 20 = .ok (.istore 4, 2) := by decide +kernel
theorem dX6_rest_22 : decode cX6_rest 22 = .ok (.iload 4, 2) := by decide +kernel
theorem dX6_rest_24 : decode cX6_rest 24 = .ok (.aload_n 0, 1) := by decide +kernel
theorem dX6_rest_25 : decode cX6_rest 25 = .ok (.getfield 12, 3) := by decide +kernel
theorem dX6_rest_28 : decode cX6_rest 28 = .ok (.getfield 144, 3) := by decide +kernel
theorem dX6_rest_31 : decode cX6_rest 31 = .ok (.if_icmp .ge 62, 3) := by decide +kernel
theorem dX6_rest_34 : decode cX6_rest 34 = .ok (.aload_n 0, 1) := by decide +kernel
theorem dX6_rest_35 : decode cX6_rest 35 = .ok (.getfield 19, 3) := by decide +kernel
theorem dX6_rest_38 : decode cX6_rest 38 = .ok (.aload_n 0, 1) := by decide +kernel
theorem dX6_rest_39 : decode cX6_rest 39 = .ok (.getfield 12, 3) := by decide +kernel
theorem dX6_rest_42 : decode cX6_rest 42 = .ok (.invokevirtual 159, 3) := by decide +kernel
theorem dX6_rest_45 : decode cX6_rest 45 = .ok (.aload_n 0, 1) := by decide +kernel
theorem dX6_rest_46 : decode cX6_rest 46 = .ok (.getfield 19, 3) := by decide +kernel
theorem dX6_rest_49 : decode cX6_rest 49 = .ok (.getfield 147, 3) := by decide +kernel
theorem dX6_rest_52 : decode cX6_rest 52 = .ok (.iload 4, 2) := by decide +kernel
theorem dX6_rest_54 : decode cX6_rest 54 = .ok (.iconst 0, 1) := by decide +kernel
theorem dX6_rest_55 : decode cX6_rest 55 = .ok (.iastore, 1) := by decide +kernel
theorem dX6_rest_56 : decode cX6_rest 56 = .ok (.aload_n 0, 1) := by decide +kernel
theorem dX6_rest_57 : decode cX6_rest 57 = .ok (.getfield 19, 3) := by decide +kernel
theorem dX6_rest_60 : decode cX6_rest 60 = .ok (.iload_n 1, 1) := by decide +kernel
theorem dX6_rest_61 : decode cX6_rest 61 = .ok (.invokevirtual 153, 3) := by decide +kernel
theorem dX6_rest_64 : decode cX6_rest 64 = .ok (.pop, 1) := by decide +kernel
theorem dX6_rest_65 : decode cX6_rest 65 = .ok (.aload_n 0, 1) := by decide +kernel
theorem dX6_rest_66 : decode cX6_rest 66 = .ok (.getfield 19, 3) := by decide +kernel
theorem dX6_rest_69 : decode cX6_rest 69 = .ok (.getfield 166, 3) := by decide +kernel
theorem dX6_rest_72 : decode cX6_rest 72 = .ok (.iload_n 3, 1) := by decide +kernel
theorem dX6_rest_73 : decode cX6_rest 73 = .ok (.if_icmp .ge 14, 3) := by decide +kernel
theorem dX6_rest_76 : decode cX6_rest 76 = .ok (.aload_n 0, 1) := by decide +kernel
theorem dX6_rest_77 : decode cX6_rest 77 = .ok (.getfield 19, 3) := by decide +kernel
theorem dX6_rest_80 : decode cX6_rest 80 = .ok (.getfield 166, 3) := by decide +kernel
theorem dX6_rest_83 : decode cX6_rest 83 = .ok (.istore_n 3, 1) := by decide +kernel
theorem dX6_rest_84 : decode cX6_rest 84 = .ok (.iload 4, 2) := by decide +kernel
theorem dX6_rest_86 : decode cX6_rest 86 = .ok (.istore_n 2, 1) := by decide +kernel
theorem dX6_rest_87 : decode cX6_rest 87 = .ok (.iinc 4 1, 3) := by decide +kernel
theorem dX6_rest_90 : decode cX6_rest 90 = .ok (.goto (-68), 3) := by decide +kernel
theorem dX6_rest_93 : decode cX6_rest 93 = .ok (.iload_n 2, 1) := by decide +kernel
theorem dX6_rest_94 : decode cX6_rest 94 = .ok (.ireturn, 1) := by decide +kernel
theorem dX6_change_0 : decode cX6_change 0 = .ok (.iload_n 1, 1) := by decide +kernel
theorem dX6_change_1 : decode cX6_change 1 = .ok (.iconst 1, 1) := by decide +kernel
theorem dX6_change_2 : decode cX6_change 2 = .ok (.if_icmp .lt 9, 3) := by decide +kernel
theorem dX6_change_5 : decode cX6_change 5 = .ok (.iload_n 1, 1) := by decide +kernel
theorem dX6_change_6 : decode cX6_change 6 = .ok (.bipush 40, 2) := by decide +kernel
theorem dX6_change_8 : decode cX6_change 8 = .ok (.if_icmp .le 6, 3) := by decide +kernel
theorem dX6_change_11 : decode cX6_change 11 = .ok (.ldc 55, 2) := by decide +kernel
theorem dX6_change_13 : decode cX6_change 13 = .ok (.ireturn, 1) := by decide +kernel
theorem dX6_change_14 : decode cX6_change 14 = .ok (.ldc 125, 2) := by decide +kernel
theorem dX6_change_16 : decode cX6_change 16 = .ok (.istore_n 2, 1) := by decide +kernel
theorem dX6_change_17 : decode cX6_change 17 = .ok (.ldc 175, 2) := by decide +kernel
theorem dX6_change_19 : decode cX6_change 19 = .ok (.istore_n 3, 1) := by decide +kernel
theorem dX6_change_20 : decode cX6_change 20 = .ok (.iconst 0, 1) := by decide +kernel
theorem dX6_change_21 : decode cX6_change 21 = .ok (.istore 4, 2) := by decide +kernel
theorem dX6_change_23 : decode cX6_change 23 = .ok (.iload 4, 2) := by decide +kernel
theorem dX6_change_25 : decode cX6_change 25 = .ok (.aload_n 0, 1) := by decide +kernel
theorem dX6_change_26 : decode cX6_change 26 = .ok (.getfield 12, 3) := by decide +kernel
theorem dX6_change_29 : decode cX6_change 29 = .ok (.getfield 61, 3) := by decide +kernel
theorem dX6_change_32 : decode cX6_change 32 = .ok (.if_icmp .ge 91, 3) := by decide +kernel
theorem dX6_change_35 : decode cX6_change 35 = .ok (.iload 4, 2) := by decide +kernel
theorem dX6_change_37 : decode cX6_change 37 = .ok (.iconst 1, 1) := by decide +kernel
theorem dX6_change_38 : decode cX6_change 38 = .ok (.iadd, 1) := by decide +kernel
theorem dX6_change_39 : decode cX6_change 39 = .ok (.istore 5, 2) := by decide +kernel
theorem dX6_change_41 : decode cX6_change 41 = .ok (.iload 5, 2) := by decide +kernel
theorem dX6_change_43 : decode cX6_change 43 = .ok (.aload_n 0, 1) := by decide +kernel
theorem dX6_change_44 : decode cX6_change 44 = .ok (.getfield 12, 3) := by decide +kernel
theorem dX6_change_47 : decode cX6_change 47 = .ok (.getfield 61, 3) := by decide +kernel
theorem dX6_change_50 : decode cX6_change 50 = .ok (.if_icmp .ge 67, 3) := by decide +kernel
theorem dX6_change_53 : decode cX6_change 53 = .ok (.aload_n 0, 1) := by decide +kernel
theorem dX6_change_54 : decode cX6_change 54 = .ok (.getfield 19, 3) := by decide +kernel
theorem dX6_change_57 : decode cX6_change 57 = .ok (.aload_n 0, 1) := by decide +kernel
theorem dX6_change_58 : decode cX6_change 58 = .ok (.getfield 12, 3) := by decide +kernel
theorem dX6_change_61 : decode cX6_change 61 = .ok (.invokevirtual 159, 3) := by decide +kernel
theorem dX6_change_64 : decode cX6_change 64 = .ok (.aload_n 0, 1) := by decide +kernel
theorem dX6_change_65 : decode cX6_change 65 = .ok (.getfield 19, 3) := by decide +kernel
theorem dX6_change_68 : decode cX6_change 68 = .ok (.iload 4, 2) := by decide +kernel
theorem dX6_change_70 : decode cX6_change 70 = .ok (.iload 5, 2) := by decide +kernel
theorem dX6_change_72 : decode cX6_change 72 = .ok (.invokevirtual 176, 3) := by decide +kernel
theorem dX6_change_75 : decode cX6_change 75 = .ok (.aload_n 0, 1) := by decide +kernel
theorem dX6_change_76 : decode cX6_change 76 = .ok (.getfield 19, 3) := by decide +kernel
theorem dX6_change_79 : decode cX6_change 79 = .ok (.iload_n 1, 1) := by decide +kernel
theorem dX6_change_80 : decode cX6_change 80 = .ok (.invokevirtual 153, 3) := by decide +kernel
theorem dX6_change_83 : decode cX6_change 83 = .ok (.pop, 1) := by decide +kernel
theorem dX6_change_84 : decode cX6_change 84 = .ok (.aload_n 0, 1) := by decide +kernel
theorem dX6_change_85 : decode cX6_change 85 = .ok (.getfield 19, 3) := by decide +kernel
theorem dX6_change_88 : decode cX6_change 88 = .ok (.invokevirtual 163, 3) := by decide +kernel
theorem dX6_change_91 : decode cX6_change 91 = .ok (.istore 6, 2) := by decide +kernel
theorem dX6_change_93 : decode cX6_change 93 = .ok (.iload 6, 2) := by decide +kernel
theorem dX6_change_95 : decode cX6_change 95 = .ok (.iload_n 3, 1) := by decide +kernel
theorem dX6_change_96 : decode cX6_change 96 = .ok (.if_icmp .ge 15, 3) := by decide +kernel
theorem dX6_change_99 : decode cX6_change 99 = .ok (.iload 6, 2) := by decide +kernel
theorem dX6_change_101 : decode cX6_change 101 = .ok (.istore_n 3, 1) := by decide +kernel
theorem dX6_change_102 : decode cX6_change 102 = .ok (.bipush 100, 2) := by decide +kernel
theorem dX6_change_104 : decode cX6_change 104 = .ok (.iload 4, 2) := by decide +kernel
theorem dX6_change_106 : decode cX6_change 106 = .ok (.imul, 1) := by decide +kernel
theorem dX6_change_107 : decode cX6_change 107 = .ok (.iload 5, 2) := by decide +kernel
theorem dX6_change_109 : decode cX6_change 109 = .ok (.iadd, 1) := by decide +kernel
theorem dX6_change_110 : decode cX6_change 110 = .ok (.istore_n 2, 1) := by decide +kernel
theorem dX6_change_111 : decode cX6_change 111 = .ok (.iinc 5 1, 3) := by decide +kernel
theorem dX6_change_114 : decode cX6_change 114 = .ok (.goto (-73), 3) := by decide +kernel
theorem dX6_change_117 : decode cX6_change 117 = .ok (.iinc 4 1, 3) := by decide +kernel
theorem dX6_change_120 : decode cX6_change 120 = .ok (.goto (-97), 3) := by decide +kernel
theorem dX6_change_123 : decode cX6_change 123 = .ok (.iload_n 2, 1) := by decide +kernel
theorem dX6_change_124 : decode cX6_change 124 = .ok (.ireturn, 1) := by decide +kernel
theorem dX6_sweet_0 : decode cX6_sweet 0 = .ok (.iload_n 1, 1) := by decide +kernel
theorem dX6_sweet_1 : decode cX6_sweet 1 = .ok (.iconst 1, 1) := by decide +kernel
theorem dX6_sweet_2 : decode cX6_sweet 2 = .ok (.if_icmp .lt 9, 3) := by decide +kernel
theorem dX6_sweet_5 : decode cX6_sweet 5 = .ok (.iload_n 1, 1) := by decide +kernel
theorem dX6_sweet_6 : decode cX6_sweet 6 = .ok (.bipush 60, 2) := by decide +kernel
theorem dX6_sweet_8 : decode cX6_sweet 8 = .ok (.if_icmp .le 6, 3) := by decide +kernel
theorem dX6_sweet_11 : decode cX6_sweet 11 = .ok (.ldc 55, 2) := by decide +kernel
theorem dX6_sweet_13 : decode cX6_sweet 13 = .ok (.ireturn, 1) := by decide +kernel
theorem dX6_sweet_14 : decode cX6_sweet 14 = .ok (.ldc 125, 2) := by decide +kernel
theorem dX6_sweet_16 : decode cX6_sweet 16 = .ok (.istore_n 2, 1) := by decide +kernel
theorem dX6_sweet_17 : decode cX6_sweet 17 = .ok (.ldc 175, 2) := by decide +kernel
theorem dX6_sweet_19 : decode cX6_sweet 19 = .ok (.istore_n 3, 1) := by decide +kernel
theorem dX6_sweet_20 : decode cX6_sweet 20 = .ok (.iconst 0, 1) := by decide +kernel
theorem dX6_sweet_21 : decode cX6_sweet 21 = .ok (.istore 4, 2) := by decide +kernel
theorem dX6_sweet_23 : decode cX6_sweet 23 = .ok (.iload 4, 2) := by decide +kernel
theorem dX6_sweet_25 : decode cX6_sweet 25 = .ok (.aload_n 0, 1) := by decide +kernel
theorem dX6_sweet_26 : decode cX6_sweet 26 = .ok (.getfield 12, 3) := by decide +kernel
theorem dX6_sweet_29 : decode cX6_sweet 29 = .ok (.getfield 61, 3) := by decide +kernel
theorem dX6_sweet_32 : decode cX6_sweet 32 = .ok (.if_icmp .ge 66, 3) := by decide +kernel
theorem dX6_sweet_35 : decode cX6_sweet 35 = .ok (.aload_n 0, 1) := by decide +kernel
theorem dX6_sweet_36 : decode cX6_sweet 36 = .ok (.getfield 19, 3) := by decide +kernel
theorem dX6_sweet_39 : decode cX6_sweet 39 = .ok (.aload_n 0, 1) := by decide +kernel
theorem dX6_sweet_40 : decode cX6_sweet 40 = .ok (.getfield 12, 3) := by decide +kernel
theorem dX6_sweet_43 : decode cX6_sweet 43 = .ok (.invokevirtual 159, 3) := by decide +kernel
theorem dX6_sweet_46 : decode cX6_sweet 46 = .ok (.aload_n 0, 1) := by decide +kernel
theorem dX6_sweet_47 : decode cX6_sweet 47 = .ok (.getfield 19, 3) := by decide +kernel
theorem dX6_sweet_50 : decode cX6_sweet 50 = .ok (.getfield 74, 3) := by decide +kernel
theorem dX6_sweet_53 : decode cX6_sweet 53 = .ok (.iload 4, 2) := by decide +kernel
theorem dX6_sweet_55 : decode cX6_sweet 55 = .ok (.aaload, 1) := by decide +kernel
theorem dX6_sweet_56 : decode cX6_sweet 56 = .ok (.bipush 40, 2) := by decide +kernel
theorem dX6_sweet_58 : decode cX6_sweet 58 = .ok (.putfield 92, 3) := by decide +kernel
theorem dX6_sweet_61 : decode cX6_sweet 61 = .ok (.aload_n 0, 1) := by decide +kernel
theorem dX6_sweet_62 : decode cX6_sweet 62 = .ok (.getfield 19, 3) := by decide +kernel
theorem dX6_sweet_65 : decode cX6_sweet 65 = .ok (.iload_n 1, 1) := by decide +kernel
theorem dX6_sweet_66 : decode cX6_sweet 66 = .ok (.invokevirtual 153, 3) := by decide +kernel
theorem dX6_sweet_69 : decode cX6_sweet 69 = .ok (.pop, 1) := by decide +kernel
theorem dX6_sweet_70 : decode cX6_sweet 70 = .ok (.aload_n 0, 1) := by decide +kernel
theorem dX6_sweet_71 : decode cX6_sweet 71 = .ok (.getfield 19, 3) := by decide +kernel
theorem dX6_sweet_74 : decode cX6_sweet 74 = .ok (.getfield 166, 3) := by decide +kernel
theorem dX6_sweet_77 : decode cX6_sweet 77 = .ok (.iload_n 3, 1) := by decide +kernel
theorem dX6_sweet_78 : decode cX6_sweet 78 = .ok (.if_icmp .ge 14, 3) := by decide +kernel
theorem dX6_sweet_81 : decode cX6_sweet 81 = .ok (.aload_n 0, 1) := by decide +kernel
theorem dX6_sweet_82 : decode cX6_sweet 82 = .ok (.getfield 19, 3) := by decide +kernel
theorem dX6_sweet_85 : decode cX6_sweet 85 = .ok (.getfield 166, 3) := by decide +kernel
theorem dX6_sweet_88 : decode cX6_sweet 88 = .ok (.istore_n 3, 1) := by decide +kernel
theorem dX6_sweet_89 : decode cX6_sweet 89 = .ok (.iload 4, 2) := by decide +kernel
theorem dX6_sweet_91 : decode cX6_sweet 91 = .ok (.istore_n 2, 1) := by decide +kernel
theorem dX6_sweet_92 : decode cX6_sweet 92 = .ok (.iinc 4 1, 3) := by decide +kernel
theorem dX6_sweet_95 : decode cX6_sweet 95 = .ok (.goto (-72), 3) := by decide +kernel
theorem dX6_sweet_98 : decode cX6_sweet 98 = .ok (.iload_n 2, 1) := by decide +kernel
theorem dX6_sweet_99 : decode cX6_sweet 99 = .ok (.ireturn, 1) := by decide +kernel
theorem dX6_setOff_0 : decode cX6_setOff 0 = .ok (.aload_n 0, 1) := by decide +kernel
theorem dX6_setOff_1 : decode cX6_setOff 1 = .ok (.getfield 12, 3) := by decide +kernel
theorem dX6_setOff_4 : decode cX6_setOff 4 = .ok (.iload_n 1, 1) := by decide +kernel
theorem dX6_setOff_5 : decode cX6_setOff 5 = .ok (.invokevirtual 70, 3) := by decide +kernel
theorem dX6_setOff_8 : decode cX6_setOff 8 = .ok (.ifCond .eq 31, 3) := by decide +kernel
theorem dX6_setOff_11 : decode cX6_setOff 11 = .ok (.aload_n 0, 1) := by decide +kernel
theorem dX6_setOff_12 : decode cX6_setOff 12 = .ok (.getfield 12, 3) := by decide +kernel
theorem dX6_setOff_15 : decode cX6_setOff 15 = .ok (.iload_n 2, 1) := by decide +kernel
theorem dX6_setOff_16 : decode cX6_setOff 16 = .ok (.invokevirtual 70, 3) := by decide +kernel
theorem dX6_setOff_19 : decode cX6_setOff 19 = .ok (.ifCond .eq 20, 3) := by decide +kernel
theorem dX6_setOff_22 : decode cX6_setOff 22 = .ok (.iload_n 1, 1) := by decide +kernel
theorem dX6_setOff_23 : decode cX6_setOff 23 = .ok (.iload_n 2, 1) := by decide +kernel
theorem dX6_setOff_24 : decode cX6_setOff 24 = .ok (.if_icmp .eq 15, 3) := by decide +kernel
theorem dX6_setOff_27 : decode cX6_setOff 27 = .ok (.iload_n 3, 1) := by decide +kernel
theorem dX6_setOff_28 : decode cX6_setOff 28 = .ok (.iconst 1, 1) := by decide +kernel
theorem dX6_setOff_29 : decode cX6_setOff 29 = .ok (.if_icmp .lt 10, 3) := by decide +kernel
theorem dX6_setOff_32 : decode cX6_setOff 32 = .ok (.iload_n 3, 1) := by decide +kernel
theorem dX6_setOff_33 : decode cX6_setOff 33 = .ok (.sipush 200, 3) := by decide +kernel
theorem dX6_setOff_36 : decode cX6_setOff 36 = .ok (.if_icmp .le 6, 3) := by decide +kernel
theorem dX6_setOff_39 : decode cX6_setOff 39 = .ok (.ldc 55, 2) := by decide +kernel
theorem dX6_setOff_41 : decode cX6_setOff 41 = .ok (.ireturn, 1) := by decide +kernel
theorem dX6_setOff_42 : decode cX6_setOff 42 = .ok (.aload_n 0, 1) := by decide +kernel
theorem dX6_setOff_43 : decode cX6_setOff 43 = .ok (.getfield 19, 3) := by decide +kernel
theorem dX6_setOff_46 : decode cX6_setOff 46 = .ok (.aload_n 0, 1) := by decide +kernel
theorem dX6_setOff_47 : decode cX6_setOff 47 = .ok (.getfield 12, 3) := by decide +kernel
theorem dX6_setOff_50 : decode cX6_setOff 50 = .ok (.invokevirtual 159, 3) := by decide +kernel
theorem dX6_setOff_53 : decode cX6_setOff 53 = .ok (.iconst 0, 1) := by decide +kernel
theorem dX6_setOff_54 : decode cX6_setOff 54 = .ok (.istore 4, 2) := by decide +kernel
theorem dX6_setOff_56 : decode cX6_setOff 56 = .ok (.iconst 0, 1) := by decide +kernel
theorem dX6_setOff_57 : decode cX6_setOff 57 = .ok (.istore 5, 2) := by decide +kernel
theorem dX6_setOff_59 : decode cX6_setOff 59 = .ok (.iload 5, 2) := by decide +kernel
theorem dX6_setOff_61 : decode cX6_setOff 61 = .ok (.iload_n 3, 1) := by decide +kernel
theorem dX6_setOff_62 : decode cX6_setOff 62 = .ok (.if_icmp .ge 46, 3) := by decide +kernel
theorem dX6_setOff_65 : decode cX6_setOff 65 = .ok (.aload_n 0, 1) := by decide +kernel
theorem dX6_setOff_66 : decode cX6_setOff 66 = .ok (.getfield 19, 3) := by decide +kernel
theorem dX6_setOff_69 : decode cX6_setOff 69 = .ok (.iload_n 2, 1) := by decide +kernel
theorem dX6_setOff_70 : decode cX6_setOff 70 = .ok (.invokevirtual 180, 3) := by decide +kernel
theorem dX6_setOff_73 : decode cX6_setOff 73 = .ok (.istore 6, 2) := by decide +kernel
theorem dX6_setOff_75 : decode cX6_setOff 75 = .ok (.aload_n 0, 1) := by decide +kernel
theorem dX6_setOff_76 : decode cX6_setOff 76 = .ok (.getfield 19, 3) := by decide +kernel
theorem dX6_setOff_79 : decode cX6_setOff 79 = .ok (.invokevirtual 172, 3) := by decide +kernel
theorem dX6_setOff_82 : decode cX6_setOff 82 = .ok (.pop, 1) := by decide +kernel
theorem dX6_setOff_83 : decode cX6_setOff 83 = .ok (.iload 6, 2) := by decide +kernel
theorem dX6_setOff_85 : decode cX6_setOff 85 = .ok (.ifCond .eq 17, 3) := by decide +kernel
theorem dX6_setOff_88 : decode cX6_setOff 88 = .ok (.aload_n 0, 1) := by decide +kernel
theorem dX6_setOff_89 : decode cX6_setOff 89 = .ok (.getfield 19, 3) := by decide +kernel
theorem dX6_setOff_92 : decode cX6_setOff 92 = .ok (.iload_n 1, 1) := by decide +kernel
theorem dX6_setOff_93 : decode cX6_setOff 93 = .ok (.invokevirtual 180, 3) := by decide +kernel
theorem dX6_setOff_96 : decode cX6_setOff 96 = .ok (.ifCond .eq 6, 3) := by decide +kernel
theorem dX6_setOff_99 : decode cX6_setOff 99 = .ok (.iinc 4 1, 3) := by decide +kernel
theorem dX6_setOff_102 : decode cX6_setOff 102 = .ok (.iinc 5 1, 3) := by decide +kernel
theorem dX6_setOff_105 : decode cX6_setOff 105 = .ok (.goto (-46), 3) := by decide +kernel
theorem dX6_setOff_108 : decode cX6_setOff 108 = .ok (.iload 4, 2) := by decide +kernel
theorem dX6_setOff_110 : decode cX6_setOff 110 = .ok (.ireturn, 1) := by decide +kernel
theorem dX6_loudest_0 : decode cX6_loudest 0 = .ok (.ldc 125, 2) := by decide +kernel
theorem dX6_loudest_2 : decode cX6_loudest 2 = .ok (.istore_n 1, 1) := by decide +kernel
theorem dX6_loudest_3 : decode cX6_loudest 3 = .ok (.iconst (-1), 1) := by decide +kernel
theorem dX6_loudest_4 : decode cX6_loudest 4 = .ok (.istore_n 2, 1) := by decide +kernel
theorem dX6_loudest_5 : decode cX6_loudest 5 = .ok (.iconst 0, 1) := by decide +kernel
theorem dX6_loudest_6 : decode cX6_loudest 6 = .ok (.istore_n 3, 1) := by decide +kernel
theorem dX6_loudest_7 : decode cX6_loudest 7 = .ok (.iload_n 3, 1) := by decide +kernel
theorem dX6_loudest_8 : decode cX6_loudest 8 = .ok (.aload_n 0, 1) := by decide +kernel
theorem dX6_loudest_9 : decode cX6_loudest 9 = .ok (.getfield 12, 3) := by decide +kernel
theorem dX6_loudest_12 : decode cX6_loudest 12 = .ok (.getfield 61, 3) := by decide +kernel
theorem dX6_loudest_15 : decode cX6_loudest 15 = .ok (.if_icmp .ge 40, 3) := by decide +kernel
theorem dX6_loudest_18 : decode cX6_loudest 18 = .ok (.aload_n 0, 1) := by decide +kernel
theorem dX6_loudest_19 : decode cX6_loudest 19 = .ok (.getfield 12, 3) := by decide +kernel
theorem dX6_loudest_22 : decode cX6_loudest 22 = .ok (.getfield 74, 3) := by decide +kernel
theorem dX6_loudest_25 : decode cX6_loudest 25 = .ok (.iload_n 3, 1) := by decide +kernel
theorem dX6_loudest_26 : decode cX6_loudest 26 = .ok (.aaload, 1) := by decide +kernel
theorem dX6_loudest_27 : decode cX6_loudest 27 = .ok (.getfield 95, 3) := by decide +kernel
theorem dX6_loudest_30 : decode cX6_loudest 30 = .ok (.iload_n 2, 1) := by decide +kernel
theorem dX6_loudest_31 : decode cX6_loudest 31 = .ok (.if_icmp .le 18, 3) := by decide +kernel
theorem dX6_loudest_34 : decode cX6_loudest 34 = .ok (.aload_n 0, 1) := by decide +kernel
theorem dX6_loudest_35 : decode cX6_loudest 35 = .ok (.getfield 12, 3) := by decide +kernel
theorem dX6_loudest_38 : decode cX6_loudest 38 = .ok (.getfield 74, 3) := by decide +kernel
theorem dX6_loudest_41 : decode cX6_loudest 41 = .ok (.iload_n 3, 1) := by decide +kernel
theorem dX6_loudest_42 : decode cX6_loudest 42 = .ok (.aaload, 1) := by decide +kernel
theorem dX6_loudest_43 : decode cX6_loudest 43 = .ok (.getfield 95, 3) := by decide +kernel
theorem dX6_loudest_46 : decode cX6_loudest 46 = .ok (.istore_n 2, 1) := by decide +kernel
theorem dX6_loudest_47 : decode cX6_loudest 47 = .ok (.iload_n 3, 1) := by decide +kernel
theorem dX6_loudest_48 : decode cX6_loudest 48 = .ok (.istore_n 1, 1) := by decide +kernel
theorem dX6_loudest_49 : decode cX6_loudest 49 = .ok (.iinc 3 1, 3) := by decide +kernel
theorem dX6_loudest_52 : decode cX6_loudest 52 = .ok (.goto (-45), 3) := by decide +kernel
theorem dX6_loudest_55 : decode cX6_loudest 55 = .ok (.iload_n 1, 1) := by decide +kernel
theorem dX6_loudest_56 : decode cX6_loudest 56 = .ok (.ireturn, 1) := by decide +kernel
theorem dX6_toldBy_0 : decode cX6_toldBy 0 = .ok (.iload_n 1, 1) := by decide +kernel
theorem dX6_toldBy_1 : decode cX6_toldBy 1 = .ok (.iconst 4, 1) := by decide +kernel
theorem dX6_toldBy_2 : decode cX6_toldBy 2 = .ok (.invokestatic 51, 3) := by decide +kernel
theorem dX6_toldBy_5 : decode cX6_toldBy 5 = .ok (.ifCond .eq 23, 3) := by decide +kernel
theorem dX6_toldBy_8 : decode cX6_toldBy 8 = .ok (.aload_n 0, 1) := by decide +kernel
theorem dX6_toldBy_9 : decode cX6_toldBy 9 = .ok (.getfield 12, 3) := by decide +kernel
theorem dX6_toldBy_12 : decode cX6_toldBy 12 = .ok (.iload_n 2, 1) := by decide +kernel
theorem dX6_toldBy_13 : decode cX6_toldBy 13 = .ok (.invokevirtual 70, 3) := by decide +kernel
theorem dX6_toldBy_16 : decode cX6_toldBy 16 = .ok (.ifCond .eq 12, 3) := by decide +kernel
theorem dX6_toldBy_19 : decode cX6_toldBy 19 = .ok (.iload_n 3, 1) := by decide +kernel
theorem dX6_toldBy_20 : decode cX6_toldBy 20 = .ok (.ifCond .lt 8, 3) := by decide +kernel
theorem dX6_toldBy_23 : decode cX6_toldBy 23 = .ok (.iload_n 3, 1) := by decide +kernel
theorem dX6_toldBy_24 : decode cX6_toldBy 24 = .ok (.iconst 1, 1) := by decide +kernel
theorem dX6_toldBy_25 : decode cX6_toldBy 25 = .ok (.if_icmp .le 6, 3) := by decide +kernel
theorem dX6_toldBy_28 : decode cX6_toldBy 28 = .ok (.ldc 55, 2) := by decide +kernel
theorem dX6_toldBy_30 : decode cX6_toldBy 30 = .ok (.ireturn, 1) := by decide +kernel
theorem dX6_toldBy_31 : decode cX6_toldBy 31 = .ok (.aload_n 0, 1) := by decide +kernel
theorem dX6_toldBy_32 : decode cX6_toldBy 32 = .ok (.getfield 31, 3) := by decide +kernel
theorem dX6_toldBy_35 : decode cX6_toldBy 35 = .ok (.iload_n 1, 1) := by decide +kernel
theorem dX6_toldBy_36 : decode cX6_toldBy 36 = .ok (.aaload, 1) := by decide +kernel
theorem dX6_toldBy_37 : decode cX6_toldBy 37 = .ok (.astore 4, 2) := by decide +kernel
theorem dX6_toldBy_39 : decode cX6_toldBy 39 = .ok (.aload 4, 2) := by decide +kernel
theorem dX6_toldBy_41 : decode cX6_toldBy 41 = .ok (.getfield 183, 3) := by decide +kernel
theorem dX6_toldBy_44 : decode cX6_toldBy 44 = .ok (.iconst (-1), 1) := by decide +kernel
theorem dX6_toldBy_45 : decode cX6_toldBy 45 = .ok (.if_icmp .ne 6, 3) := by decide +kernel
theorem dX6_toldBy_48 : decode cX6_toldBy 48 = .ok (.ldc 186, 2) := by decide +kernel
theorem dX6_toldBy_50 : decode cX6_toldBy 50 = .ok (.ireturn, 1) := by decide +kernel
theorem dX6_toldBy_51 : decode cX6_toldBy 51 = .ok (.iconst 0, 1) := by decide +kernel
theorem dX6_toldBy_52 : decode cX6_toldBy 52 = .ok (.istore 5, 2) := by decide +kernel
theorem dX6_toldBy_54 : decode cX6_toldBy 54 = .ok (.ldc 175, 2) := by decide +kernel
theorem dX6_toldBy_56 : decode cX6_toldBy 56 = .ok (.istore 6, 2) := by decide +kernel
theorem dX6_toldBy_58 : decode cX6_toldBy 58 = .ok (.iconst 0, 1) := by decide +kernel
theorem dX6_toldBy_59 : decode cX6_toldBy 59 = .ok (.istore 7, 2) := by decide +kernel
theorem dX6_toldBy_61 : decode cX6_toldBy 61 = .ok (.iload 7, 2) := by decide +kernel
theorem dX6_toldBy_63 : decode cX6_toldBy 63 = .ok (.bipush 6, 2) := by decide +kernel
theorem dX6_toldBy_65 : decode cX6_toldBy 65 = .ok (.if_icmp .ge 35, 3) := by decide +kernel
theorem dX6_toldBy_68 : decode cX6_toldBy 68 = .ok (.aload_n 0, 1) := by decide +kernel
theorem dX6_toldBy_69 : decode cX6_toldBy 69 = .ok (.aload 4, 2) := by decide +kernel
theorem dX6_toldBy_71 : decode cX6_toldBy 71 = .ok (.iload_n 2, 1) := by decide +kernel
theorem dX6_toldBy_72 : decode cX6_toldBy 72 = .ok (.iload 7, 2) := by decide +kernel
theorem dX6_toldBy_74 : decode cX6_toldBy 74 = .ok (.invokevirtual 187, 3) := by decide +kernel
theorem dX6_toldBy_77 : decode cX6_toldBy 77 = .ok (.istore 8, 2) := by decide +kernel
theorem dX6_toldBy_79 : decode cX6_toldBy 79 = .ok (.iload 8, 2) := by decide +kernel
theorem dX6_toldBy_81 : decode cX6_toldBy 81 = .ok (.iload 6, 2) := by decide +kernel
theorem dX6_toldBy_83 : decode cX6_toldBy 83 = .ok (.if_icmp .ge 11, 3) := by decide +kernel
theorem dX6_toldBy_86 : decode cX6_toldBy 86 = .ok (.iload 8, 2) := by decide +kernel
theorem dX6_toldBy_88 : decode cX6_toldBy 88 = .ok (.istore 6, 2) := by decide +kernel
theorem dX6_toldBy_90 : decode cX6_toldBy 90 = .ok (.iload 7, 2) := by decide +kernel
theorem dX6_toldBy_92 : decode cX6_toldBy 92 = .ok (.istore 5, 2) := by decide +kernel
theorem dX6_toldBy_94 : decode cX6_toldBy 94 = .ok (.iinc 7 1, 3) := by decide +kernel
theorem dX6_toldBy_97 : decode cX6_toldBy 97 = .ok (.goto (-36), 3) := by decide +kernel
theorem dX6_toldBy_100 : decode cX6_toldBy 100 = .ok (.iload_n 3, 1) := by decide +kernel
theorem dX6_toldBy_101 : decode cX6_toldBy 101 = .ok (.ifCond .ne 8, 3) := by decide +kernel
theorem dX6_toldBy_104 : decode cX6_toldBy 104 = .ok (.iload 5, 2) := by decide +kernel
theorem dX6_toldBy_106 : decode cX6_toldBy 106 = .ok (.goto 5, 3) := by decide +kernel
theorem dX6_toldBy_109 : decode cX6_toldBy 109 = .ok (.iload 6, 2) := by decide +kernel
theorem dX6_toldBy_111 : decode cX6_toldBy 111 = .ok (.ireturn, 1) := by decide +kernel
theorem dX6_fine_0 : decode cX6_fine 0 = .ok (.aload_n 0, 1) := by decide +kernel
theorem dX6_fine_1 : decode cX6_fine 1 = .ok (.getfield 12, 3) := by decide +kernel
theorem dX6_fine_4 : decode cX6_fine 4 = .ok (.iload_n 1, 1) := by decide +kernel
theorem dX6_fine_5 : decode cX6_fine 5 = .ok (.invokevirtual 70, 3) := by decide +kernel
theorem dX6_fine_8 : decode cX6_fine 8 = .ok (.ifCond .eq 22, 3) := by decide +kernel
theorem dX6_fine_11 : decode cX6_fine 11 = .ok (.aload_n 0, 1) := by decide +kernel
theorem dX6_fine_12 : decode cX6_fine 12 = .ok (.getfield 12, 3) := by decide +kernel
theorem dX6_fine_15 : decode cX6_fine 15 = .ok (.aload_n 0, 1) := by decide +kernel
theorem dX6_fine_16 : decode cX6_fine 16 = .ok (.getfield 12, 3) := by decide +kernel
theorem dX6_fine_19 : decode cX6_fine 19 = .ok (.getfield 74, 3) := by decide +kernel
theorem dX6_fine_22 : decode cX6_fine 22 = .ok (.iload_n 1, 1) := by decide +kernel
theorem dX6_fine_23 : decode cX6_fine 23 = .ok (.aaload, 1) := by decide +kernel
theorem dX6_fine_24 : decode cX6_fine 24 = .ok (.invokevirtual 191, 3) := by decide +kernel
theorem dX6_fine_27 : decode cX6_fine 27 = .ok (.goto 5, 3) := by decide +kernel
theorem dX6_fine_30 : decode cX6_fine 30 = .ok (.ldc 55, 2) := by decide +kernel
theorem dX6_fine_32 : decode cX6_fine 32 = .ok (.ireturn, 1) := by decide +kernel
theorem dX6_feed_0 : decode cX6_feed 0 = .ok (.aload_n 0, 1) := by decide +kernel
theorem dX6_feed_1 : decode cX6_feed 1 = .ok (.getfield 194, 3) := by decide +kernel
theorem dX6_feed_4 : decode cX6_feed 4 = .ok (.bipush 12, 2) := by decide +kernel
theorem dX6_feed_6 : decode cX6_feed 6 = .ok (.iadd, 1) := by decide +kernel
theorem dX6_feed_7 : decode cX6_feed 7 = .ok (.bipush 96, 2) := by decide +kernel
theorem dX6_feed_9 : decode cX6_feed 9 = .ok (.if_icmp .le 6, 3) := by decide +kernel
theorem dX6_feed_12 : decode cX6_feed 12 = .ok (.ldc 65, 2) := by decide +kernel
theorem dX6_feed_14 : decode cX6_feed 14 = .ok (.ireturn, 1) := by decide +kernel
theorem dX6_feed_15 : decode cX6_feed 15 = .ok (.aload_n 0, 1) := by decide +kernel
theorem dX6_feed_16 : decode cX6_feed 16 = .ok (.iload_n 1, 1) := by decide +kernel
theorem dX6_feed_17 : decode cX6_feed 17 = .ok (.invokevirtual 197, 3) := by decide +kernel
theorem dX6_feed_20 : decode cX6_feed 20 = .ok (.aload_n 0, 1) := by decide +kernel
theorem dX6_feed_21 : decode cX6_feed 21 = .ok (.iload_n 2, 1) := by decide +kernel
theorem dX6_feed_22 : decode cX6_feed 22 = .ok (.invokevirtual 197, 3) := by decide +kernel
theorem dX6_feed_25 : decode cX6_feed 25 = .ok (.aload_n 0, 1) := by decide +kernel
theorem dX6_feed_26 : decode cX6_feed 26 = .ok (.iload_n 3, 1) := by decide +kernel
theorem dX6_feed_27 : decode cX6_feed 27 = .ok (.invokevirtual 197, 3) := by decide +kernel
theorem dX6_feed_30 : decode cX6_feed 30 = .ok (.aload_n 0, 1) := by decide +kernel
theorem dX6_feed_31 : decode cX6_feed 31 = .ok (.getfield 194, 3) := by decide +kernel
theorem dX6_feed_34 : decode cX6_feed 34 = .ok (.ireturn, 1) := by decide +kernel
theorem dX6_trim_0 : decode cX6_trim 0 = .ok (.iload_n 1, 1) := by decide +kernel
theorem dX6_trim_1 : decode cX6_trim 1 = .ok (.ifCond .lt 11, 3) := by decide +kernel
theorem dX6_trim_4 : decode cX6_trim 4 = .ok (.iload_n 1, 1) := by decide +kernel
theorem dX6_trim_5 : decode cX6_trim 5 = .ok (.aload_n 0, 1) := by decide +kernel
theorem dX6_trim_6 : decode cX6_trim 6 = .ok (.getfield 194, 3) := by decide +kernel
theorem dX6_trim_9 : decode cX6_trim 9 = .ok (.if_icmp .le 6, 3) := by decide +kernel
theorem dX6_trim_12 : decode cX6_trim 12 = .ok (.ldc 55, 2) := by decide +kernel
theorem dX6_trim_14 : decode cX6_trim 14 = .ok (.ireturn, 1) := by decide +kernel
theorem dX6_trim_15 : decode cX6_trim 15 = .ok (.aload_n 0, 1) := by decide +kernel
theorem dX6_trim_16 : decode cX6_trim 16 = .ok (.iload_n 1, 1) := by decide +kernel
theorem dX6_trim_17 : decode cX6_trim 17 = .ok (.putfield 194, 3) := by decide +kernel
theorem dX6_trim_20 : decode cX6_trim 20 = .ok (.iload_n 1, 1) := by decide +kernel
theorem dX6_trim_21 : decode cX6_trim 21 = .ok (.ireturn, 1) := by decide +kernel
theorem dX6_text_0 : decode cX6_text 0 = .ok (.aload_n 0, 1) := by decide +kernel
theorem dX6_text_1 : decode cX6_text 1 = .ok (.getfield 25, 3) := by decide +kernel
theorem dX6_text_4 : decode cX6_text 4 = .ok (.aload_n 0, 1) := by decide +kernel
theorem dX6_text_5 : decode cX6_text 5 = .ok (.getfield 41, 3) := by decide +kernel
theorem dX6_text_8 : decode cX6_text 8 = .ok (.aload_n 0, 1) := by decide +kernel
theorem dX6_text_9 : decode cX6_text 9 = .ok (.getfield 194, 3) := by decide +kernel
theorem dX6_text_12 : decode cX6_text 12 = .ok (.invokevirtual 201, 3) := by decide +kernel
theorem dX6_text_15 : decode cX6_text 15 = .ok (.astore_n 1, 1) := by decide +kernel
theorem dX6_text_16 : decode cX6_text 16 = .ok (.aload_n 0, 1) := by decide +kernel
theorem dX6_text_17 : decode cX6_text 17 = .ok (.iconst 0, 1) := by decide +kernel
theorem dX6_text_18 : decode cX6_text 18 = .ok (.putfield 194, 3) := by decide +kernel
theorem dX6_text_21 : decode cX6_text 21 = .ok (.aload_n 1, 1) := by decide +kernel
theorem dX6_text_22 : decode cX6_text 22 = .ok (.ifnonnull 14, 3) := by decide +kernel
theorem dX6_text_25 : decode cX6_text 25 = .ok (.bipush (-100), 2) := by decide +kernel
theorem dX6_text_27 : decode cX6_text 27 = .ok (.aload_n 0, 1) := by decide +kernel
theorem dX6_text_28 : decode cX6_text 28 = .ok (.getfield 25, 3) := by decide +kernel
theorem dX6_text_31 : decode cX6_text 31 = .ok (.getfield 205, 3) := by decide +kernel
theorem dX6_text_34 : decode cX6_text 34 = .ok (.isub, 1) := by decide +kernel
theorem dX6_text_35 : decode cX6_text 35 = .ok (.ireturn, 1) := by decide +kernel
theorem dX6_text_36 : decode cX6_text 36 = .ok (.aload_n 0, 1) := by decide +kernel
theorem dX6_text_37 : decode cX6_text 37 = .ok (.getfield 12, 3) := by decide +kernel
theorem dX6_text_40 : decode cX6_text 40 = .ok (.getfield 208, 3) := by decide +kernel
theorem dX6_text_43 : decode cX6_text 43 = .ok (.bipush 14, 2) := by decide +kernel
theorem dX6_text_45 : decode cX6_text 45 = .ok (.if_icmp .lt 8, 3) := by decide +kernel
theorem dX6_text_48 : decode cX6_text 48 = .ok (.ldc 65, 2) := by decide +kernel
theorem dX6_text_50 : decode cX6_text 50 = .ok (.goto 11, 3) := by decide +kernel
theorem dX6_text_53 : decode cX6_text 53 = .ok (.aload_n 0, 1) := by decide +kernel
theorem dX6_text_54 : decode cX6_text 54 = .ok (.getfield 12, 3) := by decide +kernel
theorem dX6_text_57 : decode cX6_text 57 = .ok (.aload_n 1, 1) := by decide +kernel
theorem dX6_text_58 : decode cX6_text 58 = .ok (.invokevirtual 211, 3) := by decide +kernel
theorem dX6_text_61 : decode cX6_text 61 = .ok (.ireturn, 1) := by decide +kernel
theorem dX6_textTold_0 : decode cX6_textTold 0 = .ok (.aload_n 0, 1) := by decide +kernel
theorem dX6_textTold_1 : decode cX6_textTold 1 = .ok (.getfield 12, 3) := by decide +kernel
theorem dX6_textTold_4 : decode cX6_textTold 4 = .ok (.iload_n 1, 1) := by decide +kernel
theorem dX6_textTold_5 : decode cX6_textTold 5 = .ok (.invokevirtual 215, 3) := by decide +kernel
theorem dX6_textTold_8 : decode cX6_textTold 8 = .ok (.astore_n 3, 1) := by decide +kernel
theorem dX6_textTold_9 : decode cX6_textTold 9 = .ok (.aload_n 3, 1) := by decide +kernel
theorem dX6_textTold_10 : decode cX6_textTold 10 = .ok (.ifnull 12, 3) := by decide +kernel
theorem dX6_textTold_13 : decode cX6_textTold 13 = .ok (.iload_n 2, 1) := by decide +kernel
theorem dX6_textTold_14 : decode cX6_textTold 14 = .ok (.ifCond .lt 8, 3) := by decide +kernel
theorem dX6_textTold_17 : decode cX6_textTold 17 = .ok (.iload_n 2, 1) := by decide +kernel
theorem dX6_textTold_18 : decode cX6_textTold 18 = .ok (.iconst 1, 1) := by decide +kernel
theorem dX6_textTold_19 : decode cX6_textTold 19 = .ok (.if_icmp .le 6, 3) := by decide +kernel
theorem dX6_textTold_22 : decode cX6_textTold 22 = .ok (.ldc 55, 2) := by decide +kernel
theorem dX6_textTold_24 : decode cX6_textTold 24 = .ok (.ireturn, 1) := by decide +kernel
theorem dX6_textTold_25 : decode cX6_textTold 25 = .ok (.iload_n 2, 1) := by decide +kernel
theorem dX6_textTold_26 : decode cX6_textTold 26 = .ok (.ifCond .ne 10, 3) := by decide +kernel
theorem dX6_textTold_29 : decode cX6_textTold 29 = .ok (.aload_n 3, 1) := by decide +kernel
theorem dX6_textTold_30 : decode cX6_textTold 30 = .ok (.getfield 219, 3) := by decide +kernel
theorem dX6_textTold_33 : decode cX6_textTold 33 = .ok (.goto 7, 3) := by decide +kernel
theorem dX6_textTold_36 : decode cX6_textTold 36 = .ok (.aload_n 3, 1) := by decide +kernel
theorem dX6_textTold_37 : decode cX6_textTold 37 = .ok (.getfield 224, 3) := by decide +kernel
theorem dX6_textTold_40 : decode cX6_textTold 40 = .ok (.ireturn, 1) := by decide +kernel
theorem dX6_why_0 : decode cX6_why 0 = .ok (.iload_n 1, 1) := by decide +kernel
theorem dX6_why_1 : decode cX6_why 1 = .ok (.iconst 3, 1) := by decide +kernel
theorem dX6_why_2 : decode cX6_why 2 = .ok (.invokestatic 51, 3) := by decide +kernel
theorem dX6_why_5 : decode cX6_why 5 = .ok (.ifCond .ne 6, 3) := by decide +kernel
theorem dX6_why_8 : decode cX6_why 8 = .ok (.ldc 55, 2) := by decide +kernel
theorem dX6_why_10 : decode cX6_why 10 = .ok (.ireturn, 1) := by decide +kernel
theorem dX6_why_11 : decode cX6_why 11 = .ok (.aload_n 0, 1) := by decide +kernel
theorem dX6_why_12 : decode cX6_why 12 = .ok (.getfield 12, 3) := by decide +kernel
theorem dX6_why_15 : decode cX6_why 15 = .ok (.getfield 227, 3) := by decide +kernel
theorem dX6_why_18 : decode cX6_why 18 = .ok (.iload_n 1, 1) := by decide +kernel
theorem dX6_why_19 : decode cX6_why 19 = .ok (.iaload, 1) := by decide +kernel
theorem dX6_why_20 : decode cX6_why 20 = .ok (.ifCond .ge 8, 3) := by decide +kernel
theorem dX6_why_23 : decode cX6_why 23 = .ok (.ldc 125, 2) := by decide +kernel
theorem dX6_why_25 : decode cX6_why 25 = .ok (.goto 12, 3) := by decide +kernel
theorem dX6_why_28 : decode cX6_why 28 = .ok (.aload_n 0, 1) := by decide +kernel
theorem dX6_why_29 : decode cX6_why 29 = .ok (.getfield 12, 3) := by decide +kernel
theorem dX6_why_32 : decode cX6_why 32 = .ok (.getfield 227, 3) := by decide +kernel
theorem dX6_why_35 : decode cX6_why 35 = .ok (.iload_n 1, 1) := by decide +kernel
theorem dX6_why_36 : decode cX6_why 36 = .ok (.iaload, 1) := by decide +kernel
theorem dX6_why_37 : decode cX6_why 37 = .ok (.ireturn, 1) := by decide +kernel
theorem dX6_sheet_0 : decode cX6_sheet 0 = .ok (.iload_n 1, 1) := by decide +kernel
theorem dX6_sheet_1 : decode cX6_sheet 1 = .ok (.iconst 4, 1) := by decide +kernel
theorem dX6_sheet_2 : decode cX6_sheet 2 = .ok (.invokestatic 51, 3) := by decide +kernel
theorem dX6_sheet_5 : decode cX6_sheet 5 = .ok (.ifCond .eq 13, 3) := by decide +kernel
theorem dX6_sheet_8 : decode cX6_sheet 8 = .ok (.iload_n 2, 1) := by decide +kernel
theorem dX6_sheet_9 : decode cX6_sheet 9 = .ok (.iconst (-1), 1) := by decide +kernel
theorem dX6_sheet_10 : decode cX6_sheet 10 = .ok (.if_icmp .lt 8, 3) := by decide +kernel
theorem dX6_sheet_13 : decode cX6_sheet 13 = .ok (.iload_n 2, 1) := by decide +kernel
theorem dX6_sheet_14 : decode cX6_sheet 14 = .ok (.iconst 1, 1) := by decide +kernel
theorem dX6_sheet_15 : decode cX6_sheet 15 = .ok (.if_icmp .le 6, 3) := by decide +kernel
theorem dX6_sheet_18 : decode cX6_sheet 18 = .ok (.ldc 55, 2) := by decide +kernel
theorem dX6_sheet_20 : decode cX6_sheet 20 = .ok (.ireturn, 1) := by decide +kernel
theorem dX6_sheet_21 : decode cX6_sheet 21 = .ok (.iload_n 2, 1) := by decide +kernel
theorem dX6_sheet_22 : decode cX6_sheet 22 = .ok (.iconst (-1), 1) := by decide +kernel
theorem dX6_sheet_23 : decode cX6_sheet 23 = .ok (.if_icmp .ne 16, 3) := by decide +kernel
theorem dX6_sheet_26 : decode cX6_sheet 26 = .ok (.aload_n 0, 1) := by decide +kernel
theorem dX6_sheet_27 : decode cX6_sheet 27 = .ok (.getfield 31, 3) := by decide +kernel
theorem dX6_sheet_30 : decode cX6_sheet 30 = .ok (.iload_n 1, 1) := by decide +kernel
theorem dX6_sheet_31 : decode cX6_sheet 31 = .ok (.aaload, 1) := by decide +kernel
theorem dX6_sheet_32 : decode cX6_sheet 32 = .ok (.iconst (-1), 1) := by decide +kernel
theorem dX6_sheet_33 : decode cX6_sheet 33 = .ok (.iconst 0, 1) := by decide +kernel
theorem dX6_sheet_34 : decode cX6_sheet 34 = .ok (.invokevirtual 230, 3) := by decide +kernel
theorem dX6_sheet_37 : decode cX6_sheet 37 = .ok (.iconst 0, 1) := by decide +kernel
theorem dX6_sheet_38 : decode cX6_sheet 38 = .ok (.ireturn, 1) := by decide +kernel
theorem dX6_sheet_39 : decode cX6_sheet 39 = .ok (.iload_n 3, 1) := by decide +kernel
theorem dX6_sheet_40 : decode cX6_sheet 40 = .ok (.bipush 24, 2) := by decide +kernel
theorem dX6_sheet_42 : decode cX6_sheet 42 = .ok (.if_icmp .le 6, 3) := by decide +kernel
theorem dX6_sheet_45 : decode cX6_sheet 45 = .ok (.ldc 55, 2) := by decide +kernel
theorem dX6_sheet_47 : decode cX6_sheet 47 = .ok (.ireturn, 1) := by decide +kernel
theorem dX6_sheet_48 : decode cX6_sheet 48 = .ok (.iload_n 3, 1) := by decide +kernel
theorem dX6_sheet_49 : decode cX6_sheet 49 = .ok (.ifCond .ge 6, 3) := by decide +kernel
theorem dX6_sheet_52 : decode cX6_sheet 52 = .ok (.ldc 233, 2) := by decide +kernel
theorem dX6_sheet_54 : decode cX6_sheet 54 = .ok (.ireturn, 1) := by decide +kernel
theorem dX6_sheet_55 : decode cX6_sheet 55 = .ok (.aload_n 0, 1) := by decide +kernel
theorem dX6_sheet_56 : decode cX6_sheet 56 = .ok (.getfield 31, 3) := by decide +kernel
theorem dX6_sheet_59 : decode cX6_sheet 59 = .ok (.iload_n 1, 1) := by decide +kernel
theorem dX6_sheet_60 : decode cX6_sheet 60 = .ok (.aaload, 1) := by decide +kernel
theorem dX6_sheet_61 : decode cX6_sheet 61 = .ok (.iload_n 2, 1) := by decide +kernel
theorem dX6_sheet_62 : decode cX6_sheet 62 = .ok (.iload_n 3, 1) := by decide +kernel
theorem dX6_sheet_63 : decode cX6_sheet 63 = .ok (.invokevirtual 230, 3) := by decide +kernel
theorem dX6_sheet_66 : decode cX6_sheet 66 = .ok (.iload_n 3, 1) := by decide +kernel
theorem dX6_sheet_67 : decode cX6_sheet 67 = .ok (.ireturn, 1) := by decide +kernel
theorem dX6_mark_0 : decode cX6_mark 0 = .ok (.iload_n 1, 1) := by decide +kernel
theorem dX6_mark_1 : decode cX6_mark 1 = .ok (.iconst 4, 1) := by decide +kernel
theorem dX6_mark_2 : decode cX6_mark 2 = .ok (.invokestatic 51, 3) := by decide +kernel
theorem dX6_mark_5 : decode cX6_mark 5 = .ok (.ifCond .ne 6, 3) := by decide +kernel
theorem dX6_mark_8 : decode cX6_mark 8 = .ok (.ldc 55, 2) := by decide +kernel
theorem dX6_mark_10 : decode cX6_mark 10 = .ok (.ireturn, 1) := by decide +kernel
theorem dX6_mark_11 : decode cX6_mark 11 = .ok (.aload_n 0, 1) := by decide +kernel
theorem dX6_mark_12 : decode cX6_mark 12 = .ok (.getfield 31, 3) := by decide +kernel
theorem dX6_mark_15 : decode cX6_mark 15 = .ok (.iload_n 1, 1) := by decide +kernel
theorem dX6_mark_16 : decode cX6_mark 16 = .ok (.aaload, 1) := by decide +kernel
theorem dX6_mark_17 : decode cX6_mark 17 = .ok (.astore 4, 2) := by decide +kernel
theorem dX6_mark_19 : decode cX6_mark 19 = .ok (.aload 4, 2) := by decide +kernel
theorem dX6_mark_21 : decode cX6_mark 21 = .ok (.getfield 183, 3) := by decide +kernel
theorem dX6_mark_24 : decode cX6_mark 24 = .ok (.iconst (-1), 1) := by decide +kernel
theorem dX6_mark_25 : decode cX6_mark 25 = .ok (.if_icmp .ne 6, 3) := by decide +kernel
theorem dX6_mark_28 : decode cX6_mark 28 = .ok (.ldc 186, 2) := by decide +kernel
theorem dX6_mark_30 : decode cX6_mark 30 = .ok (.ireturn, 1) := by decide +kernel
theorem dX6_mark_31 : decode cX6_mark 31 = .ok (.iload_n 2, 1) := by decide +kernel
theorem dX6_mark_32 : decode cX6_mark 32 = .ok (.aload 4, 2) := by decide +kernel
theorem dX6_mark_34 : decode cX6_mark 34 = .ok (.getfield 234, 3) := by decide +kernel
theorem dX6_mark_37 : decode cX6_mark 37 = .ok (.invokestatic 51, 3) := by decide +kernel
theorem dX6_mark_40 : decode cX6_mark 40 = .ok (.ifCond .ne 6, 3) := by decide +kernel
theorem dX6_mark_43 : decode cX6_mark 43 = .ok (.ldc 235, 2) := by decide +kernel
theorem dX6_mark_45 : decode cX6_mark 45 = .ok (.ireturn, 1) := by decide +kernel
theorem dX6_mark_46 : decode cX6_mark 46 = .ok (.aload 4, 2) := by decide +kernel
theorem dX6_mark_48 : decode cX6_mark 48 = .ok (.getfield 183, 3) := by decide +kernel
theorem dX6_mark_51 : decode cX6_mark 51 = .ok (.ifCond .ne 23, 3) := by decide +kernel
theorem dX6_mark_54 : decode cX6_mark 54 = .ok (.iload_n 3, 1) := by decide +kernel
theorem dX6_mark_55 : decode cX6_mark 55 = .ok (.ldc 125, 2) := by decide +kernel
theorem dX6_mark_57 : decode cX6_mark 57 = .ok (.if_icmp .ne 6, 3) := by decide +kernel
theorem dX6_mark_60 : decode cX6_mark 60 = .ok (.ldc 115, 2) := by decide +kernel
theorem dX6_mark_62 : decode cX6_mark 62 = .ok (.ireturn, 1) := by decide +kernel
theorem dX6_mark_63 : decode cX6_mark 63 = .ok (.aload 4, 2) := by decide +kernel
theorem dX6_mark_65 : decode cX6_mark 65 = .ok (.getfield 236, 3) := by decide +kernel
theorem dX6_mark_68 : decode cX6_mark 68 = .ok (.iload_n 2, 1) := by decide +kernel
theorem dX6_mark_69 : decode cX6_mark 69 = .ok (.iload_n 3, 1) := by decide +kernel
theorem dX6_mark_70 : decode cX6_mark 70 = .ok (.i2s, 1) := by decide +kernel
theorem dX6_mark_71 : decode cX6_mark 71 = .ok (.iastore, 1) := by decide +kernel
theorem dX6_mark_72 : decode cX6_mark 72 = .ok (.iconst 1, 1) := by decide +kernel
theorem dX6_mark_73 : decode cX6_mark 73 = .ok (.ireturn, 1) := by decide +kernel
theorem dX6_mark_74 : decode cX6_mark 74 = .ok (.iload_n 3, 1) := by decide +kernel
theorem dX6_mark_75 : decode cX6_mark 75 = .ok (.ldc 125, 2) := by decide +kernel
theorem dX6_mark_77 : decode cX6_mark 77 = .ok (.if_icmp .eq 18, 3) := by decide +kernel
theorem dX6_mark_80 : decode cX6_mark 80 = .ok (.iload_n 3, 1) := by decide +kernel
theorem dX6_mark_81 : decode cX6_mark 81 = .ok (.ldc 239, 2) := by decide +kernel
theorem dX6_mark_83 : decode cX6_mark 83 = .ok (.if_icmp .lt 9, 3) := by decide +kernel
theorem dX6_mark_86 : decode cX6_mark 86 = .ok (.iload_n 3, 1) := by decide +kernel
theorem dX6_mark_87 : decode cX6_mark 87 = .ok (.ldc 240, 2) := by decide +kernel
theorem dX6_mark_89 : decode cX6_mark 89 = .ok (.if_icmp .le 6, 3) := by decide +kernel
theorem dX6_mark_92 : decode cX6_mark 92 = .ok (.ldc 55, 2) := by decide +kernel
theorem dX6_mark_94 : decode cX6_mark 94 = .ok (.ireturn, 1) := by decide +kernel
theorem dX6_mark_95 : decode cX6_mark 95 = .ok (.aload 4, 2) := by decide +kernel
theorem dX6_mark_97 : decode cX6_mark 97 = .ok (.getfield 236, 3) := by decide +kernel
theorem dX6_mark_100 : decode cX6_mark 100 = .ok (.iload_n 2, 1) := by decide +kernel
theorem dX6_mark_101 : decode cX6_mark 101 = .ok (.iload_n 3, 1) := by decide +kernel
theorem dX6_mark_102 : decode cX6_mark 102 = .ok (.ldc 125, 2) := by decide +kernel
theorem dX6_mark_104 : decode cX6_mark 104 = .ok (.if_icmp .ne 8, 3) := by decide +kernel
theorem dX6_mark_107 : decode cX6_mark 107 = .ok (.ldc 125, 2) := by decide +kernel
theorem dX6_mark_109 : decode cX6_mark 109 = .ok (.goto 4, 3) := by decide +kernel
theorem dX6_mark_112 : decode cX6_mark 112 = .ok (.iload_n 3, 1) := by decide +kernel
theorem dX6_mark_113 : decode cX6_mark 113 = .ok (.iastore, 1) := by decide +kernel
theorem dX6_mark_114 : decode cX6_mark 114 = .ok (.iconst 1, 1) := by decide +kernel
theorem dX6_mark_115 : decode cX6_mark 115 = .ok (.ireturn, 1) := by decide +kernel
theorem dX6_pour_0 : decode cX6_pour 0 = .ok (.iload_n 1, 1) := by decide +kernel
theorem dX6_pour_1 : decode cX6_pour 1 = .ok (.iconst 4, 1) := by decide +kernel
theorem dX6_pour_2 : decode cX6_pour 2 = .ok (.invokestatic 51, 3) := by decide +kernel
theorem dX6_pour_5 : decode cX6_pour 5 = .ok (.ifCond .ne 6, 3) := by decide +kernel
theorem dX6_pour_8 : decode cX6_pour 8 = .ok (.ldc 55, 2) := by decide +kernel
theorem dX6_pour_10 : decode cX6_pour 10 = .ok (.ireturn, 1) := by decide +kernel
theorem dX6_pour_11 : decode cX6_pour 11 = .ok (.aload_n 0, 1) := by decide +kernel
theorem dX6_pour_12 : decode cX6_pour 12 = .ok (.getfield 31, 3) := by decide +kernel
theorem dX6_pour_15 : decode cX6_pour 15 = .ok (.iload_n 1, 1) := by decide +kernel
theorem dX6_pour_16 : decode cX6_pour 16 = .ok (.aaload, 1) := by decide +kernel
theorem dX6_pour_17 : decode cX6_pour 17 = .ok (.astore_n 2, 1) := by decide +kernel
theorem dX6_pour_18 : decode cX6_pour 18 = .ok (.aload_n 2, 1) := by decide +kernel
theorem dX6_pour_19 : decode cX6_pour 19 = .ok (.getfield 183, 3) := by decide +kernel
theorem dX6_pour_22 : decode cX6_pour 22 = .ok (.iconst (-1), 1) := by decide +kernel
theorem dX6_pour_23 : decode cX6_pour 23 = .ok (.if_icmp .ne 6, 3) := by decide +kernel
theorem dX6_pour_26 : decode cX6_pour 26 = .ok (.ldc 186, 2) := by decide +kernel
theorem dX6_pour_28 : decode cX6_pour 28 = .ok (.ireturn, 1) := by decide +kernel
theorem dX6_pour_29 : decode cX6_pour 29 = .ok (.iconst 0, 1) := by decide +kernel
theorem dX6_pour_30 : decode cX6_pour 30 = .ok (.istore_n 3, 1) := by decide +kernel
theorem dX6_pour_31 : decode cX6_pour 31 = .ok (.iconst 0, 1) := by decide +kernel
theorem dX6_pour_32 : decode cX6_pour 32 = .ok (.istore 4, 2) := by decide +kernel
theorem dX6_pour_34 : decode cX6_pour 34 = .ok (.iload 4, 2) := by decide +kernel
theorem dX6_pour_36 : decode cX6_pour 36 = .ok (.aload_n 2, 1) := by decide +kernel
theorem dX6_pour_37 : decode cX6_pour 37 = .ok (.getfield 234, 3) := by decide +kernel
theorem dX6_pour_40 : decode cX6_pour 40 = .ok (.if_icmp .ge 87, 3) := by decide +kernel
theorem dX6_pour_43 : decode cX6_pour 43 = .ok (.iload 4, 2) := by decide +kernel
theorem dX6_pour_45 : decode cX6_pour 45 = .ok (.aload_n 0, 1) := by decide +kernel
theorem dX6_pour_46 : decode cX6_pour 46 = .ok (.getfield 12, 3) := by decide +kernel
theorem dX6_pour_49 : decode cX6_pour 49 = .ok (.getfield 144, 3) := by decide +kernel
theorem dX6_pour_52 : decode cX6_pour 52 = .ok (.if_icmp .ge 75, 3) := by decide +kernel
theorem dX6_pour_55 : decode cX6_pour 55 = .ok (.aload_n 2, 1) := by decide +kernel
theorem dX6_pour_56 : decode cX6_pour 56 = .ok (.iload 4, 2) := by decide +kernel
theorem dX6_pour_58 : decode cX6_pour 58 = .ok (.invokevirtual 241, 3) := by decide +kernel
theorem dX6_pour_61 : decode cX6_pour 61 = .ok (.ifCond .eq 18, 3) := by decide +kernel
theorem dX6_pour_64 : decode cX6_pour 64 = .ok (.aload_n 2, 1) := by decide +kernel
theorem dX6_pour_65 : decode cX6_pour 65 = .ok (.getfield 236, 3) := by decide +kernel
theorem dX6_pour_68 : decode cX6_pour 68 = .ok (.iload 4, 2) := by decide +kernel
theorem dX6_pour_70 : decode cX6_pour 70 = .ok (.iaload, 1) := by decide +kernel
theorem dX6_pour_71 : decode cX6_pour 71 = .ok (.bipush 99, 2) := by decide +kernel
theorem dX6_pour_73 : decode cX6_pour 73 = .ok (.invokestatic 244, 3) := by decide +kernel
theorem dX6_pour_76 : decode cX6_pour 76 = .ok (.goto 13, 3) := by decide +kernel
theorem dX6_pour_79 : decode cX6_pour 79 = .ok (.aload_n 0, 1) := by decide +kernel
theorem dX6_pour_80 : decode cX6_pour 80 = .ok (.getfield 12, 3) := by decide +kernel
theorem dX6_pour_83 : decode cX6_pour 83 = .ok (.getfield 147, 3) := by decide +kernel
theorem dX6_pour_86 : decode cX6_pour 86 = .ok (.iload 4, 2) := by decide +kernel
theorem dX6_pour_88 : decode cX6_pour 88 = .ok (.iaload, 1) := by decide +kernel
theorem dX6_pour_89 : decode cX6_pour 89 = .ok (.istore 5, 2) := by decide +kernel
theorem dX6_pour_91 : decode cX6_pour 91 = .ok (.iload 5, 2) := by decide +kernel
theorem dX6_pour_93 : decode cX6_pour 93 = .ok (.aload_n 0, 1) := by decide +kernel
theorem dX6_pour_94 : decode cX6_pour 94 = .ok (.getfield 12, 3) := by decide +kernel
theorem dX6_pour_97 : decode cX6_pour 97 = .ok (.getfield 147, 3) := by decide +kernel
theorem dX6_pour_100 : decode cX6_pour 100 = .ok (.iload 4, 2) := by decide +kernel
theorem dX6_pour_102 : decode cX6_pour 102 = .ok (.iaload, 1) := by decide +kernel
theorem dX6_pour_103 : decode cX6_pour 103 = .ok (.if_icmp .eq 18, 3) := by decide +kernel
theorem dX6_pour_106 : decode cX6_pour 106 = .ok (.aload_n 0, 1) := by decide +kernel
theorem dX6_pour_107 : decode cX6_pour 107 = .ok (.getfield 12, 3) := by decide +kernel
theorem dX6_pour_110 : decode cX6_pour 110 = .ok (.getfield 147, 3) := by decide +kernel
theorem dX6_pour_113 : decode cX6_pour 113 = .ok (.iload 4, 2) := by decide +kernel
theorem dX6_pour_115 : decode cX6_pour 115 = .ok (.iload 5, 2) := by decide +kernel
theorem dX6_pour_117 : decode cX6_pour 117 = .ok (.iastore, 1) := by decide +kernel
theorem dX6_pour_118 : decode cX6_pour 118 = .ok (.iinc 3 1, 3) := by decide +kernel
theorem dX6_pour_121 : decode cX6_pour 121 = .ok (.iinc 4 1, 3) := by decide +kernel
theorem dX6_pour_124 : decode cX6_pour 124 = .ok (.goto (-90), 3) := by decide +kernel
theorem dX6_pour_127 : decode cX6_pour 127 = .ok (.iload_n 3, 1) := by decide +kernel
theorem dX6_pour_128 : decode cX6_pour 128 = .ok (.ireturn, 1) := by decide +kernel
theorem dX6_reads_0 : decode cX6_reads 0 = .ok (.iload_n 1, 1) := by decide +kernel
theorem dX6_reads_1 : decode cX6_reads 1 = .ok (.iconst 4, 1) := by decide +kernel
theorem dX6_reads_2 : decode cX6_reads 2 = .ok (.invokestatic 51, 3) := by decide +kernel
theorem dX6_reads_5 : decode cX6_reads 5 = .ok (.ifCond .ne 6, 3) := by decide +kernel
theorem dX6_reads_8 : decode cX6_reads 8 = .ok (.ldc 55, 2) := by decide +kernel
theorem dX6_reads_10 : decode cX6_reads 10 = .ok (.ireturn, 1) := by decide +kernel
theorem dX6_reads_11 : decode cX6_reads 11 = .ok (.aload_n 0, 1) := by decide +kernel
theorem dX6_reads_12 : decode cX6_reads 12 = .ok (.getfield 31, 3) := by decide +kernel
theorem dX6_reads_15 : decode cX6_reads 15 = .ok (.iload_n 1, 1) := by decide +kernel
theorem dX6_reads_16 : decode cX6_reads 16 = .ok (.aaload, 1) := by decide +kernel
theorem dX6_reads_17 : decode cX6_reads 17 = .ok (.astore_n 2, 1) := by decide +kernel
theorem dX6_reads_18 : decode cX6_reads 18 = .ok (.aload_n 2, 1) := by decide +kernel
theorem dX6_reads_19 : decode cX6_reads 19 = .ok (.getfield 183, 3) := by decide +kernel
theorem dX6_reads_22 : decode cX6_reads 22 = .ok (.iconst (-1), 1) := by decide +kernel
theorem dX6_reads_23 : decode cX6_reads 23 = .ok (.if_icmp .ne 6, 3) := by decide +kernel
theorem dX6_reads_26 : decode cX6_reads 26 = .ok (.ldc 186, 2) := by decide +kernel
theorem dX6_reads_28 : decode cX6_reads 28 = .ok (.ireturn, 1) := by decide +kernel
theorem dX6_reads_29 : decode cX6_reads 29 = .ok (.iconst 0, 1) := by decide +kernel
theorem dX6_reads_30 : decode cX6_reads 30 = .ok (.istore_n 3, 1) := by decide +kernel
theorem dX6_reads_31 : decode cX6_reads 31 = .ok (.iload_n 3, 1) := by decide +kernel
theorem dX6_reads_32 : decode cX6_reads 32 = .ok (.aload_n 2, 1) := by decide +kernel
theorem dX6_reads_33 : decode cX6_reads 33 = .ok (.getfield 234, 3) := by decide +kernel
theorem dX6_reads_36 : decode cX6_reads 36 = .ok (.if_icmp .ge 36, 3) := by decide +kernel
theorem dX6_reads_39 : decode cX6_reads 39 = .ok (.aload_n 2, 1) := by decide +kernel
theorem dX6_reads_40 : decode cX6_reads 40 = .ok (.iload_n 3, 1) := by decide +kernel
theorem dX6_reads_41 : decode cX6_reads 41 = .ok (.invokevirtual 241, 3) := by decide +kernel
theorem dX6_reads_44 : decode cX6_reads 44 = .ok (.ifCond .eq 22, 3) := by decide +kernel
theorem dX6_reads_47 : decode cX6_reads 47 = .ok (.aload_n 2, 1) := by decide +kernel
theorem dX6_reads_48 : decode cX6_reads 48 = .ok (.getfield 236, 3) := by decide +kernel
theorem dX6_reads_51 : decode cX6_reads 51 = .ok (.iload_n 3, 1) := by decide +kernel
theorem dX6_reads_52 : decode cX6_reads 52 = .ok (.iaload, 1) := by decide +kernel
theorem dX6_reads_53 : decode cX6_reads 53 = .ok (.aload_n 0, 1) := by decide +kernel
theorem dX6_reads_54 : decode cX6_reads 54 = .ok (.getfield 12, 3) := by decide +kernel
theorem dX6_reads_57 : decode cX6_reads 57 = .ok (.iload_n 3, 1) := by decide +kernel
theorem dX6_reads_58 : decode cX6_reads 58 = .ok (.invokevirtual 102, 3) := by decide +kernel
theorem dX6_reads_61 : decode cX6_reads 61 = .ok (.if_icmp .eq 5, 3) := by decide +kernel
theorem dX6_reads_64 : decode cX6_reads 64 = .ok (.iload_n 3, 1) := by decide +kernel
theorem dX6_reads_65 : decode cX6_reads 65 = .ok (.ireturn, 1) := by decide +kernel
theorem dX6_reads_66 : decode cX6_reads 66 = .ok (.iinc 3 1, 3) := by decide +kernel
theorem dX6_reads_69 : decode cX6_reads 69 = .ok (.goto (-38), 3) := by decide +kernel
theorem dX6_reads_72 : decode cX6_reads 72 = .ok (.ldc 125, 2) := by decide +kernel
theorem dX6_reads_74 : decode cX6_reads 74 = .ok (.ireturn, 1) := by decide +kernel
theorem dX6_copy_0 : decode cX6_copy 0 = .ok (.iload_n 1, 1) := by decide +kernel
theorem dX6_copy_1 : decode cX6_copy 1 = .ok (.iconst 4, 1) := by decide +kernel
theorem dX6_copy_2 : decode cX6_copy 2 = .ok (.invokestatic 51, 3) := by decide +kernel
theorem dX6_copy_5 : decode cX6_copy 5 = .ok (.ifCond .eq 11, 3) := by decide +kernel
theorem dX6_copy_8 : decode cX6_copy 8 = .ok (.iload_n 3, 1) := by decide +kernel
theorem dX6_copy_9 : decode cX6_copy 9 = .ok (.iconst 4, 1) := by decide +kernel
theorem dX6_copy_10 : decode cX6_copy 10 = .ok (.invokestatic 51, 3) := by decide +kernel
theorem dX6_copy_13 : decode cX6_copy 13 = .ok (.ifCond .ne 6, 3) := by decide +kernel
theorem dX6_copy_16 : decode cX6_copy 16 = .ok (.ldc 55, 2) := by decide +kernel
theorem dX6_copy_18 : decode cX6_copy 18 = .ok (.ireturn, 1) := by decide +kernel
theorem dX6_copy_19 : decode cX6_copy 19 = .ok (.aload_n 0, 1) := by decide +kernel
theorem dX6_copy_20 : decode cX6_copy 20 = .ok (.getfield 31, 3) := by decide +kernel
theorem dX6_copy_23 : decode cX6_copy 23 = .ok (.iload_n 1, 1) := by decide +kernel
theorem dX6_copy_24 : decode cX6_copy 24 = .ok (.aaload, 1) := by decide +kernel
theorem dX6_copy_25 : decode cX6_copy 25 = .ok (.astore 6, 2) := by decide +kernel
theorem dX6_copy_27 : decode cX6_copy 27 = .ok (.aload_n 0, 1) := by decide +kernel
theorem dX6_copy_28 : decode cX6_copy 28 = .ok (.getfield 31, 3) := by decide +kernel
theorem dX6_copy_31 : decode cX6_copy 31 = .ok (.iload_n 3, 1) := by decide +kernel
theorem dX6_copy_32 : decode cX6_copy 32 = .ok (.aaload, 1) := by decide +kernel
theorem dX6_copy_33 : decode cX6_copy 33 = .ok (.astore 7, 2) := by decide +kernel
theorem dX6_copy_35 : decode cX6_copy 35 = .ok (.aload 6, 2) := by decide +kernel
theorem dX6_copy_37 : decode cX6_copy 37 = .ok (.getfield 183, 3) := by decide +kernel
theorem dX6_copy_40 : decode cX6_copy 40 = .ok (.iconst (-1), 1) := by decide +kernel
theorem dX6_copy_41 : decode cX6_copy 41 = .ok (.if_icmp .eq 12, 3) := by decide +kernel
theorem dX6_copy_44 : decode cX6_copy 44 = .ok (.aload 7, 2) := by decide +kernel
theorem dX6_copy_46 : decode cX6_copy 46 = .ok (.getfield 183, 3) := by decide +kernel
theorem dX6_copy_49 : decode cX6_copy 49 = .ok (.iconst (-1), 1) := by decide +kernel
theorem dX6_copy_50 : decode cX6_copy 50 = .ok (.if_icmp .ne 6, 3) := by decide +kernel
theorem dX6_copy_53 : decode cX6_copy 53 = .ok (.ldc 186, 2) := by decide +kernel
theorem dX6_copy_55 : decode cX6_copy 55 = .ok (.ireturn, 1) := by decide +kernel
theorem dX6_copy_56 : decode cX6_copy 56 = .ok (.aload 6, 2) := by decide +kernel
theorem dX6_copy_58 : decode cX6_copy 58 = .ok (.getfield 183, 3) := by decide +kernel
theorem dX6_copy_61 : decode cX6_copy 61 = .ok (.aload 7, 2) := by decide +kernel
theorem dX6_copy_63 : decode cX6_copy 63 = .ok (.getfield 183, 3) := by decide +kernel
theorem dX6_copy_66 : decode cX6_copy 66 = .ok (.if_icmp .eq 6, 3) := by decide +kernel
theorem dX6_copy_69 : decode cX6_copy 69 = .ok (.ldc 115, 2) := by decide +kernel
theorem dX6_copy_71 : decode cX6_copy 71 = .ok (.ireturn, 1) := by decide +kernel
theorem dX6_copy_72 : decode cX6_copy 72 = .ok (.aload 6, 2) := by decide +kernel
theorem dX6_copy_74 : decode cX6_copy 74 = .ok (.iload_n 2, 1) := by decide +kernel
theorem dX6_copy_75 : decode cX6_copy 75 = .ok (.iload 5, 2) := by decide +kernel
theorem dX6_copy_77 : decode cX6_copy 77 = .ok (.invokevirtual 247, 3) := by decide +kernel
theorem dX6_copy_80 : decode cX6_copy 80 = .ok (.ifCond .eq 15, 3) := by decide +kernel
theorem dX6_copy_83 : decode cX6_copy 83 = .ok (.aload 7, 2) := by decide +kernel
theorem dX6_copy_85 : decode cX6_copy 85 = .ok (.iload 4, 2) := by decide +kernel
theorem dX6_copy_87 : decode cX6_copy 87 = .ok (.iload 5, 2) := by decide +kernel
theorem dX6_copy_89 : decode cX6_copy 89 = .ok (.invokevirtual 247, 3) := by decide +kernel
theorem dX6_copy_92 : decode cX6_copy 92 = .ok (.ifCond .ne 6, 3) := by decide +kernel
theorem dX6_copy_95 : decode cX6_copy 95 = .ok (.ldc 235, 2) := by decide +kernel
theorem dX6_copy_97 : decode cX6_copy 97 = .ok (.ireturn, 1) := by decide +kernel
theorem dX6_copy_98 : decode cX6_copy 98 = .ok (.aload 6, 2) := by decide +kernel
theorem dX6_copy_100 : decode cX6_copy 100 = .ok (.getfield 236, 3) := by decide +kernel
theorem dX6_copy_103 : decode cX6_copy 103 = .ok (.iload_n 2, 1) := by decide +kernel
theorem dX6_copy_104 : decode cX6_copy 104 = .ok (.aload 7, 2) := by decide +kernel
theorem dX6_copy_106 : decode cX6_copy 106 = .ok (.getfield 236, 3) := by decide +kernel
theorem dX6_copy_109 : decode cX6_copy 109 = .ok (.iload 4, 2) := by decide +kernel
theorem dX6_copy_111 : decode cX6_copy 111 = .ok (.iload 5, 2) := by decide +kernel
theorem dX6_copy_113 : decode cX6_copy 113 = .ok (.invokestatic 250, 3) := by decide +kernel
theorem dX6_copy_116 : decode cX6_copy 116 = .ok (.iload 5, 2) := by decide +kernel
theorem dX6_copy_118 : decode cX6_copy 118 = .ok (.ireturn, 1) := by decide +kernel
theorem dX6_lay_0 : decode cX6_lay 0 = .ok (.iload_n 1, 1) := by decide +kernel
theorem dX6_lay_1 : decode cX6_lay 1 = .ok (.iconst 5, 1) := by decide +kernel
theorem dX6_lay_2 : decode cX6_lay 2 = .ok (.invokestatic 51, 3) := by decide +kernel
theorem dX6_lay_5 : decode cX6_lay 5 = .ok (.ifCond .eq 11, 3) := by decide +kernel
theorem dX6_lay_8 : decode cX6_lay 8 = .ok (.iload_n 2, 1) := by decide +kernel
theorem dX6_lay_9 : decode cX6_lay 9 = .ok (.iconst 4, 1) := by decide +kernel
theorem dX6_lay_10 : decode cX6_lay 10 = .ok (.invokestatic 51, 3) := by decide +kernel
theorem dX6_lay_13 : decode cX6_lay 13 = .ok (.ifCond .ne 6, 3) := by decide +kernel
theorem dX6_lay_16 : decode cX6_lay 16 = .ok (.ldc 55, 2) := by decide +kernel
theorem dX6_lay_18 : decode cX6_lay 18 = .ok (.ireturn, 1) := by decide +kernel
theorem dX6_lay_19 : decode cX6_lay 19 = .ok (.iload_n 2, 1) := by decide +kernel
theorem dX6_lay_20 : decode cX6_lay 20 = .ok (.iconst 1, 1) := by decide +kernel
theorem dX6_lay_21 : decode cX6_lay 21 = .ok (.if_icmp .ne 14, 3) := by decide +kernel
theorem dX6_lay_24 : decode cX6_lay 24 = .ok (.aload_n 0, 1) := by decide +kernel
theorem dX6_lay_25 : decode cX6_lay 25 = .ok (.getfield 12, 3) := by decide +kernel
theorem dX6_lay_28 : decode cX6_lay 28 = .ok (.iload_n 3, 1) := by decide +kernel
theorem dX6_lay_29 : decode cX6_lay 29 = .ok (.invokevirtual 70, 3) := by decide +kernel
theorem dX6_lay_32 : decode cX6_lay 32 = .ok (.ifCond .eq 16, 3) := by decide +kernel
theorem dX6_lay_35 : decode cX6_lay 35 = .ok (.iload_n 2, 1) := by decide +kernel
theorem dX6_lay_36 : decode cX6_lay 36 = .ok (.iconst 2, 1) := by decide +kernel
theorem dX6_lay_37 : decode cX6_lay 37 = .ok (.if_icmp .ne 14, 3) := by decide +kernel
theorem dX6_lay_40 : decode cX6_lay 40 = .ok (.iload_n 3, 1) := by decide +kernel
theorem dX6_lay_41 : decode cX6_lay 41 = .ok (.iconst 4, 1) := by decide +kernel
theorem dX6_lay_42 : decode cX6_lay 42 = .ok (.invokestatic 51, 3) := by decide +kernel
theorem dX6_lay_45 : decode cX6_lay 45 = .ok (.ifCond .ne 6, 3) := by decide +kernel
theorem dX6_lay_48 : decode cX6_lay 48 = .ok (.ldc 55, 2) := by decide +kernel
theorem dX6_lay_50 : decode cX6_lay 50 = .ok (.ireturn, 1) := by decide +kernel
theorem dX6_lay_51 : decode cX6_lay 51 = .ok (.iload_n 2, 1) := by decide +kernel
theorem dX6_lay_52 : decode cX6_lay 52 = .ok (.iconst 2, 1) := by decide +kernel
theorem dX6_lay_53 : decode cX6_lay 53 = .ok (.if_icmp .ne 19, 3) := by decide +kernel
theorem dX6_lay_56 : decode cX6_lay 56 = .ok (.aload_n 0, 1) := by decide +kernel
theorem dX6_lay_57 : decode cX6_lay 57 = .ok (.getfield 31, 3) := by decide +kernel
theorem dX6_lay_60 : decode cX6_lay 60 = .ok (.iload_n 3, 1) := by decide +kernel
theorem dX6_lay_61 : decode cX6_lay 61 = .ok (.aaload, 1) := by decide +kernel
theorem dX6_lay_62 : decode cX6_lay 62 = .ok (.getfield 183, 3) := by decide +kernel
theorem dX6_lay_65 : decode cX6_lay 65 = .ok (.iconst (-1), 1) := by decide +kernel
theorem dX6_lay_66 : decode cX6_lay 66 = .ok (.if_icmp .ne 6, 3) := by decide +kernel
theorem dX6_lay_69 : decode cX6_lay 69 = .ok (.ldc 186, 2) := by decide +kernel
theorem dX6_lay_71 : decode cX6_lay 71 = .ok (.ireturn, 1) := by decide +kernel
theorem dX6_lay_72 : decode cX6_lay 72 = .ok (.aload_n 0, 1) := by decide +kernel
theorem dX6_lay_73 : decode cX6_lay 73 = .ok (.getfield 37, 3) := by decide +kernel
theorem dX6_lay_76 : decode cX6_lay 76 = .ok (.iload_n 1, 1) := by decide +kernel
theorem dX6_lay_77 : decode cX6_lay 77 = .ok (.aaload, 1) := by decide +kernel
theorem dX6_lay_78 : decode cX6_lay 78 = .ok (.astore 4, 2) := by decide +kernel
theorem dX6_lay_80 : decode cX6_lay 80 = .ok (.aload 4, 2) := by decide +kernel
theorem dX6_lay_82 : decode cX6_lay 82 = .ok (.getfield 256, 3) := by decide +kernel
theorem dX6_lay_85 : decode cX6_lay 85 = .ok (.istore 5, 2) := by decide +kernel
theorem dX6_lay_87 : decode cX6_lay 87 = .ok (.aload 4, 2) := by decide +kernel
theorem dX6_lay_89 : decode cX6_lay 89 = .ok (.iload_n 2, 1) := by decide +kernel
theorem dX6_lay_90 : decode cX6_lay 90 = .ok (.putfield 256, 3) := by decide +kernel
theorem dX6_lay_93 : decode cX6_lay 93 = .ok (.iload_n 2, 1) := by decide +kernel
theorem dX6_lay_94 : decode cX6_lay 94 = .ok (.iconst 1, 1) := by decide +kernel
theorem dX6_lay_95 : decode cX6_lay 95 = .ok (.if_icmp .ne 23, 3) := by decide +kernel
theorem dX6_lay_98 : decode cX6_lay 98 = .ok (.aload 4, 2) := by decide +kernel
theorem dX6_lay_100 : decode cX6_lay 100 = .ok (.getfield 259, 3) := by decide +kernel
theorem dX6_lay_103 : decode cX6_lay 103 = .ok (.aload_n 0, 1) := by decide +kernel
theorem dX6_lay_104 : decode cX6_lay 104 = .ok (.getfield 12, 3) := by decide +kernel
theorem dX6_lay_107 : decode cX6_lay 107 = .ok (.getfield 74, 3) := by decide +kernel
theorem dX6_lay_110 : decode cX6_lay 110 = .ok (.iload_n 3, 1) := by decide +kernel
theorem dX6_lay_111 : decode cX6_lay 111 = .ok (.aaload, 1) := by decide +kernel
theorem dX6_lay_112 : decode cX6_lay 112 = .ok (.invokevirtual 263, 3) := by decide +kernel
theorem dX6_lay_115 : decode cX6_lay 115 = .ok (.goto 36, 3) := by decide +kernel
theorem dX6_lay_118 : decode cX6_lay 118 = .ok (.iload_n 2, 1) := by decide +kernel
theorem dX6_lay_119 : decode cX6_lay 119 = .ok (.iconst 2, 1) := by decide +kernel
theorem dX6_lay_120 : decode cX6_lay 120 = .ok (.if_icmp .ne 20, 3) := by decide +kernel
theorem dX6_lay_123 : decode cX6_lay 123 = .ok (.aload 4, 2) := by decide +kernel
theorem dX6_lay_125 : decode cX6_lay 125 = .ok (.getfield 266, 3) := by decide +kernel
theorem dX6_lay_128 : decode cX6_lay 128 = .ok (.aload_n 0, 1) := by decide +kernel
theorem dX6_lay_129 : decode cX6_lay 129 = .ok (.getfield 31, 3) := by decide +kernel
theorem dX6_lay_132 : decode cX6_lay 132 = .ok (.iload_n 3, 1) := by decide +kernel
theorem dX6_lay_133 : decode cX6_lay 133 = .ok (.aaload, 1) := by decide +kernel
theorem dX6_lay_134 : decode cX6_lay 134 = .ok (.invokevirtual 270, 3) := by decide +kernel
theorem dX6_lay_137 : decode cX6_lay 137 = .ok (.goto 14, 3) := by decide +kernel
theorem dX6_lay_140 : decode cX6_lay 140 = .ok (.iload_n 2, 1) := by decide +kernel
theorem dX6_lay_141 : decode cX6_lay 141 = .ok (.iconst 3, 1) := by decide +kernel
theorem dX6_lay_142 : decode cX6_lay 142 = .ok (.if_icmp .ne 9, 3) := by decide +kernel
theorem dX6_lay_145 : decode cX6_lay 145 = .ok (.aload 4, 2) := by decide +kernel
theorem dX6_lay_147 : decode cX6_lay 147 = .ok (.iload_n 3, 1) := by decide +kernel
theorem dX6_lay_148 : decode cX6_lay 148 = .ok (.putfield 273, 3) := by decide +kernel
theorem dX6_lay_151 : decode cX6_lay 151 = .ok (.iload 5, 2) := by decide +kernel
theorem dX6_lay_153 : decode cX6_lay 153 = .ok (.ireturn, 1) := by decide +kernel
theorem dX6_ask_0 : decode cX6_ask 0 = .ok (.iload_n 1, 1) := by decide +kernel
theorem dX6_ask_1 : decode cX6_ask 1 = .ok (.iconst 5, 1) := by decide +kernel
theorem dX6_ask_2 : decode cX6_ask 2 = .ok (.invokestatic 51, 3) := by decide +kernel
theorem dX6_ask_5 : decode cX6_ask 5 = .ok (.ifCond .eq 12, 3) := by decide +kernel
theorem dX6_ask_8 : decode cX6_ask 8 = .ok (.iload_n 2, 1) := by decide +kernel
theorem dX6_ask_9 : decode cX6_ask 9 = .ok (.bipush 6, 2) := by decide +kernel
theorem dX6_ask_11 : decode cX6_ask 11 = .ok (.invokestatic 51, 3) := by decide +kernel
theorem dX6_ask_14 : decode cX6_ask 14 = .ok (.ifCond .ne 6, 3) := by decide +kernel
theorem dX6_ask_17 : decode cX6_ask 17 = .ok (.ldc 55, 2) := by decide +kernel
theorem dX6_ask_19 : decode cX6_ask 19 = .ok (.ireturn, 1) := by decide +kernel
theorem dX6_ask_20 : decode cX6_ask 20 = .ok (.aload_n 0, 1) := by decide +kernel
theorem dX6_ask_21 : decode cX6_ask 21 = .ok (.getfield 37, 3) := by decide +kernel
theorem dX6_ask_24 : decode cX6_ask 24 = .ok (.iload_n 1, 1) := by decide +kernel
theorem dX6_ask_25 : decode cX6_ask 25 = .ok (.aaload, 1) := by decide +kernel
theorem dX6_ask_26 : decode cX6_ask 26 = .ok (.astore_n 3, 1) := by decide +kernel
theorem dX6_ask_27 : decode cX6_ask 27 = .ok (.aload_n 3, 1) := by decide +kernel
theorem dX6_ask_28 : decode cX6_ask 28 = .ok (.getfield 256, 3) := by decide +kernel
theorem dX6_ask_31 : decode cX6_ask 31 = .ok (.ifCond .ne 6, 3) := by decide +kernel
theorem dX6_ask_34 : decode cX6_ask 34 = .ok (.ldc 186, 2) := by decide +kernel
theorem dX6_ask_36 : decode cX6_ask 36 = .ok (.ireturn, 1) := by decide +kernel
theorem dX6_ask_37 : decode cX6_ask 37 = .ok (.aload_n 3, 1) := by decide +kernel
theorem dX6_ask_38 : decode cX6_ask 38 = .ok (.getfield 256, 3) := by decide +kernel
theorem dX6_ask_41 : decode cX6_ask 41 = .ok (.iconst 1, 1) := by decide +kernel
theorem dX6_ask_42 : decode cX6_ask 42 = .ok (.if_icmp .ne 14, 3) := by decide +kernel
theorem dX6_ask_45 : decode cX6_ask 45 = .ok (.aload_n 3, 1) := by decide +kernel
theorem dX6_ask_46 : decode cX6_ask 46 = .ok (.getfield 259, 3) := by decide +kernel
theorem dX6_ask_49 : decode cX6_ask 49 = .ok (.iload_n 2, 1) := by decide +kernel
theorem dX6_ask_50 : decode cX6_ask 50 = .ok (.invokevirtual 112, 3) := by decide +kernel
theorem dX6_ask_53 : decode cX6_ask 53 = .ok (.ifCond .ne 6, 3) := by decide +kernel
theorem dX6_ask_56 : decode cX6_ask 56 = .ok (.ldc 115, 2) := by decide +kernel
theorem dX6_ask_58 : decode cX6_ask 58 = .ok (.ireturn, 1) := by decide +kernel
theorem dX6_ask_59 : decode cX6_ask 59 = .ok (.aload_n 3, 1) := by decide +kernel
theorem dX6_ask_60 : decode cX6_ask 60 = .ok (.getfield 259, 3) := by decide +kernel
theorem dX6_ask_63 : decode cX6_ask 63 = .ok (.invokevirtual 108, 3) := by decide +kernel
theorem dX6_ask_66 : decode cX6_ask 66 = .ok (.ireturn, 1) := by decide +kernel
theorem dX6_item_0 : decode cX6_item 0 = .ok (.iload_n 1, 1) := by decide +kernel
theorem dX6_item_1 : decode cX6_item 1 = .ok (.iconst 5, 1) := by decide +kernel
theorem dX6_item_2 : decode cX6_item 2 = .ok (.invokestatic 51, 3) := by decide +kernel
theorem dX6_item_5 : decode cX6_item 5 = .ok (.ifCond .ne 6, 3) := by decide +kernel
theorem dX6_item_8 : decode cX6_item 8 = .ok (.ldc 55, 2) := by decide +kernel
theorem dX6_item_10 : decode cX6_item 10 = .ok (.ireturn, 1) := by decide +kernel
theorem dX6_item_11 : decode cX6_item 11 = .ok (.aload_n 0, 1) := by decide +kernel
theorem dX6_item_12 : decode cX6_item 12 = .ok (.getfield 37, 3) := by decide +kernel
theorem dX6_item_15 : decode cX6_item 15 = .ok (.iload_n 1, 1) := by decide +kernel
theorem dX6_item_16 : decode cX6_item 16 = .ok (.aaload, 1) := by decide +kernel
theorem dX6_item_17 : decode cX6_item 17 = .ok (.astore_n 3, 1) := by decide +kernel
theorem dX6_item_18 : decode cX6_item 18 = .ok (.aload_n 3, 1) := by decide +kernel
theorem dX6_item_19 : decode cX6_item 19 = .ok (.getfield 256, 3) := by decide +kernel
theorem dX6_item_22 : decode cX6_item 22 = .ok (.ifCond .ne 6, 3) := by decide +kernel
theorem dX6_item_25 : decode cX6_item 25 = .ok (.ldc 186, 2) := by decide +kernel
theorem dX6_item_27 : decode cX6_item 27 = .ok (.ireturn, 1) := by decide +kernel
theorem dX6_item_28 : decode cX6_item 28 = .ok (.aload_n 3, 1) := by decide +kernel
theorem dX6_item_29 : decode cX6_item 29 = .ok (.getfield 256, 3) := by decide +kernel
theorem dX6_item_32 : decode cX6_item 32 = .ok (.iconst 2, 1) := by decide +kernel
theorem dX6_item_33 : decode cX6_item 33 = .ok (.if_icmp .eq 6, 3) := by decide +kernel
theorem dX6_item_36 : decode cX6_item 36 = .ok (.ldc 115, 2) := by decide +kernel
theorem dX6_item_38 : decode cX6_item 38 = .ok (.ireturn, 1) := by decide +kernel
theorem dX6_item_39 : decode cX6_item 39 = .ok (.iload_n 2, 1) := by decide +kernel
theorem dX6_item_40 : decode cX6_item 40 = .ok (.aload_n 3, 1) := by decide +kernel
theorem dX6_item_41 : decode cX6_item 41 = .ok (.getfield 266, 3) := by decide +kernel
theorem dX6_item_44 : decode cX6_item 44 = .ok (.getfield 234, 3) := by decide +kernel
theorem dX6_item_47 : decode cX6_item 47 = .ok (.invokestatic 51, 3) := by decide +kernel
theorem dX6_item_50 : decode cX6_item 50 = .ok (.ifCond .ne 6, 3) := by decide +kernel
theorem dX6_item_53 : decode cX6_item 53 = .ok (.ldc 235, 2) := by decide +kernel
theorem dX6_item_55 : decode cX6_item 55 = .ok (.ireturn, 1) := by decide +kernel
theorem dX6_item_56 : decode cX6_item 56 = .ok (.aload_n 3, 1) := by decide +kernel
theorem dX6_item_57 : decode cX6_item 57 = .ok (.getfield 266, 3) := by decide +kernel
theorem dX6_item_60 : decode cX6_item 60 = .ok (.iload_n 2, 1) := by decide +kernel
theorem dX6_item_61 : decode cX6_item 61 = .ok (.invokevirtual 241, 3) := by decide +kernel
theorem dX6_item_64 : decode cX6_item 64 = .ok (.ifCond .eq 15, 3) := by decide +kernel
theorem dX6_item_67 : decode cX6_item 67 = .ok (.aload_n 3, 1) := by decide +kernel
theorem dX6_item_68 : decode cX6_item 68 = .ok (.getfield 266, 3) := by decide +kernel
theorem dX6_item_71 : decode cX6_item 71 = .ok (.getfield 236, 3) := by decide +kernel
theorem dX6_item_74 : decode cX6_item 74 = .ok (.iload_n 2, 1) := by decide +kernel
theorem dX6_item_75 : decode cX6_item 75 = .ok (.iaload, 1) := by decide +kernel
theorem dX6_item_76 : decode cX6_item 76 = .ok (.goto 5, 3) := by decide +kernel
theorem dX6_item_79 : decode cX6_item 79 = .ok (.ldc 115, 2) := by decide +kernel
theorem dX6_item_81 : decode cX6_item 81 = .ok (.ireturn, 1) := by decide +kernel
theorem dX6_remains_0 : decode cX6_remains 0 = .ok (.iload_n 1, 1) := by decide +kernel
theorem dX6_remains_1 : decode cX6_remains 1 = .ok (.iconst 5, 1) := by decide +kernel
theorem dX6_remains_2 : decode cX6_remains 2 = .ok (.invokestatic 51, 3) := by decide +kernel
theorem dX6_remains_5 : decode cX6_remains 5 = .ok (.ifCond .ne 6, 3) := by decide +kernel
theorem dX6_remains_8 : decode cX6_remains 8 = .ok (.ldc 55, 2) := by decide +kernel
theorem dX6_remains_10 : decode cX6_remains 10 = .ok (.ireturn, 1) := by decide +kernel
theorem dX6_remains_11 : decode cX6_remains 11 = .ok (.aload_n 0, 1) := by decide +kernel
theorem dX6_remains_12 : decode cX6_remains 12 = .ok (.getfield 37, 3) := by decide +kernel
theorem dX6_remains_15 : decode cX6_remains 15 = .ok (.iload_n 1, 1) := by decide +kernel
theorem dX6_remains_16 : decode cX6_remains 16 = .ok (.aaload, 1) := by decide +kernel
theorem dX6_remains_17 : decode cX6_remains 17 = .ok (.astore_n 3, 1) := by decide +kernel
theorem dX6_remains_18 : decode cX6_remains 18 = .ok (.aload_n 3, 1) := by decide +kernel
theorem dX6_remains_19 : decode cX6_remains 19 = .ok (.getfield 256, 3) := by decide +kernel
theorem dX6_remains_22 : decode cX6_remains 22 = .ok (.ifCond .ne 6, 3) := by decide +kernel
theorem dX6_remains_25 : decode cX6_remains 25 = .ok (.ldc 186, 2) := by decide +kernel
theorem dX6_remains_27 : decode cX6_remains 27 = .ok (.ireturn, 1) := by decide +kernel
theorem dX6_remains_28 : decode cX6_remains 28 = .ok (.aload_n 3, 1) := by decide +kernel
theorem dX6_remains_29 : decode cX6_remains 29 = .ok (.getfield 256, 3) := by decide +kernel
theorem dX6_remains_32 : decode cX6_remains 32 = .ok (.iconst 3, 1) := by decide +kernel
theorem dX6_remains_33 : decode cX6_remains 33 = .ok (.if_icmp .eq 6, 3) := by decide +kernel
theorem dX6_remains_36 : decode cX6_remains 36 = .ok (.ldc 115, 2) := by decide +kernel
theorem dX6_remains_38 : decode cX6_remains 38 = .ok (.ireturn, 1) := by decide +kernel
theorem dX6_remains_39 : decode cX6_remains 39 = .ok (.iload_n 2, 1) := by decide +kernel
theorem dX6_remains_40 : decode cX6_remains 40 = .ok (.ifCond .ne 8, 3) := by decide +kernel
theorem dX6_remains_43 : decode cX6_remains 43 = .ok (.ldc 60, 2) := by decide +kernel
theorem dX6_remains_45 : decode cX6_remains 45 = .ok (.goto 9, 3) := by decide +kernel
theorem dX6_remains_48 : decode cX6_remains 48 = .ok (.aload_n 3, 1) := by decide +kernel
theorem dX6_remains_49 : decode cX6_remains 49 = .ok (.getfield 273, 3) := by decide +kernel
theorem dX6_remains_52 : decode cX6_remains 52 = .ok (.iload_n 2, 1) := by decide +kernel
theorem dX6_remains_53 : decode cX6_remains 53 = .ok (.irem, 1) := by decide +kernel
theorem dX6_remains_54 : decode cX6_remains 54 = .ok (.ireturn, 1) := by decide +kernel
theorem dX6_tell_0 : decode cX6_tell 0 = .ok (.aload_n 0, 1) := by decide +kernel
theorem dX6_tell_1 : decode cX6_tell 1 = .ok (.getfield 276, 3) := by decide +kernel
theorem dX6_tell_4 : decode cX6_tell 4 = .ok (.bipush 60, 2) := by decide +kernel
theorem dX6_tell_6 : decode cX6_tell 6 = .ok (.if_icmp .lt 6, 3) := by decide +kernel
theorem dX6_tell_9 : decode cX6_tell 9 = .ok (.ldc 65, 2) := by decide +kernel
theorem dX6_tell_11 : decode cX6_tell 11 = .ok (.ireturn, 1) := by decide +kernel
theorem dX6_tell_12 : decode cX6_tell 12 = .ok (.aload_n 0, 1) := by decide +kernel
theorem dX6_tell_13 : decode cX6_tell 13 = .ok (.getfield 45, 3) := by decide +kernel
theorem dX6_tell_16 : decode cX6_tell 16 = .ok (.aload_n 0, 1) := by decide +kernel
theorem dX6_tell_17 : decode cX6_tell 17 = .ok (.getfield 276, 3) := by decide +kernel
theorem dX6_tell_20 : decode cX6_tell 20 = .ok (.iload_n 1, 1) := by decide +kernel
theorem dX6_tell_21 : decode cX6_tell 21 = .ok (.iastore, 1) := by decide +kernel
theorem dX6_tell_22 : decode cX6_tell 22 = .ok (.aload_n 0, 1) := by decide +kernel
theorem dX6_tell_23 : decode cX6_tell 23 = .ok (.dup, 1) := by decide +kernel
theorem dX6_tell_24 : decode cX6_tell 24 = .ok (.getfield 276, 3) := by decide +kernel
theorem dX6_tell_27 : decode cX6_tell 27 = .ok (.iconst 1, 1) := by decide +kernel
theorem dX6_tell_28 : decode cX6_tell 28 = .ok (.iadd, 1) := by decide +kernel
theorem dX6_tell_29 : decode cX6_tell 29 = .ok (.putfield 276, 3) := by decide +kernel
theorem dX6_tell_32 : decode cX6_tell 32 = .ok (.aload_n 0, 1) := by decide +kernel
theorem dX6_tell_33 : decode cX6_tell 33 = .ok (.getfield 276, 3) := by decide +kernel
theorem dX6_tell_36 : decode cX6_tell 36 = .ok (.ireturn, 1) := by decide +kernel
theorem dX6_check_0 : decode cX6_check 0 = .ok (.aload_n 0, 1) := by decide +kernel
theorem dX6_check_1 : decode cX6_check 1 = .ok (.getfield 276, 3) := by decide +kernel
theorem dX6_check_4 : decode cX6_check 4 = .ok (.istore_n 2, 1) := by decide +kernel
theorem dX6_check_5 : decode cX6_check 5 = .ok (.aload_n 0, 1) := by decide +kernel
theorem dX6_check_6 : decode cX6_check 6 = .ok (.iconst 0, 1) := by decide +kernel
theorem dX6_check_7 : decode cX6_check 7 = .ok (.putfield 276, 3) := by decide +kernel
theorem dX6_check_10 : decode cX6_check 10 = .ok (.iload_n 1, 1) := by decide +kernel
theorem dX6_check_11 : decode cX6_check 11 = .ok (.iconst 1, 1) := by decide +kernel
theorem dX6_check_12 : decode cX6_check 12 = .ok (.if_icmp .lt 9, 3) := by decide +kernel
theorem dX6_check_15 : decode cX6_check 15 = .ok (.iload_n 1, 1) := by decide +kernel
theorem dX6_check_16 : decode cX6_check 16 = .ok (.bipush 30, 2) := by decide +kernel
theorem dX6_check_18 : decode cX6_check 18 = .ok (.if_icmp .le 6, 3) := by decide +kernel
theorem dX6_check_21 : decode cX6_check 21 = .ok (.ldc 55, 2) := by decide +kernel
theorem dX6_check_23 : decode cX6_check 23 = .ok (.ireturn, 1) := by decide +kernel
theorem dX6_check_24 : decode cX6_check 24 = .ok (.aload_n 0, 1) := by decide +kernel
theorem dX6_check_25 : decode cX6_check 25 = .ok (.getfield 279, 3) := by decide +kernel
theorem dX6_check_28 : decode cX6_check 28 = .ok (.ifCond .eq 19, 3) := by decide +kernel
theorem dX6_check_31 : decode cX6_check 31 = .ok (.aload_n 0, 1) := by decide +kernel
theorem dX6_check_32 : decode cX6_check 32 = .ok (.iload_n 2, 1) := by decide +kernel
theorem dX6_check_33 : decode cX6_check 33 = .ok (.aload_n 0, 1) := by decide +kernel
theorem dX6_check_34 : decode cX6_check 34 = .ok (.getfield 16, 3) := by decide +kernel
theorem dX6_check_37 : decode cX6_check 37 = .ok (.iload_n 1, 1) := by decide +kernel
theorem dX6_check_38 : decode cX6_check 38 = .ok (.invokevirtual 150, 3) := by decide +kernel
theorem dX6_check_41 : decode cX6_check 41 = .ok (.invokevirtual 283, 3) := by decide +kernel
theorem dX6_check_44 : decode cX6_check 44 = .ok (.goto 5, 3) := by decide +kernel
theorem dX6_check_47 : decode cX6_check 47 = .ok (.ldc 60, 2) := by decide +kernel
theorem dX6_check_49 : decode cX6_check 49 = .ok (.ireturn, 1) := by decide +kernel
theorem dX6_keep_0 : decode cX6_keep 0 = .ok (.aload_n 0, 1) := by decide +kernel
theorem dX6_keep_1 : decode cX6_keep 1 = .ok (.getfield 16, 3) := by decide +kernel
theorem dX6_keep_4 : decode cX6_keep 4 = .ok (.aload_n 0, 1) := by decide +kernel
theorem dX6_keep_5 : decode cX6_keep 5 = .ok (.getfield 12, 3) := by decide +kernel
theorem dX6_keep_8 : decode cX6_keep 8 = .ok (.invokevirtual 159, 3) := by decide +kernel
theorem dX6_keep_11 : decode cX6_keep 11 = .ok (.aload_n 0, 1) := by decide +kernel
theorem dX6_keep_12 : decode cX6_keep 12 = .ok (.iconst 1, 1) := by decide +kernel
theorem dX6_keep_13 : decode cX6_keep 13 = .ok (.putfield 279, 3) := by decide +kernel
theorem dX6_keep_16 : decode cX6_keep 16 = .ok (.aload_n 0, 1) := by decide +kernel
theorem dX6_keep_17 : decode cX6_keep 17 = .ok (.getfield 12, 3) := by decide +kernel
theorem dX6_keep_20 : decode cX6_keep 20 = .ok (.getfield 61, 3) := by decide +kernel
theorem dX6_keep_23 : decode cX6_keep 23 = .ok (.ireturn, 1) := by decide +kernel
theorem dX6_back_0 : decode cX6_back 0 = .ok (.aload_n 0, 1) := by decide +kernel
theorem dX6_back_1 : decode cX6_back 1 = .ok (.getfield 279, 3) := by decide +kernel
theorem dX6_back_4 : decode cX6_back 4 = .ok (.ifCond .ne 6, 3) := by decide +kernel
theorem dX6_back_7 : decode cX6_back 7 = .ok (.ldc 60, 2) := by decide +kernel
theorem dX6_back_9 : decode cX6_back 9 = .ok (.ireturn, 1) := by decide +kernel
theorem dX6_back_10 : decode cX6_back 10 = .ok (.aload_n 0, 1) := by decide +kernel
theorem dX6_back_11 : decode cX6_back 11 = .ok (.getfield 12, 3) := by decide +kernel
theorem dX6_back_14 : decode cX6_back 14 = .ok (.aload_n 0, 1) := by decide +kernel
theorem dX6_back_15 : decode cX6_back 15 = .ok (.getfield 16, 3) := by decide +kernel
theorem dX6_back_18 : decode cX6_back 18 = .ok (.invokevirtual 159, 3) := by decide +kernel
theorem dX6_back_21 : decode cX6_back 21 = .ok (.aload_n 0, 1) := by decide +kernel
theorem dX6_back_22 : decode cX6_back 22 = .ok (.getfield 12, 3) := by decide +kernel
theorem dX6_back_25 : decode cX6_back 25 = .ok (.getfield 61, 3) := by decide +kernel
theorem dX6_back_28 : decode cX6_back 28 = .ok (.ireturn, 1) := by decide +kernel
theorem dX6_count_0 : decode cX6_count 0 = .ok (.iload_n 1, 1) := by decide +kernel
theorem dX6_count_1 : decode cX6_count 1 = .ok (.tableswitch 141 0 10 #[59, 67, 75, 83, 91, 99, 107, 115, 123, 128, 133], 59) := by decide +kernel
theorem dX6_count_60 : decode cX6_count 60 = .ok (.aload_n 0, 1) := by decide +kernel
theorem dX6_count_61 : decode cX6_count 61 = .ok (.getfield 12, 3) := by decide +kernel
theorem dX6_count_64 : decode cX6_count 64 = .ok (.getfield 61, 3) := by decide +kernel
theorem dX6_count_67 : decode cX6_count 67 = .ok (.ireturn, 1) := by decide +kernel
theorem dX6_count_68 : decode cX6_count 68 = .ok (.aload_n 0, 1) := by decide +kernel
theorem dX6_count_69 : decode cX6_count 69 = .ok (.getfield 12, 3) := by decide +kernel
theorem dX6_count_72 : decode cX6_count 72 = .ok (.getfield 144, 3) := by decide +kernel
theorem dX6_count_75 : decode cX6_count 75 = .ok (.ireturn, 1) := by decide +kernel
theorem dX6_count_76 : decode cX6_count 76 = .ok (.aload_n 0, 1) := by decide +kernel
theorem dX6_count_77 : decode cX6_count 77 = .ok (.getfield 12, 3) := by decide +kernel
theorem dX6_count_80 : decode cX6_count 80 = .ok (.getfield 286, 3) := by decide +kernel
theorem dX6_count_83 : decode cX6_count 83 = .ok (.ireturn, 1) := by decide +kernel
theorem dX6_count_84 : decode cX6_count 84 = .ok (.aload_n 0, 1) := by decide +kernel
theorem dX6_count_85 : decode cX6_count 85 = .ok (.getfield 12, 3) := by decide +kernel
theorem dX6_count_88 : decode cX6_count 88 = .ok (.invokevirtual 163, 3) := by decide +kernel
theorem dX6_count_91 : decode cX6_count 91 = .ok (.ireturn, 1) := by decide +kernel
theorem dX6_count_92 : decode cX6_count 92 = .ok (.aload_n 0, 1) := by decide +kernel
theorem dX6_count_93 : decode cX6_count 93 = .ok (.getfield 12, 3) := by decide +kernel
theorem dX6_count_96 : decode cX6_count 96 = .ok (.getfield 166, 3) := by decide +kernel
theorem dX6_count_99 : decode cX6_count 99 = .ok (.ireturn, 1) := by decide +kernel
theorem dX6_count_100 : decode cX6_count 100 = .ok (.aload_n 0, 1) := by decide +kernel
theorem dX6_count_101 : decode cX6_count 101 = .ok (.getfield 12, 3) := by decide +kernel
theorem dX6_count_104 : decode cX6_count 104 = .ok (.getfield 138, 3) := by decide +kernel
theorem dX6_count_107 : decode cX6_count 107 = .ok (.ireturn, 1) := by decide +kernel
theorem dX6_count_108 : decode cX6_count 108 = .ok (.aload_n 0, 1) := by decide +kernel
theorem dX6_count_109 : decode cX6_count 109 = .ok (.getfield 12, 3) := by decide +kernel
theorem dX6_count_112 : decode cX6_count 112 = .ok (.getfield 141, 3) := by decide +kernel
theorem dX6_count_115 : decode cX6_count 115 = .ok (.ireturn, 1) := by decide +kernel
theorem dX6_count_116 : decode cX6_count 116 = .ok (.aload_n 0, 1) := by decide +kernel
theorem dX6_count_117 : decode cX6_count 117 = .ok (.getfield 12, 3) := by decide +kernel
theorem dX6_count_120 : decode cX6_count 120 = .ok (.getfield 208, 3) := by decide +kernel
theorem dX6_count_123 : decode cX6_count 123 = .ok (.ireturn, 1) := by decide +kernel
theorem dX6_count_124 : decode cX6_count 124 = .ok (.aload_n 0, 1) := by decide +kernel
theorem dX6_count_125 : decode cX6_count 125 = .ok (.getfield 276, 3) := by decide +kernel
theorem dX6_count_128 : decode cX6_count 128 = .ok (.ireturn, 1) := by decide +kernel
theorem dX6_count_129 : decode cX6_count 129 = .ok (.aload_n 0, 1) := by decide +kernel
theorem dX6_count_130 : decode cX6_count 130 = .ok (.getfield 194, 3) := by decide +kernel
theorem dX6_count_133 : decode cX6_count 133 = .ok (.ireturn, 1) := by decide +kernel
theorem dX6_count_134 : decode cX6_count 134 = .ok (.aload_n 0, 1) := by decide +kernel
theorem dX6_count_135 : decode cX6_count 135 = .ok (.getfield 12, 3) := by decide +kernel
theorem dX6_count_138 : decode cX6_count 138 = .ok (.getfield 135, 3) := by decide +kernel
theorem dX6_count_141 : decode cX6_count 141 = .ok (.ireturn, 1) := by decide +kernel
theorem dX6_count_142 : decode cX6_count 142 = .ok (.ldc 55, 2) := by decide +kernel
theorem dX6_count_144 : decode cX6_count 144 = .ok (.ireturn, 1) := by decide +kernel
theorem dX6_within_0 : decode cX6_within 0 = .ok (.iload_n 0, 1) := by decide +kernel
theorem dX6_within_1 : decode cX6_within 1 = .ok (.ifCond .lt 12, 3) := by decide +kernel
theorem dX6_within_4 : decode cX6_within 4 = .ok (.iload_n 0, 1) := by decide +kernel
theorem dX6_within_5 : decode cX6_within 5 = .ok (.iload_n 1, 1) := by decide +kernel
theorem dX6_within_6 : decode cX6_within 6 = .ok (.if_icmp .ge 7, 3) := by decide +kernel
theorem dX6_within_9 : decode cX6_within 9 = .ok (.iconst 1, 1) := by decide +kernel
theorem dX6_within_10 : decode cX6_within 10 = .ok (.goto 4, 3) := by decide +kernel
theorem dX6_within_13 : decode cX6_within 13 = .ok (.iconst 0, 1) := by decide +kernel
theorem dX6_within_14 : decode cX6_within 14 = .ok (.ireturn, 1) := by decide +kernel
theorem dX6_held_0 : decode cX6_held 0 = .ok (.iconst 0, 1) := by decide +kernel
theorem dX6_held_1 : decode cX6_held 1 = .ok (.iload_n 0, 1) := by decide +kernel
theorem dX6_held_2 : decode cX6_held 2 = .ok (.iload_n 1, 1) := by decide +kernel
theorem dX6_held_3 : decode cX6_held 3 = .ok (.invokestatic 126, 3) := by decide +kernel
theorem dX6_held_6 : decode cX6_held 6 = .ok (.invokestatic 289, 3) := by decide +kernel
theorem dX6_held_9 : decode cX6_held 9 = .ok (.ireturn, 1) := by decide +kernel
theorem dX6_secondsOtherwise_0 : decode cX6_secondsOtherwise 0 = .ok (.aload_n 0, 1) := by decide +kernel
theorem dX6_secondsOtherwise_1 : decode cX6_secondsOtherwise 1 = .ok (.getfield 19, 3) := by decide +kernel
theorem dX6_secondsOtherwise_4 : decode cX6_secondsOtherwise 4 = .ok (.aload_n 0, 1) := by decide +kernel
theorem dX6_secondsOtherwise_5 : decode cX6_secondsOtherwise 5 = .ok (.getfield 12, 3) := by decide +kernel
theorem dX6_secondsOtherwise_8 : decode cX6_secondsOtherwise 8 = .ok (.invokevirtual 159, 3) := by decide +kernel
theorem dX6_secondsOtherwise_11 : decode cX6_secondsOtherwise 11 = .ok (.aload_n 0, 1) := by decide +kernel
theorem dX6_secondsOtherwise_12 : decode cX6_secondsOtherwise 12 = .ok (.getfield 19, 3) := by decide +kernel
theorem dX6_secondsOtherwise_15 : decode cX6_secondsOtherwise 15 = .ok (.getfield 74, 3) := by decide +kernel
theorem dX6_secondsOtherwise_18 : decode cX6_secondsOtherwise 18 = .ok (.iload_n 2, 1) := by decide +kernel
theorem dX6_secondsOtherwise_19 : decode cX6_secondsOtherwise 19 = .ok (.aaload, 1) := by decide +kernel
theorem dX6_secondsOtherwise_20 : decode cX6_secondsOtherwise 20 = .ok (.iload_n 3, 1) := by decide +kernel
theorem dX6_secondsOtherwise_21 : decode cX6_secondsOtherwise 21 = .ok (.putfield 78, 3) := by decide +kernel
theorem dX6_secondsOtherwise_24 : decode cX6_secondsOtherwise 24 = .ok (.iconst 0, 1) := by decide +kernel
theorem dX6_secondsOtherwise_25 : decode cX6_secondsOtherwise 25 = .ok (.istore 4, 2) := by decide +kernel
theorem dX6_secondsOtherwise_27 : decode cX6_secondsOtherwise 27 = .ok (.iconst 0, 1) := by decide +kernel
theorem dX6_secondsOtherwise_28 : decode cX6_secondsOtherwise 28 = .ok (.istore 5, 2) := by decide +kernel
theorem dX6_secondsOtherwise_30 : decode cX6_secondsOtherwise 30 = .ok (.iload 5, 2) := by decide +kernel
theorem dX6_secondsOtherwise_32 : decode cX6_secondsOtherwise 32 = .ok (.aload_n 1, 1) := by decide +kernel
theorem dX6_secondsOtherwise_33 : decode cX6_secondsOtherwise 33 = .ok (.getfield 234, 3) := by decide +kernel
theorem dX6_secondsOtherwise_36 : decode cX6_secondsOtherwise 36 = .ok (.if_icmp .ge 59, 3) := by decide +kernel
theorem dX6_secondsOtherwise_39 : decode cX6_secondsOtherwise 39 = .ok (.aload_n 0, 1) := by decide +kernel
theorem dX6_secondsOtherwise_40 : decode cX6_secondsOtherwise 40 = .ok (.getfield 19, 3) := by decide +kernel
theorem dX6_secondsOtherwise_43 : decode cX6_secondsOtherwise 43 = .ok (.invokevirtual 172, 3) := by decide +kernel
theorem dX6_secondsOtherwise_46 : decode cX6_secondsOtherwise 46 = .ok (.pop, 1) := by decide +kernel
theorem dX6_secondsOtherwise_47 : decode cX6_secondsOtherwise 47 = .ok (.aload_n 1, 1) := by decide +kernel
theorem dX6_secondsOtherwise_48 : decode cX6_secondsOtherwise 48 = .ok (.getfield 236, 3) := by decide +kernel
theorem dX6_secondsOtherwise_51 : decode cX6_secondsOtherwise 51 = .ok (.iload 5, 2) := by decide +kernel
theorem dX6_secondsOtherwise_53 : decode cX6_secondsOtherwise 53 = .ok (.iaload, 1) := by decide +kernel
theorem dX6_secondsOtherwise_54 : decode cX6_secondsOtherwise 54 = .ok (.ifCond .eq 7, 3) := by decide +kernel
theorem dX6_secondsOtherwise_57 : decode cX6_secondsOtherwise 57 = .ok (.iconst 1, 1) := by decide +kernel
theorem dX6_secondsOtherwise_58 : decode cX6_secondsOtherwise 58 = .ok (.goto 4, 3) := by decide +kernel
theorem dX6_secondsOtherwise_61 : decode cX6_secondsOtherwise 61 = .ok (.iconst 0, 1) := by decide +kernel
theorem dX6_secondsOtherwise_62 : decode cX6_secondsOtherwise 62 = .ok (.istore 6, 2) := by decide +kernel
theorem dX6_secondsOtherwise_64 : decode cX6_secondsOtherwise 64 = .ok (.aload_n 1, 1) := by decide +kernel
theorem dX6_secondsOtherwise_65 : decode cX6_secondsOtherwise 65 = .ok (.iload 5, 2) := by decide +kernel
theorem dX6_secondsOtherwise_67 : decode cX6_secondsOtherwise 67 = .ok (.invokevirtual 241, 3) := by decide +kernel
theorem dX6_secondsOtherwise_70 : decode cX6_secondsOtherwise 70 = .ok (.ifCond .eq 19, 3) := by decide +kernel
theorem dX6_secondsOtherwise_73 : decode cX6_secondsOtherwise 73 = .ok (.iload 6, 2) := by decide +kernel
theorem dX6_secondsOtherwise_75 : decode cX6_secondsOtherwise 75 = .ok (.aload_n 0, 1) := by decide +kernel
theorem dX6_secondsOtherwise_76 : decode cX6_secondsOtherwise 76 = .ok (.getfield 19, 3) := by decide +kernel
theorem dX6_secondsOtherwise_79 : decode cX6_secondsOtherwise 79 = .ok (.iload_n 2, 1) := by decide +kernel
theorem dX6_secondsOtherwise_80 : decode cX6_secondsOtherwise 80 = .ok (.invokevirtual 180, 3) := by decide +kernel
theorem dX6_secondsOtherwise_83 : decode cX6_secondsOtherwise 83 = .ok (.if_icmp .eq 6, 3) := by decide +kernel
theorem dX6_secondsOtherwise_86 : decode cX6_secondsOtherwise 86 = .ok (.iinc 4 1, 3) := by decide +kernel
theorem dX6_secondsOtherwise_89 : decode cX6_secondsOtherwise 89 = .ok (.iinc 5 1, 3) := by decide +kernel
theorem dX6_secondsOtherwise_92 : decode cX6_secondsOtherwise 92 = .ok (.goto (-62), 3) := by decide +kernel
theorem dX6_secondsOtherwise_95 : decode cX6_secondsOtherwise 95 = .ok (.iload 4, 2) := by decide +kernel
theorem dX6_secondsOtherwise_97 : decode cX6_secondsOtherwise 97 = .ok (.ireturn, 1) := by decide +kernel
theorem dX6_putBytes_0 : decode cX6_putBytes 0 = .ok (.bipush 24, 2) := by decide +kernel
theorem dX6_putBytes_2 : decode cX6_putBytes 2 = .ok (.istore_n 2, 1) := by decide +kernel
theorem dX6_putBytes_3 : decode cX6_putBytes 3 = .ok (.iload_n 2, 1) := by decide +kernel
theorem dX6_putBytes_4 : decode cX6_putBytes 4 = .ok (.ifCond .lt 41, 3) := by decide +kernel
theorem dX6_putBytes_7 : decode cX6_putBytes 7 = .ok (.aload_n 0, 1) := by decide +kernel
theorem dX6_putBytes_8 : decode cX6_putBytes 8 = .ok (.getfield 194, 3) := by decide +kernel
theorem dX6_putBytes_11 : decode cX6_putBytes 11 = .ok (.bipush 96, 2) := by decide +kernel
theorem dX6_putBytes_13 : decode cX6_putBytes 13 = .ok (.if_icmp .ge 32, 3) := by decide +kernel
theorem dX6_putBytes_16 : decode cX6_putBytes 16 = .ok (.aload_n 0, 1) := by decide +kernel
theorem dX6_putBytes_17 : decode cX6_putBytes 17 = .ok (.getfield 41, 3) := by decide +kernel
theorem dX6_putBytes_20 : decode cX6_putBytes 20 = .ok (.aload_n 0, 1) := by decide +kernel
theorem dX6_putBytes_21 : decode cX6_putBytes 21 = .ok (.getfield 194, 3) := by decide +kernel
theorem dX6_putBytes_24 : decode cX6_putBytes 24 = .ok (.iload_n 1, 1) := by decide +kernel
theorem dX6_putBytes_25 : decode cX6_putBytes 25 = .ok (.iload_n 2, 1) := by decide +kernel
theorem dX6_putBytes_26 : decode cX6_putBytes 26 = .ok (.iushr, 1) := by decide +kernel
theorem dX6_putBytes_27 : decode cX6_putBytes 27 = .ok (.i2b, 1) := by decide +kernel
theorem dX6_putBytes_28 : decode cX6_putBytes 28 = .ok (.bastore, 1) := by decide +kernel
theorem dX6_putBytes_29 : decode cX6_putBytes 29 = .ok (.aload_n 0, 1) := by decide +kernel
theorem dX6_putBytes_30 : decode cX6_putBytes 30 = .ok (.dup, 1) := by decide +kernel
theorem dX6_putBytes_31 : decode cX6_putBytes 31 = .ok (.getfield 194, 3) := by decide +kernel
theorem dX6_putBytes_34 : decode cX6_putBytes 34 = .ok (.iconst 1, 1) := by decide +kernel
theorem dX6_putBytes_35 : decode cX6_putBytes 35 = .ok (.iadd, 1) := by decide +kernel
theorem dX6_putBytes_36 : decode cX6_putBytes 36 = .ok (.putfield 194, 3) := by decide +kernel
theorem dX6_putBytes_39 : decode cX6_putBytes 39 = .ok (.iinc 2 (-8), 3) := by decide +kernel
theorem dX6_putBytes_42 : decode cX6_putBytes 42 = .ok (.goto (-39), 3) := by decide +kernel
theorem dX6_putBytes_45 : decode cX6_putBytes 45 = .ok (.return_, 1) := by decide +kernel
theorem dX6_firstNotTold_0 : decode cX6_firstNotTold 0 = .ok (.aload_n 0, 1) := by decide +kernel
theorem dX6_firstNotTold_1 : decode cX6_firstNotTold 1 = .ok (.getfield 19, 3) := by decide +kernel
theorem dX6_firstNotTold_4 : decode cX6_firstNotTold 4 = .ok (.aload_n 0, 1) := by decide +kernel
theorem dX6_firstNotTold_5 : decode cX6_firstNotTold 5 = .ok (.getfield 16, 3) := by decide +kernel
theorem dX6_firstNotTold_8 : decode cX6_firstNotTold 8 = .ok (.invokevirtual 159, 3) := by decide +kernel
theorem dX6_firstNotTold_11 : decode cX6_firstNotTold 11 = .ok (.iconst 0, 1) := by decide +kernel
theorem dX6_firstNotTold_12 : decode cX6_firstNotTold 12 = .ok (.istore_n 3, 1) := by decide +kernel
theorem dX6_firstNotTold_13 : decode cX6_firstNotTold 13 = .ok (.iload_n 3, 1) := by decide +kernel
theorem dX6_firstNotTold_14 : decode cX6_firstNotTold 14 = .ok (.iload_n 2, 1) := by decide +kernel
theorem dX6_firstNotTold_15 : decode cX6_firstNotTold 15 = .ok (.if_icmp .ge 63, 3) := by decide +kernel
theorem dX6_firstNotTold_18 : decode cX6_firstNotTold 18 = .ok (.aload_n 0, 1) := by decide +kernel
theorem dX6_firstNotTold_19 : decode cX6_firstNotTold 19 = .ok (.getfield 19, 3) := by decide +kernel
theorem dX6_firstNotTold_22 : decode cX6_firstNotTold 22 = .ok (.invokevirtual 172, 3) := by decide +kernel
theorem dX6_firstNotTold_25 : decode cX6_firstNotTold 25 = .ok (.istore 4, 2) := by decide +kernel
theorem dX6_firstNotTold_27 : decode cX6_firstNotTold 27 = .ok (.aload_n 0, 1) := by decide +kernel
theorem dX6_firstNotTold_28 : decode cX6_firstNotTold 28 = .ok (.iconst 2, 1) := by decide +kernel
theorem dX6_firstNotTold_29 : decode cX6_firstNotTold 29 = .ok (.iload_n 3, 1) := by decide +kernel
theorem dX6_firstNotTold_30 : decode cX6_firstNotTold 30 = .ok (.imul, 1) := by decide +kernel
theorem dX6_firstNotTold_31 : decode cX6_firstNotTold 31 = .ok (.iload_n 1, 1) := by decide +kernel
theorem dX6_firstNotTold_32 : decode cX6_firstNotTold 32 = .ok (.iload 4, 2) := by decide +kernel
theorem dX6_firstNotTold_34 : decode cX6_firstNotTold 34 = .ok (.invokevirtual 292, 3) := by decide +kernel
theorem dX6_firstNotTold_37 : decode cX6_firstNotTold 37 = .ok (.ifCond .ne 9, 3) := by decide +kernel
theorem dX6_firstNotTold_40 : decode cX6_firstNotTold 40 = .ok (.iconst 1, 1) := by decide +kernel
theorem dX6_firstNotTold_41 : decode cX6_firstNotTold 41 = .ok (.iconst 2, 1) := by decide +kernel
theorem dX6_firstNotTold_42 : decode cX6_firstNotTold 42 = .ok (.iload_n 3, 1) := by decide +kernel
theorem dX6_firstNotTold_43 : decode cX6_firstNotTold 43 = .ok (.imul, 1) := by decide +kernel
theorem dX6_firstNotTold_44 : decode cX6_firstNotTold 44 = .ok (.iadd, 1) := by decide +kernel
theorem dX6_firstNotTold_45 : decode cX6_firstNotTold 45 = .ok (.ireturn, 1) := by decide +kernel
theorem dX6_firstNotTold_46 : decode cX6_firstNotTold 46 = .ok (.aload_n 0, 1) := by decide +kernel
theorem dX6_firstNotTold_47 : decode cX6_firstNotTold 47 = .ok (.iconst 2, 1) := by decide +kernel
theorem dX6_firstNotTold_48 : decode cX6_firstNotTold 48 = .ok (.iload_n 3, 1) := by decide +kernel
theorem dX6_firstNotTold_49 : decode cX6_firstNotTold 49 = .ok (.imul, 1) := by decide +kernel
theorem dX6_firstNotTold_50 : decode cX6_firstNotTold 50 = .ok (.iconst 1, 1) := by decide +kernel
theorem dX6_firstNotTold_51 : decode cX6_firstNotTold 51 = .ok (.iadd, 1) := by decide +kernel
theorem dX6_firstNotTold_52 : decode cX6_firstNotTold 52 = .ok (.iload_n 1, 1) := by decide +kernel
theorem dX6_firstNotTold_53 : decode cX6_firstNotTold 53 = .ok (.aload_n 0, 1) := by decide +kernel
theorem dX6_firstNotTold_54 : decode cX6_firstNotTold 54 = .ok (.getfield 19, 3) := by decide +kernel
theorem dX6_firstNotTold_57 : decode cX6_firstNotTold 57 = .ok (.getfield 166, 3) := by decide +kernel
theorem dX6_firstNotTold_60 : decode cX6_firstNotTold 60 = .ok (.invokevirtual 292, 3) := by decide +kernel
theorem dX6_firstNotTold_63 : decode cX6_firstNotTold 63 = .ok (.ifCond .ne 9, 3) := by decide +kernel
theorem dX6_firstNotTold_66 : decode cX6_firstNotTold 66 = .ok (.iconst 2, 1) := by decide +kernel
theorem dX6_firstNotTold_67 : decode cX6_firstNotTold 67 = .ok (.iconst 2, 1) := by decide +kernel
theorem dX6_firstNotTold_68 : decode cX6_firstNotTold 68 = .ok (.iload_n 3, 1) := by decide +kernel
theorem dX6_firstNotTold_69 : decode cX6_firstNotTold 69 = .ok (.imul, 1) := by decide +kernel
theorem dX6_firstNotTold_70 : decode cX6_firstNotTold 70 = .ok (.iadd, 1) := by decide +kernel
theorem dX6_firstNotTold_71 : decode cX6_firstNotTold 71 = .ok (.ireturn, 1) := by decide +kernel
theorem dX6_firstNotTold_72 : decode cX6_firstNotTold 72 = .ok (.iinc 3 1, 3) := by decide +kernel
theorem dX6_firstNotTold_75 : decode cX6_firstNotTold 75 = .ok (.goto (-62), 3) := by decide +kernel
theorem dX6_firstNotTold_78 : decode cX6_firstNotTold 78 = .ok (.iload_n 1, 1) := by decide +kernel
theorem dX6_firstNotTold_79 : decode cX6_firstNotTold 79 = .ok (.iconst 2, 1) := by decide +kernel
theorem dX6_firstNotTold_80 : decode cX6_firstNotTold 80 = .ok (.iload_n 2, 1) := by decide +kernel
theorem dX6_firstNotTold_81 : decode cX6_firstNotTold 81 = .ok (.imul, 1) := by decide +kernel
theorem dX6_firstNotTold_82 : decode cX6_firstNotTold 82 = .ok (.if_icmp .le 11, 3) := by decide +kernel
theorem dX6_firstNotTold_85 : decode cX6_firstNotTold 85 = .ok (.iconst 1, 1) := by decide +kernel
theorem dX6_firstNotTold_86 : decode cX6_firstNotTold 86 = .ok (.iconst 2, 1) := by decide +kernel
theorem dX6_firstNotTold_87 : decode cX6_firstNotTold 87 = .ok (.iload_n 2, 1) := by decide +kernel
theorem dX6_firstNotTold_88 : decode cX6_firstNotTold 88 = .ok (.imul, 1) := by decide +kernel
theorem dX6_firstNotTold_89 : decode cX6_firstNotTold 89 = .ok (.iadd, 1) := by decide +kernel
theorem dX6_firstNotTold_90 : decode cX6_firstNotTold 90 = .ok (.goto 4, 3) := by decide +kernel
theorem dX6_firstNotTold_93 : decode cX6_firstNotTold 93 = .ok (.iconst 0, 1) := by decide +kernel
theorem dX6_firstNotTold_94 : decode cX6_firstNotTold 94 = .ok (.ireturn, 1) := by decide +kernel
theorem dX6_waitedAt_0 : decode cX6_waitedAt 0 = .ok (.iload_n 1, 1) := by decide +kernel
theorem dX6_waitedAt_1 : decode cX6_waitedAt 1 = .ok (.iload_n 2, 1) := by decide +kernel
theorem dX6_waitedAt_2 : decode cX6_waitedAt 2 = .ok (.if_icmp .ge 23, 3) := by decide +kernel
theorem dX6_waitedAt_5 : decode cX6_waitedAt 5 = .ok (.iload_n 1, 1) := by decide +kernel
theorem dX6_waitedAt_6 : decode cX6_waitedAt 6 = .ok (.bipush 60, 2) := by decide +kernel
theorem dX6_waitedAt_8 : decode cX6_waitedAt 8 = .ok (.if_icmp .ge 17, 3) := by decide +kernel
theorem dX6_waitedAt_11 : decode cX6_waitedAt 11 = .ok (.aload_n 0, 1) := by decide +kernel
theorem dX6_waitedAt_12 : decode cX6_waitedAt 12 = .ok (.getfield 45, 3) := by decide +kernel
theorem dX6_waitedAt_15 : decode cX6_waitedAt 15 = .ok (.iload_n 1, 1) := by decide +kernel
theorem dX6_waitedAt_16 : decode cX6_waitedAt 16 = .ok (.iaload, 1) := by decide +kernel
theorem dX6_waitedAt_17 : decode cX6_waitedAt 17 = .ok (.iload_n 3, 1) := by decide +kernel
theorem dX6_waitedAt_18 : decode cX6_waitedAt 18 = .ok (.if_icmp .ne 7, 3) := by decide +kernel
theorem dX6_waitedAt_21 : decode cX6_waitedAt 21 = .ok (.iconst 1, 1) := by decide +kernel
theorem dX6_waitedAt_22 : decode cX6_waitedAt 22 = .ok (.goto 4, 3) := by decide +kernel
theorem dX6_waitedAt_25 : decode cX6_waitedAt 25 = .ok (.iconst 0, 1) := by decide +kernel
theorem dX6_waitedAt_26 : decode cX6_waitedAt 26 = .ok (.ireturn, 1) := by decide +kernel
theorem dX7_init_0 : decode cX7_init 0 = .ok (.aload_n 0, 1) := by decide +kernel
theorem dX7_init_1 : decode cX7_init 1 = .ok (.invokespecial 1, 3) := by decide +kernel
theorem dX7_init_4 : decode cX7_init 4 = .ok (.aload_n 0, 1) := by decide +kernel
theorem dX7_init_5 : decode cX7_init 5 = .ok (.sipush 1465, 3) := by decide +kernel
theorem dX7_init_8 : decode cX7_init 8 = .ok (.newarray .int, 2) := by decide +kernel
theorem dX7_init_10 : decode cX7_init 10 = .ok (.putfield 9, 3) := by decide +kernel
theorem dX7_init_13 : decode cX7_init 13 = .ok (.aload_n 0, 1) := by decide +kernel
theorem dX7_init_14 : decode cX7_init 14 = .ok (.sipush 1465, 3) := by decide +kernel
theorem dX7_init_17 : decode cX7_init 17 = .ok (.newarray .int, 2) := by decide +kernel
theorem dX7_init_19 : decode cX7_init 19 = .ok (.putfield 13, 3) := by decide +kernel
theorem dX7_init_22 : decode cX7_init 22 = .ok (.aload_n 0, 1) := by decide +kernel
theorem dX7_init_23 : decode cX7_init 23 = .ok (.sipush 1465, 3) := by decide +kernel
theorem dX7_init_26 : decode cX7_init 26 = .ok (.newarray .int, 2) := by decide +kernel
theorem dX7_init_28 : decode cX7_init 28 = .ok (.putfield 16, 3) := by decide +kernel
theorem dX7_init_31 : decode cX7_init 31 = .ok (.aload_n 0, 1) := by decide +kernel
theorem dX7_init_32 : decode cX7_init 32 = .ok (.bipush 93, 2) := by decide +kernel
theorem dX7_init_34 : decode cX7_init 34 = .ok (.newarray .int, 2) := by decide +kernel
theorem dX7_init_36 : decode cX7_init 36 = .ok (.putfield 19, 3) := by decide +kernel
theorem dX7_init_39 : decode cX7_init 39 = .ok (.aload_n 0, 1) := by decide +kernel
theorem dX7_init_40 : decode cX7_init 40 = .ok (.bipush 96, 2) := by decide +kernel
theorem dX7_init_42 : decode cX7_init 42 = .ok (.newarray .int, 2) := by decide +kernel
theorem dX7_init_44 : decode cX7_init 44 = .ok (.putfield 22, 3) := by decide +kernel
theorem dX7_init_47 : decode cX7_init 47 = .ok (.aload_n 0, 1) := by decide +kernel
theorem dX7_init_48 : decode cX7_init 48 = .ok (.bipush 12, 2) := by decide +kernel
theorem dX7_init_50 : decode cX7_init 50 = .ok (.newarray .char, 2) := by decide +kernel
theorem dX7_init_52 : decode cX7_init 52 = .ok (.dup, 1) := by decide +kernel
theorem dX7_init_53 : decode cX7_init 53 = .ok (.iconst 0, 1) := by decide +kernel
theorem dX7_init_54 : decode cX7_init 54 = .ok (.bipush 105, 2) := by decide +kernel
theorem dX7_init_56 : decode cX7_init 56 = .ok (.castore, 1) := by decide +kernel
theorem dX7_init_57 : decode cX7_init 57 = .ok (.dup, 1) := by decide +kernel
theorem dX7_init_58 : decode cX7_init 58 = .ok (.iconst 1, 1) := by decide +kernel
theorem dX7_init_59 : decode cX7_init 59 = .ok (.bipush 116, 2) := by decide +kernel
theorem dX7_init_61 : decode cX7_init 61 = .ok (.castore, 1) := by decide +kernel
theorem dX7_init_62 : decode cX7_init 62 = .ok (.dup, 1) := by decide +kernel
theorem dX7_init_63 : decode cX7_init 63 = .ok (.iconst 2, 1) := by decide +kernel
theorem dX7_init_64 : decode cX7_init 64 = .ok (.bipush 99, 2) := by decide +kernel
theorem dX7_init_66 : decode cX7_init 66 = .ok (.castore, 1) := by decide +kernel
theorem dX7_init_67 : decode cX7_init 67 = .ok (.dup, 1) := by decide +kernel
theorem dX7_init_68 : decode cX7_init 68 = .ok (.iconst 3, 1) := by decide +kernel
theorem dX7_init_69 : decode cX7_init 69 = .ok (.bipush 104, 2) := by decide +kernel
theorem dX7_init_71 : decode cX7_init 71 = .ok (.castore, 1) := by decide +kernel
theorem dX7_init_72 : decode cX7_init 72 = .ok (.dup, 1) := by decide +kernel
theorem dX7_init_73 : decode cX7_init 73 = .ok (.iconst 4, 1) := by decide +kernel
theorem dX7_init_74 : decode cX7_init 74 = .ok (.bipush 104, 2) := by decide +kernel
theorem dX7_init_76 : decode cX7_init 76 = .ok (.castore, 1) := by decide +kernel
theorem dX7_init_77 : decode cX7_init 77 = .ok (.dup, 1) := by decide +kernel
theorem dX7_init_78 : decode cX7_init 78 = .ok (.iconst 5, 1) := by decide +kernel
theorem dX7_init_79 : decode cX7_init 79 = .ok (.bipush 97, 2) := by decide +kernel
theorem dX7_init_81 : decode cX7_init 81 = .ok (.castore, 1) := by decide +kernel
theorem dX7_init_82 : decode cX7_init 82 = .ok (.dup, 1) := by decide +kernel
theorem dX7_init_83 : decode cX7_init 83 = .ok (.bipush 6, 2) := by decide +kernel
theorem dX7_init_85 : decode cX7_init 85 = .ok (.bipush 114, 2) := by decide +kernel
theorem dX7_init_87 : decode cX7_init 87 = .ok (.castore, 1) := by decide +kernel
theorem dX7_init_88 : decode cX7_init 88 = .ok (.dup, 1) := by decide +kernel
theorem dX7_init_89 : decode cX7_init 89 = .ok (.bipush 7, 2) := by decide +kernel
theorem dX7_init_91 : decode cX7_init 91 = .ok (.bipush 109, 2) := by decide +kernel
theorem dX7_init_93 : decode cX7_init 93 = .ok (.castore, 1) := by decide +kernel
theorem dX7_init_94 : decode cX7_init 94 = .ok (.dup, 1) := by decide +kernel
theorem dX7_init_95 : decode cX7_init 95 = .ok (.bipush 8, 2) := by decide +kernel
theorem dX7_init_97 : decode cX7_init 97 = .ok (.bipush 102, 2) := by decide +kernel
theorem dX7_init_99 : decode cX7_init 99 = .ok (.castore, 1) := by decide +kernel
theorem dX7_init_100 : decode cX7_init 100 = .ok (.dup, 1) := by decide +kernel
theorem dX7_init_101 : decode cX7_init 101 = .ok (.bipush 9, 2) := by decide +kernel
theorem dX7_init_103 : decode cX7_init 103 = .ok (.bipush 105, 2) := by decide +kernel
theorem dX7_init_105 : decode cX7_init 105 = .ok (.castore, 1) := by decide +kernel
theorem dX7_init_106 : decode cX7_init 106 = .ok (.dup, 1) := by decide +kernel
theorem dX7_init_107 : decode cX7_init 107 = .ok (.bipush 10, 2) := by decide +kernel
theorem dX7_init_109 : decode cX7_init 109 = .ok (.bipush 110, 2) := by decide +kernel
theorem dX7_init_111 : decode cX7_init 111 = .ok (.castore, 1) := by decide +kernel
theorem dX7_init_112 : decode cX7_init 112 = .ok (.dup, 1) := by decide +kernel
theorem dX7_init_113 : decode cX7_init 113 = .ok (.bipush 11, 2) := by decide +kernel
theorem dX7_init_115 : decode cX7_init 115 = .ok (.bipush 101, 2) := by decide +kernel
theorem dX7_init_117 : decode cX7_init 117 = .ok (.castore, 1) := by decide +kernel
theorem dX7_init_118 : decode cX7_init 118 = .ok (.putfield 25, 3) := by decide +kernel
theorem dX7_init_121 : decode cX7_init 121 = .ok (.aload_n 0, 1) := by decide +kernel
theorem dX7_init_122 : decode cX7_init 122 = .ok (.iconst 4, 1) := by decide +kernel
theorem dX7_init_123 : decode cX7_init 123 = .ok (.newarray .int, 2) := by decide +kernel
theorem dX7_init_125 : decode cX7_init 125 = .ok (.dup, 1) := by decide +kernel
theorem dX7_init_126 : decode cX7_init 126 = .ok (.iconst 0, 1) := by decide +kernel
theorem dX7_init_127 : decode cX7_init 127 = .ok (.iconst 0, 1) := by decide +kernel
theorem dX7_init_128 : decode cX7_init 128 = .ok (.iastore, 1) := by decide +kernel
theorem dX7_init_129 : decode cX7_init 129 = .ok (.dup, 1) := by decide +kernel
theorem dX7_init_130 : decode cX7_init 130 = .ok (.iconst 1, 1) := by decide +kernel
theorem dX7_init_131 : decode cX7_init 131 = .ok (.iconst 4, 1) := by decide +kernel
theorem dX7_init_132 : decode cX7_init 132 = .ok (.iastore, 1) := by decide +kernel
theorem dX7_init_133 : decode cX7_init 133 = .ok (.dup, 1) := by decide +kernel
theorem dX7_init_134 : decode cX7_init 134 = .ok (.iconst 2, 1) := by decide +kernel
theorem dX7_init_135 : decode cX7_init 135 = .ok (.bipush 8, 2) := by decide +kernel
theorem dX7_init_137 : decode cX7_init 137 = .ok (.iastore, 1) := by decide +kernel
theorem dX7_init_138 : decode cX7_init 138 = .ok (.dup, 1) := by decide +kernel
theorem dX7_init_139 : decode cX7_init 139 = .ok (.iconst 3, 1) := by decide +kernel
theorem dX7_init_140 : decode cX7_init 140 = .ok (.bipush 12, 2) := by decide +kernel
theorem dX7_init_142 : decode cX7_init 142 = .ok (.iastore, 1) := by decide +kernel
theorem dX7_init_143 : decode cX7_init 143 = .ok (.putfield 29, 3) := by decide +kernel
theorem dX7_init_146 : decode cX7_init 146 = .ok (.aload_n 0, 1) := by decide +kernel
theorem dX7_init_147 : decode cX7_init 147 = .ok (.bipush 96, 2) := by decide +kernel
theorem dX7_init_149 : decode cX7_init 149 = .ok (.newarray .int, 2) := by decide +kernel
theorem dX7_init_151 : decode cX7_init 151 = .ok (.putfield 32, 3) := by decide +kernel
theorem dX7_init_154 : decode cX7_init 154 = .ok (.aload_n 0, 1) := by decide +kernel
theorem dX7_init_155 : decode cX7_init 155 = .ok (.bipush 96, 2) := by decide +kernel
theorem dX7_init_157 : decode cX7_init 157 = .ok (.newarray .int, 2) := by decide +kernel
theorem dX7_init_159 : decode cX7_init 159 = .ok (.putfield 35, 3) := by decide +kernel
theorem dX7_init_162 : decode cX7_init 162 = .ok (.aload_n 0, 1) := by decide +kernel
theorem dX7_init_163 : decode cX7_init 163 = .ok (.bipush 10, 2) := by decide +kernel
theorem dX7_init_165 : decode cX7_init 165 = .ok (.newarray .boolean, 2) := by decide +kernel
theorem dX7_init_167 : decode cX7_init 167 = .ok (.putfield 38, 3) := by decide +kernel
theorem dX7_init_170 : decode cX7_init 170 = .ok (.aload_n 0, 1) := by decide +kernel
theorem dX7_init_171 : decode cX7_init 171 = .ok (.bipush 96, 2) := by decide +kernel
theorem dX7_init_173 : decode cX7_init 173 = .ok (.newarray .int, 2) := by decide +kernel
theorem dX7_init_175 : decode cX7_init 175 = .ok (.putfield 42, 3) := by decide +kernel
theorem dX7_init_178 : decode cX7_init 178 = .ok (.aload_n 0, 1) := by decide +kernel
theorem dX7_init_179 : decode cX7_init 179 = .ok (.iconst 4, 1) := by decide +kernel
theorem dX7_init_180 : decode cX7_init 180 = .ok (.newarray .int, 2) := by decide +kernel
theorem dX7_init_182 : decode cX7_init 182 = .ok (.putfield 45, 3) := by decide +kernel
theorem dX7_init_185 : decode cX7_init 185 = .ok (.aload_n 0, 1) := by decide +kernel
theorem dX7_init_186 : decode cX7_init 186 = .ok (.iconst 4, 1) := by decide +kernel
theorem dX7_init_187 : decode cX7_init 187 = .ok (.newarray .int, 2) := by decide +kernel
theorem dX7_init_189 : decode cX7_init 189 = .ok (.dup, 1) := by decide +kernel
theorem dX7_init_190 : decode cX7_init 190 = .ok (.iconst 0, 1) := by decide +kernel
theorem dX7_init_191 : decode cX7_init 191 = .ok (.iconst (-1), 1) := by decide +kernel
theorem dX7_init_192 : decode cX7_init 192 = .ok (.iastore, 1) := by decide +kernel
theorem dX7_init_193 : decode cX7_init 193 = .ok (.dup, 1) := by decide +kernel
theorem dX7_init_194 : decode cX7_init 194 = .ok (.iconst 1, 1) := by decide +kernel
theorem dX7_init_195 : decode cX7_init 195 = .ok (.iconst (-1), 1) := by decide +kernel
theorem dX7_init_196 : decode cX7_init 196 = .ok (.iastore, 1) := by decide +kernel
theorem dX7_init_197 : decode cX7_init 197 = .ok (.dup, 1) := by decide +kernel
theorem dX7_init_198 : decode cX7_init 198 = .ok (.iconst 2, 1) := by decide +kernel
theorem dX7_init_199 : decode cX7_init 199 = .ok (.iconst (-1), 1) := by decide +kernel
theorem dX7_init_200 : decode cX7_init 200 = .ok (.iastore, 1) := by decide +kernel
theorem dX7_init_201 : decode cX7_init 201 = .ok (.dup, 1) := by decide +kernel
theorem dX7_init_202 : decode cX7_init 202 = .ok (.iconst 3, 1) := by decide +kernel
theorem dX7_init_203 : decode cX7_init 203 = .ok (.iconst (-1), 1) := by decide +kernel
theorem dX7_init_204 : decode cX7_init 204 = .ok (.iastore, 1) := by decide +kernel
theorem dX7_init_205 : decode cX7_init 205 = .ok (.putfield 48, 3) := by decide +kernel
theorem dX7_init_208 : decode cX7_init 208 = .ok (.aload_n 0, 1) := by decide +kernel
theorem dX7_init_209 : decode cX7_init 209 = .ok (.iconst 4, 1) := by decide +kernel
theorem dX7_init_210 : decode cX7_init 210 = .ok (.newarray .int, 2) := by decide +kernel
theorem dX7_init_212 : decode cX7_init 212 = .ok (.putfield 51, 3) := by decide +kernel
theorem dX7_init_215 : decode cX7_init 215 = .ok (.aload_n 0, 1) := by decide +kernel
theorem dX7_init_216 : decode cX7_init 216 = .ok (.bipush 96, 2) := by decide +kernel
theorem dX7_init_218 : decode cX7_init 218 = .ok (.newarray .int, 2) := by decide +kernel
theorem dX7_init_220 : decode cX7_init 220 = .ok (.putfield 54, 3) := by decide +kernel
theorem dX7_init_223 : decode cX7_init 223 = .ok (.aload_n 0, 1) := by decide +kernel
theorem dX7_init_224 : decode cX7_init 224 = .ok (.iconst 5, 1) := by decide +kernel
theorem dX7_init_225 : decode cX7_init 225 = .ok (.newarray .int, 2) := by decide +kernel
theorem dX7_init_227 : decode cX7_init 227 = .ok (.putfield 57, 3) := by decide +kernel
theorem dX7_init_230 : decode cX7_init 230 = .ok (.aload_n 0, 1) := by decide +kernel
theorem dX7_init_231 : decode cX7_init 231 = .ok (.iconst 5, 1) := by decide +kernel
theorem dX7_init_232 : decode cX7_init 232 = .ok (.newarray .int, 2) := by decide +kernel
theorem dX7_init_234 : decode cX7_init 234 = .ok (.putfield 60, 3) := by decide +kernel
theorem dX7_init_237 : decode cX7_init 237 = .ok (.aload_n 0, 1) := by decide +kernel
theorem dX7_init_238 : decode cX7_init 238 = .ok (.iconst 5, 1) := by decide +kernel
theorem dX7_init_239 : decode cX7_init 239 = .ok (.newarray .int, 2) := by decide +kernel
theorem dX7_init_241 : decode cX7_init 241 = .ok (.putfield 63, 3) := by decide +kernel
theorem dX7_init_244 : decode cX7_init 244 = .ok (.aload_n 0, 1) := by decide +kernel
theorem dX7_init_245 : decode cX7_init 245 = .ok (.bipush 120, 2) := by decide +kernel
theorem dX7_init_247 : decode cX7_init 247 = .ok (.newarray .int, 2) := by decide +kernel
theorem dX7_init_249 : decode cX7_init 249 = .ok (.putfield 66, 3) := by decide +kernel
theorem dX7_init_252 : decode cX7_init 252 = .ok (.aload_n 0, 1) := by decide +kernel
theorem dX7_init_253 : decode cX7_init 253 = .ok (.bipush 24, 2) := by decide +kernel
theorem dX7_init_255 : decode cX7_init 255 = .ok (.newarray .int, 2) := by decide +kernel
theorem dX7_init_257 : decode cX7_init 257 = .ok (.putfield 69, 3) := by decide +kernel
theorem dX7_init_260 : decode cX7_init 260 = .ok (.aload_n 0, 1) := by decide +kernel
theorem dX7_init_261 : decode cX7_init 261 = .ok (.bipush 60, 2) := by decide +kernel
theorem dX7_init_263 : decode cX7_init 263 = .ok (.newarray .int, 2) := by decide +kernel
theorem dX7_init_265 : decode cX7_init 265 = .ok (.putfield 72, 3) := by decide +kernel
theorem dX7_init_268 : decode cX7_init 268 = .ok (.aload_n 0, 1) := by decide +kernel
theorem dX7_init_269 : decode cX7_init 269 = .ok (.getfield 9, 3) := by decide +kernel
theorem dX7_init_272 : decode cX7_init 272 = .ok (.iconst 0, 1) := by decide +kernel
theorem dX7_init_273 : decode cX7_init 273 = .ok (.iconst 1, 1) := by decide +kernel
theorem dX7_init_274 : decode cX7_init 274 = .ok (.iastore, 1) := by decide +kernel
theorem dX7_init_275 : decode cX7_init 275 = .ok (.aload_n 0, 1) := by decide +kernel
theorem dX7_init_276 : decode cX7_init 276 = .ok (.getfield 9, 3) := by decide +kernel
theorem dX7_init_279 : decode cX7_init 279 = .ok (.iconst 2, 1) := by decide +kernel
theorem dX7_init_280 : decode cX7_init 280 = .ok (.iconst 4, 1) := by decide +kernel
theorem dX7_init_281 : decode cX7_init 281 = .ok (.iastore, 1) := by decide +kernel
theorem dX7_init_282 : decode cX7_init 282 = .ok (.aload_n 0, 1) := by decide +kernel
theorem dX7_init_283 : decode cX7_init 283 = .ok (.getfield 9, 3) := by decide +kernel
theorem dX7_init_286 : decode cX7_init 286 = .ok (.bipush 6, 2) := by decide +kernel
theorem dX7_init_288 : decode cX7_init 288 = .ok (.bipush 30, 2) := by decide +kernel
theorem dX7_init_290 : decode cX7_init 290 = .ok (.iastore, 1) := by decide +kernel
theorem dX7_init_291 : decode cX7_init 291 = .ok (.aload_n 0, 1) := by decide +kernel
theorem dX7_init_292 : decode cX7_init 292 = .ok (.getfield 9, 3) := by decide +kernel
theorem dX7_init_295 : decode cX7_init 295 = .ok (.bipush 7, 2) := by decide +kernel
theorem dX7_init_297 : decode cX7_init 297 = .ok (.iconst 3, 1) := by decide +kernel
theorem dX7_init_298 : decode cX7_init 298 = .ok (.iastore, 1) := by decide +kernel
theorem dX7_init_299 : decode cX7_init 299 = .ok (.return_, 1) := by decide +kernel
theorem dX7_in_0 : decode cX7_in 0 = .ok (.iload_n 0, 1) := by decide +kernel
theorem dX7_in_1 : decode cX7_in 1 = .ok (.iload_n 1, 1) := by decide +kernel
theorem dX7_in_2 : decode cX7_in 2 = .ok (.if_icmp .lt 12, 3) := by decide +kernel
theorem dX7_in_5 : decode cX7_in 5 = .ok (.iload_n 0, 1) := by decide +kernel
theorem dX7_in_6 : decode cX7_in 6 = .ok (.iload_n 2, 1) := by decide +kernel
theorem dX7_in_7 : decode cX7_in 7 = .ok (.if_icmp .gt 7, 3) := by decide +kernel
theorem dX7_in_10 : decode cX7_in 10 = .ok (.iconst 1, 1) := by decide +kernel
