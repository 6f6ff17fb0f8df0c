theorem dX7_in_11 : decode cX7_in 11 = .ok (.goto 4, 3) := by decide +kernel
theorem dX7_in_14 : decode cX7_in 14 = .ok (.iconst 0, 1) := by decide +kernel
theorem dX7_in_15 : decode cX7_in 15 = .ok (.ireturn, 1) := by decide +kernel
theorem dX7_within_0 : decode cX7_within 0 = .ok (.iload_n 0, 1) := by decide +kernel
theorem dX7_within_1 : decode cX7_within 1 = .ok (.iload_n 1, 1) := by decide +kernel
theorem dX7_within_2 : decode cX7_within 2 = .ok (.if_icmp .ge 7, 3) := by decide +kernel
theorem dX7_within_5 : decode cX7_within 5 = .ok (.iload_n 1, 1) := by decide +kernel
theorem dX7_within_6 : decode cX7_within 6 = .ok (.goto 13, 3) := by decide +kernel
theorem dX7_within_9 : decode cX7_within 9 = .ok (.iload_n 0, 1) := by decide +kernel
theorem dX7_within_10 : decode cX7_within 10 = .ok (.iload_n 2, 1) := by decide +kernel
theorem dX7_within_11 : decode cX7_within 11 = .ok (.if_icmp .le 7, 3) := by decide +kernel
theorem dX7_within_14 : decode cX7_within 14 = .ok (.iload_n 2, 1) := by decide +kernel
theorem dX7_within_15 : decode cX7_within 15 = .ok (.goto 4, 3) := by decide +kernel
theorem dX7_within_18 : decode cX7_within 18 = .ok (.iload_n 0, 1) := by decide +kernel
theorem dX7_within_19 : decode cX7_within 19 = .ok (.ireturn, 1) := by decide +kernel
theorem dX7_copyAll_0 : decode cX7_copyAll 0 = .ok (.iconst 0, 1) := by decide +kernel
theorem dX7_copyAll_1 : decode cX7_copyAll 1 = .ok (.istore_n 2, 1) := by decide +kernel
theorem dX7_copyAll_2 : decode cX7_copyAll 2 = .ok (.iload_n 2, 1) := by decide +kernel
theorem dX7_copyAll_3 : decode cX7_copyAll 3 = .ok (.sipush 1465, 3) := by decide +kernel
theorem dX7_copyAll_6 : decode cX7_copyAll 6 = .ok (.if_icmp .ge 15, 3) := by decide +kernel
theorem dX7_copyAll_9 : decode cX7_copyAll 9 = .ok (.aload_n 1, 1) := by decide +kernel
theorem dX7_copyAll_10 : decode cX7_copyAll 10 = .ok (.iload_n 2, 1) := by decide +kernel
theorem dX7_copyAll_11 : decode cX7_copyAll 11 = .ok (.aload_n 0, 1) := by decide +kernel
theorem dX7_copyAll_12 : decode cX7_copyAll 12 = .ok (.iload_n 2, 1) := by decide +kernel
theorem dX7_copyAll_13 : decode cX7_copyAll 13 = .ok (.iaload, 1) := by decide +kernel
theorem dX7_copyAll_14 : decode cX7_copyAll 14 = .ok (.iastore, 1) := by decide +kernel
theorem dX7_copyAll_15 : decode cX7_copyAll 15 = .ok (.iinc 2 1, 3) := by decide +kernel
theorem dX7_copyAll_18 : decode cX7_copyAll 18 = .ok (.goto (-16), 3) := by decide +kernel
theorem dX7_copyAll_21 : decode cX7_copyAll 21 = .ok (.return_, 1) := by decide +kernel
theorem dX7_told0_0 : decode cX7_told0 0 = .ok (.iload_n 0, 1) := by decide +kernel
theorem dX7_told0_1 : decode cX7_told0 1 = .ok (.ifCond .ge 8, 3) := by decide +kernel
theorem dX7_told0_4 : decode cX7_told0 4 = .ok (.ldc 75, 2) := by decide +kernel
theorem dX7_told0_6 : decode cX7_told0 6 = .ok (.goto 4, 3) := by decide +kernel
theorem dX7_told0_9 : decode cX7_told0 9 = .ok (.iload_n 0, 1) := by decide +kernel
theorem dX7_told0_10 : decode cX7_told0 10 = .ok (.ireturn, 1) := by decide +kernel
theorem dX7_isOne_0 : decode cX7_isOne 0 = .ok (.iload_n 1, 1) := by decide +kernel
theorem dX7_isOne_1 : decode cX7_isOne 1 = .ok (.iconst 0, 1) := by decide +kernel
theorem dX7_isOne_2 : decode cX7_isOne 2 = .ok (.aload_n 0, 1) := by decide +kernel
theorem dX7_isOne_3 : decode cX7_isOne 3 = .ok (.getfield 9, 3) := by decide +kernel
theorem dX7_isOne_6 : decode cX7_isOne 6 = .ok (.iconst 1, 1) := by decide +kernel
theorem dX7_isOne_7 : decode cX7_isOne 7 = .ok (.iaload, 1) := by decide +kernel
theorem dX7_isOne_8 : decode cX7_isOne 8 = .ok (.iconst 1, 1) := by decide +kernel
theorem dX7_isOne_9 : decode cX7_isOne 9 = .ok (.isub, 1) := by decide +kernel
theorem dX7_isOne_10 : decode cX7_isOne 10 = .ok (.invokestatic 76, 3) := by decide +kernel
theorem dX7_isOne_13 : decode cX7_isOne 13 = .ok (.ireturn, 1) := by decide +kernel
theorem dX7_isSeat_0 : decode cX7_isSeat 0 = .ok (.iload_n 0, 1) := by decide +kernel
theorem dX7_isSeat_1 : decode cX7_isSeat 1 = .ok (.iconst 0, 1) := by decide +kernel
theorem dX7_isSeat_2 : decode cX7_isSeat 2 = .ok (.bipush 29, 2) := by decide +kernel
theorem dX7_isSeat_4 : decode cX7_isSeat 4 = .ok (.invokestatic 76, 3) := by decide +kernel
theorem dX7_isSeat_7 : decode cX7_isSeat 7 = .ok (.ireturn, 1) := by decide +kernel
theorem dX7_of_0 : decode cX7_of 0 = .ok (.aload_n 0, 1) := by decide +kernel
theorem dX7_of_1 : decode cX7_of 1 = .ok (.getfield 9, 3) := by decide +kernel
theorem dX7_of_4 : decode cX7_of 4 = .ok (.bipush 33, 2) := by decide +kernel
theorem dX7_of_6 : decode cX7_of 6 = .ok (.bipush 6, 2) := by decide +kernel
theorem dX7_of_8 : decode cX7_of 8 = .ok (.iload_n 1, 1) := by decide +kernel
theorem dX7_of_9 : decode cX7_of 9 = .ok (.imul, 1) := by decide +kernel
theorem dX7_of_10 : decode cX7_of 10 = .ok (.iadd, 1) := by decide +kernel
theorem dX7_of_11 : decode cX7_of 11 = .ok (.iload_n 2, 1) := by decide +kernel
theorem dX7_of_12 : decode cX7_of 12 = .ok (.iadd, 1) := by decide +kernel
theorem dX7_of_13 : decode cX7_of 13 = .ok (.iaload, 1) := by decide +kernel
theorem dX7_of_14 : decode cX7_of 14 = .ok (.ireturn, 1) := by decide +kernel
theorem dX7_put_0 : decode cX7_put 0 = .ok (.aload_n 0, 1) := by decide +kernel
theorem dX7_put_1 : decode cX7_put 1 = .ok (.getfield 9, 3) := by decide +kernel
theorem dX7_put_4 : decode cX7_put 4 = .ok (.bipush 33, 2) := by decide +kernel
theorem dX7_put_6 : decode cX7_put 6 = .ok (.bipush 6, 2) := by decide +kernel
theorem dX7_put_8 : decode cX7_put 8 = .ok (.iload_n 1, 1) := by decide +kernel
theorem dX7_put_9 : decode cX7_put 9 = .ok (.imul, 1) := by decide +kernel
theorem dX7_put_10 : decode cX7_put 10 = .ok (.iadd, 1) := by decide +kernel
theorem dX7_put_11 : decode cX7_put 11 = .ok (.iload_n 2, 1) := by decide +kernel
theorem dX7_put_12 : decode cX7_put 12 = .ok (.iadd, 1) := by decide +kernel
theorem dX7_put_13 : decode cX7_put 13 = .ok (.iload_n 3, 1) := by decide +kernel
theorem dX7_put_14 : decode cX7_put 14 = .ok (.iastore, 1) := by decide +kernel
theorem dX7_put_15 : decode cX7_put 15 = .ok (.return_, 1) := by decide +kernel
theorem dX7_becomes_0 : decode cX7_becomes 0 = .ok (.aload_n 0, 1) := by decide +kernel
theorem dX7_becomes_1 : decode cX7_becomes 1 = .ok (.getfield 9, 3) := by decide +kernel
theorem dX7_becomes_4 : decode cX7_becomes 4 = .ok (.iload_n 1, 1) := by decide +kernel
theorem dX7_becomes_5 : decode cX7_becomes 5 = .ok (.iaload, 1) := by decide +kernel
theorem dX7_becomes_6 : decode cX7_becomes 6 = .ok (.istore_n 3, 1) := by decide +kernel
theorem dX7_becomes_7 : decode cX7_becomes 7 = .ok (.aload_n 0, 1) := by decide +kernel
theorem dX7_becomes_8 : decode cX7_becomes 8 = .ok (.getfield 9, 3) := by decide +kernel
theorem dX7_becomes_11 : decode cX7_becomes 11 = .ok (.iload_n 1, 1) := by decide +kernel
theorem dX7_becomes_12 : decode cX7_becomes 12 = .ok (.iload_n 2, 1) := by decide +kernel
theorem dX7_becomes_13 : decode cX7_becomes 13 = .ok (.iastore, 1) := by decide +kernel
theorem dX7_becomes_14 : decode cX7_becomes 14 = .ok (.iload_n 3, 1) := by decide +kernel
theorem dX7_becomes_15 : decode cX7_becomes 15 = .ok (.ireturn, 1) := by decide +kernel
theorem dX7_whoOn_0 : decode cX7_whoOn 0 = .ok (.iconst 0, 1) := by decide +kernel
theorem dX7_whoOn_1 : decode cX7_whoOn 1 = .ok (.istore_n 2, 1) := by decide +kernel
theorem dX7_whoOn_2 : decode cX7_whoOn 2 = .ok (.iload_n 2, 1) := by decide +kernel
theorem dX7_whoOn_3 : decode cX7_whoOn 3 = .ok (.aload_n 0, 1) := by decide +kernel
theorem dX7_whoOn_4 : decode cX7_whoOn 4 = .ok (.getfield 9, 3) := by decide +kernel
theorem dX7_whoOn_7 : decode cX7_whoOn 7 = .ok (.iconst 1, 1) := by decide +kernel
theorem dX7_whoOn_8 : decode cX7_whoOn 8 = .ok (.iaload, 1) := by decide +kernel
theorem dX7_whoOn_9 : decode cX7_whoOn 9 = .ok (.if_icmp .ge 21, 3) := by decide +kernel
theorem dX7_whoOn_12 : decode cX7_whoOn 12 = .ok (.aload_n 0, 1) := by decide +kernel
theorem dX7_whoOn_13 : decode cX7_whoOn 13 = .ok (.iload_n 2, 1) := by decide +kernel
theorem dX7_whoOn_14 : decode cX7_whoOn 14 = .ok (.iconst 1, 1) := by decide +kernel
theorem dX7_whoOn_15 : decode cX7_whoOn 15 = .ok (.invokevirtual 80, 3) := by decide +kernel
theorem dX7_whoOn_18 : decode cX7_whoOn 18 = .ok (.iload_n 1, 1) := by decide +kernel
theorem dX7_whoOn_19 : decode cX7_whoOn 19 = .ok (.if_icmp .ne 5, 3) := by decide +kernel
theorem dX7_whoOn_22 : decode cX7_whoOn 22 = .ok (.iload_n 2, 1) := by decide +kernel
theorem dX7_whoOn_23 : decode cX7_whoOn 23 = .ok (.ireturn, 1) := by decide +kernel
theorem dX7_whoOn_24 : decode cX7_whoOn 24 = .ok (.iinc 2 1, 3) := by decide +kernel
theorem dX7_whoOn_27 : decode cX7_whoOn 27 = .ok (.goto (-25), 3) := by decide +kernel
theorem dX7_whoOn_30 : decode cX7_whoOn 30 = .ok (.iconst (-1), 1) := by decide +kernel
theorem dX7_whoOn_31 : decode cX7_whoOn 31 = .ok (.ireturn, 1) := by decide +kernel
theorem dX7_comes_0 : decode cX7_comes 0 = .ok (.aload_n 0, 1) := by decide +kernel
theorem dX7_comes_1 : decode cX7_comes 1 = .ok (.getfield 9, 3) := by decide +kernel
theorem dX7_comes_4 : decode cX7_comes 4 = .ok (.iconst 1, 1) := by decide +kernel
theorem dX7_comes_5 : decode cX7_comes 5 = .ok (.iaload, 1) := by decide +kernel
theorem dX7_comes_6 : decode cX7_comes 6 = .ok (.istore 4, 2) := by decide +kernel
theorem dX7_comes_8 : decode cX7_comes 8 = .ok (.aload_n 0, 1) := by decide +kernel
theorem dX7_comes_9 : decode cX7_comes 9 = .ok (.iload 4, 2) := by decide +kernel
theorem dX7_comes_11 : decode cX7_comes 11 = .ok (.iconst 0, 1) := by decide +kernel
theorem dX7_comes_12 : decode cX7_comes 12 = .ok (.iload_n 1, 1) := by decide +kernel
theorem dX7_comes_13 : decode cX7_comes 13 = .ok (.invokevirtual 84, 3) := by decide +kernel
theorem dX7_comes_16 : decode cX7_comes 16 = .ok (.aload_n 0, 1) := by decide +kernel
theorem dX7_comes_17 : decode cX7_comes 17 = .ok (.iload 4, 2) := by decide +kernel
theorem dX7_comes_19 : decode cX7_comes 19 = .ok (.iconst 1, 1) := by decide +kernel
theorem dX7_comes_20 : decode cX7_comes 20 = .ok (.iload_n 2, 1) := by decide +kernel
theorem dX7_comes_21 : decode cX7_comes 21 = .ok (.invokevirtual 84, 3) := by decide +kernel
theorem dX7_comes_24 : decode cX7_comes 24 = .ok (.aload_n 0, 1) := by decide +kernel
theorem dX7_comes_25 : decode cX7_comes 25 = .ok (.iload 4, 2) := by decide +kernel
theorem dX7_comes_27 : decode cX7_comes 27 = .ok (.iconst 2, 1) := by decide +kernel
theorem dX7_comes_28 : decode cX7_comes 28 = .ok (.iload_n 3, 1) := by decide +kernel
theorem dX7_comes_29 : decode cX7_comes 29 = .ok (.invokevirtual 84, 3) := by decide +kernel
theorem dX7_comes_32 : decode cX7_comes 32 = .ok (.aload_n 0, 1) := by decide +kernel
theorem dX7_comes_33 : decode cX7_comes 33 = .ok (.iload 4, 2) := by decide +kernel
theorem dX7_comes_35 : decode cX7_comes 35 = .ok (.iconst 3, 1) := by decide +kernel
theorem dX7_comes_36 : decode cX7_comes 36 = .ok (.iconst 0, 1) := by decide +kernel
theorem dX7_comes_37 : decode cX7_comes 37 = .ok (.invokevirtual 84, 3) := by decide +kernel
theorem dX7_comes_40 : decode cX7_comes 40 = .ok (.aload_n 0, 1) := by decide +kernel
theorem dX7_comes_41 : decode cX7_comes 41 = .ok (.iload 4, 2) := by decide +kernel
theorem dX7_comes_43 : decode cX7_comes 43 = .ok (.iconst 4, 1) := by decide +kernel
theorem dX7_comes_44 : decode cX7_comes 44 = .ok (.iconst 0, 1) := by decide +kernel
theorem dX7_comes_45 : decode cX7_comes 45 = .ok (.invokevirtual 84, 3) := by decide +kernel
theorem dX7_comes_48 : decode cX7_comes 48 = .ok (.aload_n 0, 1) := by decide +kernel
theorem dX7_comes_49 : decode cX7_comes 49 = .ok (.iload 4, 2) := by decide +kernel
theorem dX7_comes_51 : decode cX7_comes 51 = .ok (.iconst 5, 1) := by decide +kernel
theorem dX7_comes_52 : decode cX7_comes 52 = .ok (.iconst 0, 1) := by decide +kernel
theorem dX7_comes_53 : decode cX7_comes 53 = .ok (.invokevirtual 84, 3) := by decide +kernel
theorem dX7_comes_56 : decode cX7_comes 56 = .ok (.aload_n 0, 1) := by decide +kernel
theorem dX7_comes_57 : decode cX7_comes 57 = .ok (.getfield 9, 3) := by decide +kernel
theorem dX7_comes_60 : decode cX7_comes 60 = .ok (.iconst 1, 1) := by decide +kernel
theorem dX7_comes_61 : decode cX7_comes 61 = .ok (.dup2, 1) := by decide +kernel
theorem dX7_comes_62 : decode cX7_comes 62 = .ok (.iaload, 1) := by decide +kernel
theorem dX7_comes_63 : decode cX7_comes 63 = .ok (.iconst 1, 1) := by decide +kernel
theorem dX7_comes_64 : decode cX7_comes 64 = .ok (.iadd, 1) := by decide +kernel
theorem dX7_comes_65 : decode cX7_comes 65 = .ok (.iastore, 1) := by decide +kernel
theorem dX7_comes_66 : decode cX7_comes 66 = .ok (.iload 4, 2) := by decide +kernel
theorem dX7_comes_68 : decode cX7_comes 68 = .ok (.ireturn, 1) := by decide +kernel
theorem dX7_person_0 : decode cX7_person 0 = .ok (.iload_n 1, 1) := by decide +kernel
theorem dX7_person_1 : decode cX7_person 1 = .ok (.iconst 0, 1) := by decide +kernel
theorem dX7_person_2 : decode cX7_person 2 = .ok (.iconst 5, 1) := by decide +kernel
theorem dX7_person_3 : decode cX7_person 3 = .ok (.invokestatic 76, 3) := by decide +kernel
theorem dX7_person_6 : decode cX7_person 6 = .ok (.ifCond .eq 20, 3) := by decide +kernel
theorem dX7_person_9 : decode cX7_person 9 = .ok (.iload_n 2, 1) := by decide +kernel
theorem dX7_person_10 : decode cX7_person 10 = .ok (.invokestatic 88, 3) := by decide +kernel
theorem dX7_person_13 : decode cX7_person 13 = .ok (.ifCond .eq 13, 3) := by decide +kernel
theorem dX7_person_16 : decode cX7_person 16 = .ok (.iload_n 3, 1) := by decide +kernel
theorem dX7_person_17 : decode cX7_person 17 = .ok (.iconst 0, 1) := by decide +kernel
theorem dX7_person_18 : decode cX7_person 18 = .ok (.bipush 99, 2) := by decide +kernel
theorem dX7_person_20 : decode cX7_person 20 = .ok (.invokestatic 76, 3) := by decide +kernel
theorem dX7_person_23 : decode cX7_person 23 = .ok (.ifCond .ne 6, 3) := by decide +kernel
theorem dX7_person_26 : decode cX7_person 26 = .ok (.ldc 92, 2) := by decide +kernel
theorem dX7_person_28 : decode cX7_person 28 = .ok (.ireturn, 1) := by decide +kernel
theorem dX7_person_29 : decode cX7_person 29 = .ok (.aload_n 0, 1) := by decide +kernel
theorem dX7_person_30 : decode cX7_person 30 = .ok (.iload_n 2, 1) := by decide +kernel
theorem dX7_person_31 : decode cX7_person 31 = .ok (.invokevirtual 93, 3) := by decide +kernel
theorem dX7_person_34 : decode cX7_person 34 = .ok (.ifCond .lt 6, 3) := by decide +kernel
theorem dX7_person_37 : decode cX7_person 37 = .ok (.ldc 97, 2) := by decide +kernel
theorem dX7_person_39 : decode cX7_person 39 = .ok (.ireturn, 1) := by decide +kernel
theorem dX7_person_40 : decode cX7_person 40 = .ok (.aload_n 0, 1) := by decide +kernel
theorem dX7_person_41 : decode cX7_person 41 = .ok (.getfield 9, 3) := by decide +kernel
theorem dX7_person_44 : decode cX7_person 44 = .ok (.iconst 1, 1) := by decide +kernel
theorem dX7_person_45 : decode cX7_person 45 = .ok (.iaload, 1) := by decide +kernel
theorem dX7_person_46 : decode cX7_person 46 = .ok (.bipush 10, 2) := by decide +kernel
theorem dX7_person_48 : decode cX7_person 48 = .ok (.if_icmp .ne 8, 3) := by decide +kernel
theorem dX7_person_51 : decode cX7_person 51 = .ok (.ldc 98, 2) := by decide +kernel
theorem dX7_person_53 : decode cX7_person 53 = .ok (.goto 10, 3) := by decide +kernel
theorem dX7_person_56 : decode cX7_person 56 = .ok (.aload_n 0, 1) := by decide +kernel
theorem dX7_person_57 : decode cX7_person 57 = .ok (.iload_n 1, 1) := by decide +kernel
theorem dX7_person_58 : decode cX7_person 58 = .ok (.iload_n 2, 1) := by decide +kernel
theorem dX7_person_59 : decode cX7_person 59 = .ok (.iload_n 3, 1) := by decide +kernel
theorem dX7_person_60 : decode cX7_person 60 = .ok (.invokevirtual 99, 3) := by decide +kernel
theorem dX7_person_63 : decode cX7_person 63 = .ok (.ireturn, 1) := by decide +kernel
theorem dX7_loudOn_0 : decode cX7_loudOn 0 = .ok (.aload_n 0, 1) := by decide +kernel
theorem dX7_loudOn_1 : decode cX7_loudOn 1 = .ok (.getfield 9, 3) := by decide +kernel
theorem dX7_loudOn_4 : decode cX7_loudOn 4 = .ok (.bipush 9, 2) := by decide +kernel
theorem dX7_loudOn_6 : decode cX7_loudOn 6 = .ok (.aload_n 0, 1) := by decide +kernel
theorem dX7_loudOn_7 : decode cX7_loudOn 7 = .ok (.getfield 9, 3) := by decide +kernel
theorem dX7_loudOn_10 : decode cX7_loudOn 10 = .ok (.iconst 3, 1) := by decide +kernel
theorem dX7_loudOn_11 : decode cX7_loudOn 11 = .ok (.iaload, 1) := by decide +kernel
theorem dX7_loudOn_12 : decode cX7_loudOn 12 = .ok (.iload_n 1, 1) := by decide +kernel
theorem dX7_loudOn_13 : decode cX7_loudOn 13 = .ok (.iadd, 1) := by decide +kernel
theorem dX7_loudOn_14 : decode cX7_loudOn 14 = .ok (.aload_n 0, 1) := by decide +kernel
theorem dX7_loudOn_15 : decode cX7_loudOn 15 = .ok (.getfield 9, 3) := by decide +kernel
theorem dX7_loudOn_18 : decode cX7_loudOn 18 = .ok (.iconst 2, 1) := by decide +kernel
theorem dX7_loudOn_19 : decode cX7_loudOn 19 = .ok (.iaload, 1) := by decide +kernel
theorem dX7_loudOn_20 : decode cX7_loudOn 20 = .ok (.irem, 1) := by decide +kernel
theorem dX7_loudOn_21 : decode cX7_loudOn 21 = .ok (.iadd, 1) := by decide +kernel
theorem dX7_loudOn_22 : decode cX7_loudOn 22 = .ok (.iaload, 1) := by decide +kernel
theorem dX7_loudOn_23 : decode cX7_loudOn 23 = .ok (.ireturn, 1) := by decide +kernel
theorem dX7_growsBy_0 : decode cX7_growsBy 0 = .ok (.aload_n 0, 1) := by decide +kernel
theorem dX7_growsBy_1 : decode cX7_growsBy 1 = .ok (.iconst 0, 1) := by decide +kernel
theorem dX7_growsBy_2 : decode cX7_growsBy 2 = .ok (.invokevirtual 103, 3) := by decide +kernel
theorem dX7_growsBy_5 : decode cX7_growsBy 5 = .ok (.istore_n 2, 1) := by decide +kernel
theorem dX7_growsBy_6 : decode cX7_growsBy 6 = .ok (.aload_n 0, 1) := by decide +kernel
theorem dX7_growsBy_7 : decode cX7_growsBy 7 = .ok (.getfield 45, 3) := by decide +kernel
theorem dX7_growsBy_10 : decode cX7_growsBy 10 = .ok (.iconst 0, 1) := by decide +kernel
theorem dX7_growsBy_11 : decode cX7_growsBy 11 = .ok (.aload_n 0, 1) := by decide +kernel
theorem dX7_growsBy_12 : decode cX7_growsBy 12 = .ok (.iload_n 1, 1) := by decide +kernel
theorem dX7_growsBy_13 : decode cX7_growsBy 13 = .ok (.iconst 2, 1) := by decide +kernel
theorem dX7_growsBy_14 : decode cX7_growsBy 14 = .ok (.invokevirtual 80, 3) := by decide +kernel
theorem dX7_growsBy_17 : decode cX7_growsBy 17 = .ok (.iastore, 1) := by decide +kernel
theorem dX7_growsBy_18 : decode cX7_growsBy 18 = .ok (.aload_n 0, 1) := by decide +kernel
theorem dX7_growsBy_19 : decode cX7_growsBy 19 = .ok (.getfield 45, 3) := by decide +kernel
theorem dX7_growsBy_22 : decode cX7_growsBy 22 = .ok (.iconst 1, 1) := by decide +kernel
theorem dX7_growsBy_23 : decode cX7_growsBy 23 = .ok (.aload_n 0, 1) := by decide +kernel
theorem dX7_growsBy_24 : decode cX7_growsBy 24 = .ok (.getfield 9, 3) := by decide +kernel
theorem dX7_growsBy_27 : decode cX7_growsBy 27 = .ok (.bipush 6, 2) := by decide +kernel
theorem dX7_growsBy_29 : decode cX7_growsBy 29 = .ok (.iaload, 1) := by decide +kernel
theorem dX7_growsBy_30 : decode cX7_growsBy 30 = .ok (.iastore, 1) := by decide +kernel
theorem dX7_growsBy_31 : decode cX7_growsBy 31 = .ok (.aload_n 0, 1) := by decide +kernel
theorem dX7_growsBy_32 : decode cX7_growsBy 32 = .ok (.getfield 45, 3) := by decide +kernel
theorem dX7_growsBy_35 : decode cX7_growsBy 35 = .ok (.iconst 2, 1) := by decide +kernel
theorem dX7_growsBy_36 : decode cX7_growsBy 36 = .ok (.aload_n 0, 1) := by decide +kernel
theorem dX7_growsBy_37 : decode cX7_growsBy 37 = .ok (.iload_n 1, 1) := by decide +kernel
theorem dX7_growsBy_38 : decode cX7_growsBy 38 = .ok (.iconst 3, 1) := by decide +kernel
theorem dX7_growsBy_39 : decode cX7_growsBy 39 = .ok (.invokevirtual 80, 3) := by decide +kernel
theorem dX7_growsBy_42 : decode cX7_growsBy 42 = .ok (.iastore, 1) := by decide +kernel
theorem dX7_growsBy_43 : decode cX7_growsBy 43 = .ok (.iload_n 2, 1) := by decide +kernel
theorem dX7_growsBy_44 : decode cX7_growsBy 44 = .ok (.ifCond .ge 28, 3) := by decide +kernel
theorem dX7_growsBy_47 : decode cX7_growsBy 47 = .ok (.iconst 1, 1) := by decide +kernel
theorem dX7_growsBy_48 : decode cX7_growsBy 48 = .ok (.aload_n 0, 1) := by decide +kernel
theorem dX7_growsBy_49 : decode cX7_growsBy 49 = .ok (.iload_n 1, 1) := by decide +kernel
theorem dX7_growsBy_50 : decode cX7_growsBy 50 = .ok (.iconst 2, 1) := by decide +kernel
theorem dX7_growsBy_51 : decode cX7_growsBy 51 = .ok (.invokevirtual 80, 3) := by decide +kernel
theorem dX7_growsBy_54 : decode cX7_growsBy 54 = .ok (.bipush 20, 2) := by decide +kernel
theorem dX7_growsBy_56 : decode cX7_growsBy 56 = .ok (.idiv, 1) := by decide +kernel
theorem dX7_growsBy_57 : decode cX7_growsBy 57 = .ok (.iadd, 1) := by decide +kernel
theorem dX7_growsBy_58 : decode cX7_growsBy 58 = .ok (.aload_n 0, 1) := by decide +kernel
theorem dX7_growsBy_59 : decode cX7_growsBy 59 = .ok (.getfield 9, 3) := by decide +kernel
theorem dX7_growsBy_62 : decode cX7_growsBy 62 = .ok (.bipush 6, 2) := by decide +kernel
theorem dX7_growsBy_64 : decode cX7_growsBy 64 = .ok (.iaload, 1) := by decide +kernel
theorem dX7_growsBy_65 : decode cX7_growsBy 65 = .ok (.bipush 10, 2) := by decide +kernel
theorem dX7_growsBy_67 : decode cX7_growsBy 67 = .ok (.idiv, 1) := by decide +kernel
theorem dX7_growsBy_68 : decode cX7_growsBy 68 = .ok (.iadd, 1) := by decide +kernel
theorem dX7_growsBy_69 : decode cX7_growsBy 69 = .ok (.goto 8, 3) := by decide +kernel
theorem dX7_growsBy_72 : decode cX7_growsBy 72 = .ok (.aload_n 0, 1) := by decide +kernel
theorem dX7_growsBy_73 : decode cX7_growsBy 73 = .ok (.iload_n 2, 1) := by decide +kernel
theorem dX7_growsBy_74 : decode cX7_growsBy 74 = .ok (.invokevirtual 106, 3) := by decide +kernel
theorem dX7_growsBy_77 : decode cX7_growsBy 77 = .ok (.iconst 0, 1) := by decide +kernel
theorem dX7_growsBy_78 : decode cX7_growsBy 78 = .ok (.bipush 99, 2) := by decide +kernel
theorem dX7_growsBy_80 : decode cX7_growsBy 80 = .ok (.invokestatic 109, 3) := by decide +kernel
theorem dX7_growsBy_83 : decode cX7_growsBy 83 = .ok (.istore_n 3, 1) := by decide +kernel
theorem dX7_growsBy_84 : decode cX7_growsBy 84 = .ok (.aload_n 0, 1) := by decide +kernel
theorem dX7_growsBy_85 : decode cX7_growsBy 85 = .ok (.iload_n 1, 1) := by decide +kernel
theorem dX7_growsBy_86 : decode cX7_growsBy 86 = .ok (.iconst 4, 1) := by decide +kernel
theorem dX7_growsBy_87 : decode cX7_growsBy 87 = .ok (.invokevirtual 80, 3) := by decide +kernel
theorem dX7_growsBy_90 : decode cX7_growsBy 90 = .ok (.ifCond .le 7, 3) := by decide +kernel
theorem dX7_growsBy_93 : decode cX7_growsBy 93 = .ok (.iconst 0, 1) := by decide +kernel
theorem dX7_growsBy_94 : decode cX7_growsBy 94 = .ok (.goto 4, 3) := by decide +kernel
theorem dX7_growsBy_97 : decode cX7_growsBy 97 = .ok (.iload_n 3, 1) := by decide +kernel
theorem dX7_growsBy_98 : decode cX7_growsBy 98 = .ok (.ireturn, 1) := by decide +kernel
theorem dX7_isSetOff_0 : decode cX7_isSetOff 0 = .ok (.iconst 0, 1) := by decide +kernel
theorem dX7_isSetOff_1 : decode cX7_isSetOff 1 = .ok (.istore_n 2, 1) := by decide +kernel
theorem dX7_isSetOff_2 : decode cX7_isSetOff 2 = .ok (.iload_n 2, 1) := by decide +kernel
theorem dX7_isSetOff_3 : decode cX7_isSetOff 3 = .ok (.aload_n 0, 1) := by decide +kernel
theorem dX7_isSetOff_4 : decode cX7_isSetOff 4 = .ok (.getfield 9, 3) := by decide +kernel
theorem dX7_isSetOff_7 : decode cX7_isSetOff 7 = .ok (.iconst 1, 1) := by decide +kernel
theorem dX7_isSetOff_8 : decode cX7_isSetOff 8 = .ok (.iaload, 1) := by decide +kernel
theorem dX7_isSetOff_9 : decode cX7_isSetOff 9 = .ok (.if_icmp .ge 64, 3) := by decide +kernel
theorem dX7_isSetOff_12 : decode cX7_isSetOff 12 = .ok (.iload_n 2, 1) := by decide +kernel
theorem dX7_isSetOff_13 : decode cX7_isSetOff 13 = .ok (.iload_n 1, 1) := by decide +kernel
theorem dX7_isSetOff_14 : decode cX7_isSetOff 14 = .ok (.if_icmp .eq 53, 3) := by decide +kernel
theorem dX7_isSetOff_17 : decode cX7_isSetOff 17 = .ok (.aload_n 0, 1) := by decide +kernel
theorem dX7_isSetOff_18 : decode cX7_isSetOff 18 = .ok (.getfield 9, 3) := by decide +kernel
theorem dX7_isSetOff_21 : decode cX7_isSetOff 21 = .ok (.iconst 5, 1) := by decide +kernel
theorem dX7_isSetOff_22 : decode cX7_isSetOff 22 = .ok (.iaload, 1) := by decide +kernel
theorem dX7_isSetOff_23 : decode cX7_isSetOff 23 = .ok (.iload_n 2, 1) := by decide +kernel
theorem dX7_isSetOff_24 : decode cX7_isSetOff 24 = .ok (.ishr, 1) := by decide +kernel
theorem dX7_isSetOff_25 : decode cX7_isSetOff 25 = .ok (.iconst 1, 1) := by decide +kernel
theorem dX7_isSetOff_26 : decode cX7_isSetOff 26 = .ok (.iand, 1) := by decide +kernel
theorem dX7_isSetOff_27 : decode cX7_isSetOff 27 = .ok (.iconst 1, 1) := by decide +kernel
theorem dX7_isSetOff_28 : decode cX7_isSetOff 28 = .ok (.if_icmp .ne 39, 3) := by decide +kernel
theorem dX7_isSetOff_31 : decode cX7_isSetOff 31 = .ok (.aload_n 0, 1) := by decide +kernel
theorem dX7_isSetOff_32 : decode cX7_isSetOff 32 = .ok (.iload_n 2, 1) := by decide +kernel
theorem dX7_isSetOff_33 : decode cX7_isSetOff 33 = .ok (.iconst 1, 1) := by decide +kernel
theorem dX7_isSetOff_34 : decode cX7_isSetOff 34 = .ok (.invokevirtual 80, 3) := by decide +kernel
theorem dX7_isSetOff_37 : decode cX7_isSetOff 37 = .ok (.aload_n 0, 1) := by decide +kernel
theorem dX7_isSetOff_38 : decode cX7_isSetOff 38 = .ok (.iload_n 1, 1) := by decide +kernel
theorem dX7_isSetOff_39 : decode cX7_isSetOff 39 = .ok (.iconst 1, 1) := by decide +kernel
theorem dX7_isSetOff_40 : decode cX7_isSetOff 40 = .ok (.invokevirtual 80, 3) := by decide +kernel
theorem dX7_isSetOff_43 : decode cX7_isSetOff 43 = .ok (.isub, 1) := by decide +kernel
theorem dX7_isSetOff_44 : decode cX7_isSetOff 44 = .ok (.aload_n 0, 1) := by decide +kernel
theorem dX7_isSetOff_45 : decode cX7_isSetOff 45 = .ok (.getfield 9, 3) := by decide +kernel
theorem dX7_isSetOff_48 : decode cX7_isSetOff 48 = .ok (.bipush 7, 2) := by decide +kernel
theorem dX7_isSetOff_50 : decode cX7_isSetOff 50 = .ok (.iaload, 1) := by decide +kernel
theorem dX7_isSetOff_51 : decode cX7_isSetOff 51 = .ok (.ineg, 1) := by decide +kernel
theorem dX7_isSetOff_52 : decode cX7_isSetOff 52 = .ok (.aload_n 0, 1) := by decide +kernel
theorem dX7_isSetOff_53 : decode cX7_isSetOff 53 = .ok (.getfield 9, 3) := by decide +kernel
theorem dX7_isSetOff_56 : decode cX7_isSetOff 56 = .ok (.bipush 7, 2) := by decide +kernel
theorem dX7_isSetOff_58 : decode cX7_isSetOff 58 = .ok (.iaload, 1) := by decide +kernel
theorem dX7_isSetOff_59 : decode cX7_isSetOff 59 = .ok (.invokestatic 76, 3) := by decide +kernel
theorem dX7_isSetOff_62 : decode cX7_isSetOff 62 = .ok (.ifCond .eq 5, 3) := by decide +kernel
theorem dX7_isSetOff_65 : decode cX7_isSetOff 65 = .ok (.iconst 1, 1) := by decide +kernel
theorem dX7_isSetOff_66 : decode cX7_isSetOff 66 = .ok (.ireturn, 1) := by decide +kernel
theorem dX7_isSetOff_67 : decode cX7_isSetOff 67 = .ok (.iinc 2 1, 3) := by decide +kernel
theorem dX7_isSetOff_70 : decode cX7_isSetOff 70 = .ok (.goto (-68), 3) := by decide +kernel
theorem dX7_isSetOff_73 : decode cX7_isSetOff 73 = .ok (.iconst 0, 1) := by decide +kernel
theorem dX7_isSetOff_74 : decode cX7_isSetOff 74 = .ok (.ireturn, 1) := by decide +kernel
theorem dX7_letsGo_0 : decode cX7_letsGo 0 = .ok (.aload_n 0, 1) := by decide +kernel
theorem dX7_letsGo_1 : decode cX7_letsGo 1 = .ok (.iload_n 1, 1) := by decide +kernel
theorem dX7_letsGo_2 : decode cX7_letsGo 2 = .ok (.iconst 3, 1) := by decide +kernel
theorem dX7_letsGo_3 : decode cX7_letsGo 3 = .ok (.invokevirtual 80, 3) := by decide +kernel
theorem dX7_letsGo_6 : decode cX7_letsGo 6 = .ok (.istore_n 2, 1) := by decide +kernel
theorem dX7_letsGo_7 : decode cX7_letsGo 7 = .ok (.aload_n 0, 1) := by decide +kernel
theorem dX7_letsGo_8 : decode cX7_letsGo 8 = .ok (.iconst 0, 1) := by decide +kernel
theorem dX7_letsGo_9 : decode cX7_letsGo 9 = .ok (.invokevirtual 112, 3) := by decide +kernel
theorem dX7_letsGo_12 : decode cX7_letsGo 12 = .ok (.istore_n 3, 1) := by decide +kernel
theorem dX7_letsGo_13 : decode cX7_letsGo 13 = .ok (.iload_n 2, 1) := by decide +kernel
theorem dX7_letsGo_14 : decode cX7_letsGo 14 = .ok (.sipush 200, 3) := by decide +kernel
theorem dX7_letsGo_17 : decode cX7_letsGo 17 = .ok (.if_icmp .ge 13, 3) := by decide +kernel
theorem dX7_letsGo_20 : decode cX7_letsGo 20 = .ok (.iload_n 2, 1) := by decide +kernel
theorem dX7_letsGo_21 : decode cX7_letsGo 21 = .ok (.bipush 100, 2) := by decide +kernel
theorem dX7_letsGo_23 : decode cX7_letsGo 23 = .ok (.if_icmp .lt 11, 3) := by decide +kernel
theorem dX7_letsGo_26 : decode cX7_letsGo 26 = .ok (.iload_n 3, 1) := by decide +kernel
theorem dX7_letsGo_27 : decode cX7_letsGo 27 = .ok (.ifCond .ne 7, 3) := by decide +kernel
theorem dX7_letsGo_30 : decode cX7_letsGo 30 = .ok (.iconst 1, 1) := by decide +kernel
theorem dX7_letsGo_31 : decode cX7_letsGo 31 = .ok (.goto 4, 3) := by decide +kernel
theorem dX7_letsGo_34 : decode cX7_letsGo 34 = .ok (.iconst 0, 1) := by decide +kernel
theorem dX7_letsGo_35 : decode cX7_letsGo 35 = .ok (.istore 4, 2) := by decide +kernel
theorem dX7_letsGo_37 : decode cX7_letsGo 37 = .ok (.iload_n 2, 1) := by decide +kernel
theorem dX7_letsGo_38 : decode cX7_letsGo 38 = .ok (.sipush 200, 3) := by decide +kernel
theorem dX7_letsGo_41 : decode cX7_letsGo 41 = .ok (.if_icmp .ge 15, 3) := by decide +kernel
theorem dX7_letsGo_44 : decode cX7_letsGo 44 = .ok (.iload_n 2, 1) := by decide +kernel
theorem dX7_letsGo_45 : decode cX7_letsGo 45 = .ok (.bipush 100, 2) := by decide +kernel
theorem dX7_letsGo_47 : decode cX7_letsGo 47 = .ok (.if_icmp .lt 13, 3) := by decide +kernel
theorem dX7_letsGo_50 : decode cX7_letsGo 50 = .ok (.iload_n 3, 1) := by decide +kernel
theorem dX7_letsGo_51 : decode cX7_letsGo 51 = .ok (.bipush 50, 2) := by decide +kernel
theorem dX7_letsGo_53 : decode cX7_letsGo 53 = .ok (.if_icmp .lt 7, 3) := by decide +kernel
theorem dX7_letsGo_56 : decode cX7_letsGo 56 = .ok (.iconst 1, 1) := by decide +kernel
theorem dX7_letsGo_57 : decode cX7_letsGo 57 = .ok (.goto 4, 3) := by decide +kernel
theorem dX7_letsGo_60 : decode cX7_letsGo 60 = .ok (.iconst 0, 1) := by decide +kernel
theorem dX7_letsGo_61 : decode cX7_letsGo 61 = .ok (.istore 5, 2) := by decide +kernel
theorem dX7_letsGo_63 : decode cX7_letsGo 63 = .ok (.aload_n 0, 1) := by decide +kernel
theorem dX7_letsGo_64 : decode cX7_letsGo 64 = .ok (.iload_n 1, 1) := by decide +kernel
theorem dX7_letsGo_65 : decode cX7_letsGo 65 = .ok (.iconst 0, 1) := by decide +kernel
theorem dX7_letsGo_66 : decode cX7_letsGo 66 = .ok (.invokevirtual 80, 3) := by decide +kernel
theorem dX7_letsGo_69 : decode cX7_letsGo 69 = .ok (.tableswitch 126 1 5 #[35, 38, 41, 66, 102], 35) := by decide +kernel
theorem dX7_letsGo_104 : decode cX7_letsGo 104 = .ok (.iload 4, 2) := by decide +kernel
theorem dX7_letsGo_106 : decode cX7_letsGo 106 = .ok (.ireturn, 1) := by decide +kernel
theorem dX7_letsGo_107 : decode cX7_letsGo 107 = .ok (.iload 5, 2) := by decide +kernel
theorem dX7_letsGo_109 : decode cX7_letsGo 109 = .ok (.ireturn, 1) := by decide +kernel
theorem dX7_letsGo_110 : decode cX7_letsGo 110 = .ok (.iload 4, 2) := by decide +kernel
theorem dX7_letsGo_112 : decode cX7_letsGo 112 = .ok (.ifCond .ne 17, 3) := by decide +kernel
theorem dX7_letsGo_115 : decode cX7_letsGo 115 = .ok (.iload_n 2, 1) := by decide +kernel
theorem dX7_letsGo_116 : decode cX7_letsGo 116 = .ok (.bipush 50, 2) := by decide +kernel
theorem dX7_letsGo_118 : decode cX7_letsGo 118 = .ok (.if_icmp .lt 15, 3) := by decide +kernel
theorem dX7_letsGo_121 : decode cX7_letsGo 121 = .ok (.aload_n 0, 1) := by decide +kernel
theorem dX7_letsGo_122 : decode cX7_letsGo 122 = .ok (.iload_n 1, 1) := by decide +kernel
theorem dX7_letsGo_123 : decode cX7_letsGo 123 = .ok (.invokevirtual 115, 3) := by decide +kernel
theorem dX7_letsGo_126 : decode cX7_letsGo 126 = .ok (.ifCond .eq 7, 3) := by decide +kernel
theorem dX7_letsGo_129 : decode cX7_letsGo 129 = .ok (.iconst 1, 1) := by decide +kernel
theorem dX7_letsGo_130 : decode cX7_letsGo 130 = .ok (.goto 4, 3) := by decide +kernel
theorem dX7_letsGo_133 : decode cX7_letsGo 133 = .ok (.iconst 0, 1) := by decide +kernel
theorem dX7_letsGo_134 : decode cX7_letsGo 134 = .ok (.ireturn, 1) := by decide +kernel
theorem dX7_letsGo_135 : decode cX7_letsGo 135 = .ok (.iload 5, 2) := by decide +kernel
theorem dX7_letsGo_137 : decode cX7_letsGo 137 = .ok (.ifCond .ne 28, 3) := by decide +kernel
theorem dX7_letsGo_140 : decode cX7_letsGo 140 = .ok (.aload_n 0, 1) := by decide +kernel
theorem dX7_letsGo_141 : decode cX7_letsGo 141 = .ok (.getfield 9, 3) := by decide +kernel
theorem dX7_letsGo_144 : decode cX7_letsGo 144 = .ok (.iconst 3, 1) := by decide +kernel
theorem dX7_letsGo_145 : decode cX7_letsGo 145 = .ok (.iaload, 1) := by decide +kernel
theorem dX7_letsGo_146 : decode cX7_letsGo 146 = .ok (.bipush 60, 2) := by decide +kernel
theorem dX7_letsGo_148 : decode cX7_letsGo 148 = .ok (.irem, 1) := by decide +kernel
theorem dX7_letsGo_149 : decode cX7_letsGo 149 = .ok (.aload_n 0, 1) := by decide +kernel
theorem dX7_letsGo_150 : decode cX7_letsGo 150 = .ok (.iload_n 1, 1) := by decide +kernel
theorem dX7_letsGo_151 : decode cX7_letsGo 151 = .ok (.iconst 2, 1) := by decide +kernel
theorem dX7_letsGo_152 : decode cX7_letsGo 152 = .ok (.invokevirtual 80, 3) := by decide +kernel
theorem dX7_letsGo_155 : decode cX7_letsGo 155 = .ok (.bipush 60, 2) := by decide +kernel
theorem dX7_letsGo_157 : decode cX7_letsGo 157 = .ok (.irem, 1) := by decide +kernel
theorem dX7_letsGo_158 : decode cX7_letsGo 158 = .ok (.if_icmp .ne 11, 3) := by decide +kernel
theorem dX7_letsGo_161 : decode cX7_letsGo 161 = .ok (.iload_n 2, 1) := by decide +kernel
theorem dX7_letsGo_162 : decode cX7_letsGo 162 = .ok (.ifCond .le 7, 3) := by decide +kernel
theorem dX7_letsGo_165 : decode cX7_letsGo 165 = .ok (.iconst 1, 1) := by decide +kernel
theorem dX7_letsGo_166 : decode cX7_letsGo 166 = .ok (.goto 4, 3) := by decide +kernel
theorem dX7_letsGo_169 : decode cX7_letsGo 169 = .ok (.iconst 0, 1) := by decide +kernel
theorem dX7_letsGo_170 : decode cX7_letsGo 170 = .ok (.ireturn, 1) := by decide +kernel
theorem dX7_letsGo_171 : decode cX7_letsGo 171 = .ok (.aload_n 0, 1) := by decide +kernel
theorem dX7_letsGo_172 : decode cX7_letsGo 172 = .ok (.getfield 9, 3) := by decide +kernel
theorem dX7_letsGo_175 : decode cX7_letsGo 175 = .ok (.iconst 3, 1) := by decide +kernel
theorem dX7_letsGo_176 : decode cX7_letsGo 176 = .ok (.iaload, 1) := by decide +kernel
theorem dX7_letsGo_177 : decode cX7_letsGo 177 = .ok (.bipush 30, 2) := by decide +kernel
theorem dX7_letsGo_179 : decode cX7_letsGo 179 = .ok (.irem, 1) := by decide +kernel
theorem dX7_letsGo_180 : decode cX7_letsGo 180 = .ok (.aload_n 0, 1) := by decide +kernel
theorem dX7_letsGo_181 : decode cX7_letsGo 181 = .ok (.iload_n 1, 1) := by decide +kernel
theorem dX7_letsGo_182 : decode cX7_letsGo 182 = .ok (.iconst 1, 1) := by decide +kernel
theorem dX7_letsGo_183 : decode cX7_letsGo 183 = .ok (.invokevirtual 80, 3) := by decide +kernel
theorem dX7_letsGo_186 : decode cX7_letsGo 186 = .ok (.if_icmp .ne 7, 3) := by decide +kernel
theorem dX7_letsGo_189 : decode cX7_letsGo 189 = .ok (.iconst 1, 1) := by decide +kernel
theorem dX7_letsGo_190 : decode cX7_letsGo 190 = .ok (.goto 4, 3) := by decide +kernel
theorem dX7_letsGo_193 : decode cX7_letsGo 193 = .ok (.iconst 0, 1) := by decide +kernel
theorem dX7_letsGo_194 : decode cX7_letsGo 194 = .ok (.ireturn, 1) := by decide +kernel
theorem dX7_letsGo_195 : decode cX7_letsGo 195 = .ok (.iload_n 2, 1) := by decide +kernel
theorem dX7_letsGo_196 : decode cX7_letsGo 196 = .ok (.bipush 100, 2) := by decide +kernel
theorem dX7_letsGo_198 : decode cX7_letsGo 198 = .ok (.if_icmp .lt 7, 3) := by decide +kernel
theorem dX7_letsGo_201 : decode cX7_letsGo 201 = .ok (.iconst 1, 1) := by decide +kernel
theorem dX7_letsGo_202 : decode cX7_letsGo 202 = .ok (.goto 4, 3) := by decide +kernel
theorem dX7_letsGo_205 : decode cX7_letsGo 205 = .ok (.iconst 0, 1) := by decide +kernel
theorem dX7_letsGo_206 : decode cX7_letsGo 206 = .ok (.ireturn, 1) := by decide +kernel
theorem dX7_worthOf_0 : decode cX7_worthOf 0 = .ok (.aload_n 0, 1) := by decide +kernel
theorem dX7_worthOf_1 : decode cX7_worthOf 1 = .ok (.iload_n 1, 1) := by decide +kernel
theorem dX7_worthOf_2 : decode cX7_worthOf 2 = .ok (.iconst 2, 1) := by decide +kernel
theorem dX7_worthOf_3 : decode cX7_worthOf 3 = .ok (.invokevirtual 80, 3) := by decide +kernel
theorem dX7_worthOf_6 : decode cX7_worthOf 6 = .ok (.istore_n 2, 1) := by decide +kernel
theorem dX7_worthOf_7 : decode cX7_worthOf 7 = .ok (.aload_n 0, 1) := by decide +kernel
theorem dX7_worthOf_8 : decode cX7_worthOf 8 = .ok (.iload_n 1, 1) := by decide +kernel
theorem dX7_worthOf_9 : decode cX7_worthOf 9 = .ok (.iconst 0, 1) := by decide +kernel
theorem dX7_worthOf_10 : decode cX7_worthOf 10 = .ok (.invokevirtual 80, 3) := by decide +kernel
theorem dX7_worthOf_13 : decode cX7_worthOf 13 = .ok (.tableswitch 62 1 5 #[35, 39, 44, 50, 55], 35) := by decide +kernel
theorem dX7_worthOf_48 : decode cX7_worthOf 48 = .ok (.iload_n 2, 1) := by decide +kernel
theorem dX7_worthOf_49 : decode cX7_worthOf 49 = .ok (.iconst 4, 1) := by decide +kernel
theorem dX7_worthOf_50 : decode cX7_worthOf 50 = .ok (.iadd, 1) := by decide +kernel
theorem dX7_worthOf_51 : decode cX7_worthOf 51 = .ok (.ireturn, 1) := by decide +kernel
theorem dX7_worthOf_52 : decode cX7_worthOf 52 = .ok (.bipush 100, 2) := by decide +kernel
theorem dX7_worthOf_54 : decode cX7_worthOf 54 = .ok (.iload_n 2, 1) := by decide +kernel
theorem dX7_worthOf_55 : decode cX7_worthOf 55 = .ok (.isub, 1) := by decide +kernel
theorem dX7_worthOf_56 : decode cX7_worthOf 56 = .ok (.ireturn, 1) := by decide +kernel
theorem dX7_worthOf_57 : decode cX7_worthOf 57 = .ok (.iconst 2, 1) := by decide +kernel
theorem dX7_worthOf_58 : decode cX7_worthOf 58 = .ok (.iload_n 2, 1) := by decide +kernel
theorem dX7_worthOf_59 : decode cX7_worthOf 59 = .ok (.iconst 4, 1) := by decide +kernel
theorem dX7_worthOf_60 : decode cX7_worthOf 60 = .ok (.iadd, 1) := by decide +kernel
theorem dX7_worthOf_61 : decode cX7_worthOf 61 = .ok (.imul, 1) := by decide +kernel
theorem dX7_worthOf_62 : decode cX7_worthOf 62 = .ok (.ireturn, 1) := by decide +kernel
theorem dX7_worthOf_63 : decode cX7_worthOf 63 = .ok (.bipush 94, 2) := by decide +kernel
theorem dX7_worthOf_65 : decode cX7_worthOf 65 = .ok (.iload_n 2, 1) := by decide +kernel
theorem dX7_worthOf_66 : decode cX7_worthOf 66 = .ok (.isub, 1) := by decide +kernel
theorem dX7_worthOf_67 : decode cX7_worthOf 67 = .ok (.ireturn, 1) := by decide +kernel
theorem dX7_worthOf_68 : decode cX7_worthOf 68 = .ok (.aload_n 0, 1) := by decide +kernel
theorem dX7_worthOf_69 : decode cX7_worthOf 69 = .ok (.iload_n 1, 1) := by decide +kernel
theorem dX7_worthOf_70 : decode cX7_worthOf 70 = .ok (.iconst 1, 1) := by decide +kernel
theorem dX7_worthOf_71 : decode cX7_worthOf 71 = .ok (.invokevirtual 80, 3) := by decide +kernel
theorem dX7_worthOf_74 : decode cX7_worthOf 74 = .ok (.ireturn, 1) := by decide +kernel
theorem dX7_worthOf_75 : decode cX7_worthOf 75 = .ok (.iload_n 2, 1) := by decide +kernel
theorem dX7_worthOf_76 : decode cX7_worthOf 76 = .ok (.ireturn, 1) := by decide +kernel
theorem dX7_told_0 : decode cX7_told 0 = .ok (.aload_n 0, 1) := by decide +kernel
theorem dX7_told_1 : decode cX7_told 1 = .ok (.iload_n 1, 1) := by decide +kernel
theorem dX7_told_2 : decode cX7_told 2 = .ok (.invokevirtual 118, 3) := by decide +kernel
theorem dX7_told_5 : decode cX7_told 5 = .ok (.ifCond .eq 13, 3) := by decide +kernel
theorem dX7_told_8 : decode cX7_told 8 = .ok (.iload_n 2, 1) := by decide +kernel
theorem dX7_told_9 : decode cX7_told 9 = .ok (.iconst 0, 1) := by decide +kernel
theorem dX7_told_10 : decode cX7_told 10 = .ok (.bipush 8, 2) := by decide +kernel
theorem dX7_told_12 : decode cX7_told 12 = .ok (.invokestatic 76, 3) := by decide +kernel
theorem dX7_told_15 : decode cX7_told 15 = .ok (.ifCond .ne 6, 3) := by decide +kernel
theorem dX7_told_18 : decode cX7_told 18 = .ok (.ldc 92, 2) := by decide +kernel
theorem dX7_told_20 : decode cX7_told 20 = .ok (.ireturn, 1) := by decide +kernel
theorem dX7_told_21 : decode cX7_told 21 = .ok (.iload_n 2, 1) := by decide +kernel
theorem dX7_told_22 : decode cX7_told 22 = .ok (.tableswitch 52 6 8 #[26, 32, 46], 26) := by decide +kernel
theorem dX7_told_48 : decode cX7_told 48 = .ok (.aload_n 0, 1) := by decide +kernel
theorem dX7_told_49 : decode cX7_told 49 = .ok (.iload_n 1, 1) := by decide +kernel
theorem dX7_told_50 : decode cX7_told 50 = .ok (.invokevirtual 121, 3) := by decide +kernel
theorem dX7_told_53 : decode cX7_told 53 = .ok (.ireturn, 1) := by decide +kernel
theorem dX7_told_54 : decode cX7_told 54 = .ok (.aload_n 0, 1) := by decide +kernel
theorem dX7_told_55 : decode cX7_told 55 = .ok (.iload_n 1, 1) := by decide +kernel
theorem dX7_told_56 : decode cX7_told 56 = .ok (.invokevirtual 124, 3) := by decide +kernel
theorem dX7_told_59 : decode cX7_told 59 = .ok (.ifCond .eq 7, 3) := by decide +kernel
theorem dX7_told_62 : decode cX7_told 62 = .ok (.iconst 1, 1) := by decide +kernel
theorem dX7_told_63 : decode cX7_told 63 = .ok (.goto 4, 3) := by decide +kernel
theorem dX7_told_66 : decode cX7_told 66 = .ok (.iconst 0, 1) := by decide +kernel
theorem dX7_told_67 : decode cX7_told 67 = .ok (.ireturn, 1) := by decide +kernel
theorem dX7_told_68 : decode cX7_told 68 = .ok (.aload_n 0, 1) := by decide +kernel
theorem dX7_told_69 : decode cX7_told 69 = .ok (.iload_n 1, 1) := by decide +kernel
theorem dX7_told_70 : decode cX7_told 70 = .ok (.invokevirtual 127, 3) := by decide +kernel
theorem dX7_told_73 : decode cX7_told 73 = .ok (.ireturn, 1) := by decide +kernel
theorem dX7_told_74 : decode cX7_told 74 = .ok (.aload_n 0, 1) := by decide +kernel
theorem dX7_told_75 : decode cX7_told 75 = .ok (.iload_n 1, 1) := by decide +kernel
theorem dX7_told_76 : decode cX7_told 76 = .ok (.iload_n 2, 1) := by decide +kernel
theorem dX7_told_77 : decode cX7_told 77 = .ok (.invokevirtual 80, 3) := by decide +kernel
theorem dX7_told_80 : decode cX7_told 80 = .ok (.ireturn, 1) := by decide +kernel
theorem dX7_isUnder_0 : decode cX7_isUnder 0 = .ok (.iload_n 1, 1) := by decide +kernel
theorem dX7_isUnder_1 : decode cX7_isUnder 1 = .ok (.ifCond .eq 28, 3) := by decide +kernel
theorem dX7_isUnder_4 : decode cX7_isUnder 4 = .ok (.iload_n 0, 1) := by decide +kernel
theorem dX7_isUnder_5 : decode cX7_isUnder 5 = .ok (.iload_n 1, 1) := by decide +kernel
theorem dX7_isUnder_6 : decode cX7_isUnder 6 = .ok (.if_icmp .eq 23, 3) := by decide +kernel
theorem dX7_isUnder_9 : decode cX7_isUnder 9 = .ok (.iload_n 1, 1) := by decide +kernel
theorem dX7_isUnder_10 : decode cX7_isUnder 10 = .ok (.iconst 1, 1) := by decide +kernel
theorem dX7_isUnder_11 : decode cX7_isUnder 11 = .ok (.if_icmp .ne 8, 3) := by decide +kernel
theorem dX7_isUnder_14 : decode cX7_isUnder 14 = .ok (.iload_n 0, 1) := by decide +kernel
theorem dX7_isUnder_15 : decode cX7_isUnder 15 = .ok (.iconst 3, 1) := by decide +kernel
theorem dX7_isUnder_16 : decode cX7_isUnder 16 = .ok (.if_icmp .eq 13, 3) := by decide +kernel
theorem dX7_isUnder_19 : decode cX7_isUnder 19 = .ok (.iload_n 1, 1) := by decide +kernel
theorem dX7_isUnder_20 : decode cX7_isUnder 20 = .ok (.iconst 2, 1) := by decide +kernel
theorem dX7_isUnder_21 : decode cX7_isUnder 21 = .ok (.if_icmp .ne 12, 3) := by decide +kernel
theorem dX7_isUnder_24 : decode cX7_isUnder 24 = .ok (.iload_n 0, 1) := by decide +kernel
theorem dX7_isUnder_25 : decode cX7_isUnder 25 = .ok (.iconst 4, 1) := by decide +kernel
theorem dX7_isUnder_26 : decode cX7_isUnder 26 = .ok (.if_icmp .ne 7, 3) := by decide +kernel
theorem dX7_isUnder_29 : decode cX7_isUnder 29 = .ok (.iconst 1, 1) := by decide +kernel
theorem dX7_isUnder_30 : decode cX7_isUnder 30 = .ok (.goto 4, 3) := by decide +kernel
theorem dX7_isUnder_33 : decode cX7_isUnder 33 = .ok (.iconst 0, 1) := by decide +kernel
theorem dX7_isUnder_34 : decode cX7_isUnder 34 = .ok (.ireturn, 1) := by decide +kernel
theorem dX7_as_0 : decode cX7_as 0 = .ok (.aload_n 0, 1) := by decide +kernel
theorem dX7_as_1 : decode cX7_as 1 = .ok (.iload_n 1, 1) := by decide +kernel
theorem dX7_as_2 : decode cX7_as 2 = .ok (.invokevirtual 118, 3) := by decide +kernel
theorem dX7_as_5 : decode cX7_as 5 = .ok (.ifCond .eq 12, 3) := by decide +kernel
theorem dX7_as_8 : decode cX7_as 8 = .ok (.iload_n 2, 1) := by decide +kernel
theorem dX7_as_9 : decode cX7_as 9 = .ok (.iconst 0, 1) := by decide +kernel
theorem dX7_as_10 : decode cX7_as 10 = .ok (.iconst 5, 1) := by decide +kernel
theorem dX7_as_11 : decode cX7_as 11 = .ok (.invokestatic 76, 3) := by decide +kernel
theorem dX7_as_14 : decode cX7_as 14 = .ok (.ifCond .ne 6, 3) := by decide +kernel
theorem dX7_as_17 : decode cX7_as 17 = .ok (.ldc 92, 2) := by decide +kernel
theorem dX7_as_19 : decode cX7_as 19 = .ok (.ireturn, 1) := by decide +kernel
theorem dX7_as_20 : decode cX7_as 20 = .ok (.aload_n 0, 1) := by decide +kernel
theorem dX7_as_21 : decode cX7_as 21 = .ok (.iload_n 1, 1) := by decide +kernel
theorem dX7_as_22 : decode cX7_as 22 = .ok (.iconst 0, 1) := by decide +kernel
theorem dX7_as_23 : decode cX7_as 23 = .ok (.invokevirtual 80, 3) := by decide +kernel
theorem dX7_as_26 : decode cX7_as 26 = .ok (.iload_n 2, 1) := by decide +kernel
theorem dX7_as_27 : decode cX7_as 27 = .ok (.invokestatic 130, 3) := by decide +kernel
theorem dX7_as_30 : decode cX7_as 30 = .ok (.ifCond .eq 12, 3) := by decide +kernel
theorem dX7_as_33 : decode cX7_as 33 = .ok (.aload_n 0, 1) := by decide +kernel
theorem dX7_as_34 : decode cX7_as 34 = .ok (.iload_n 1, 1) := by decide +kernel
theorem dX7_as_35 : decode cX7_as 35 = .ok (.iconst 2, 1) := by decide +kernel
theorem dX7_as_36 : decode cX7_as 36 = .ok (.invokevirtual 80, 3) := by decide +kernel
theorem dX7_as_39 : decode cX7_as 39 = .ok (.goto 5, 3) := by decide +kernel
theorem dX7_as_42 : decode cX7_as 42 = .ok (.ldc 134, 2) := by decide +kernel
theorem dX7_as_44 : decode cX7_as 44 = .ok (.ireturn, 1) := by decide +kernel
theorem dX7_turns_0 : decode cX7_turns 0 = .ok (.aload_n 0, 1) := by decide +kernel
theorem dX7_turns_1 : decode cX7_turns 1 = .ok (.iload_n 1, 1) := by decide +kernel
theorem dX7_turns_2 : decode cX7_turns 2 = .ok (.invokevirtual 118, 3) := by decide +kernel
theorem dX7_turns_5 : decode cX7_turns 5 = .ok (.ifCond .eq 27, 3) := by decide +kernel
theorem dX7_turns_8 : decode cX7_turns 8 = .ok (.iload_n 2, 1) := by decide +kernel
theorem dX7_turns_9 : decode cX7_turns 9 = .ok (.iconst 0, 1) := by decide +kernel
theorem dX7_turns_10 : decode cX7_turns 10 = .ok (.iconst 5, 1) := by decide +kernel
theorem dX7_turns_11 : decode cX7_turns 11 = .ok (.invokestatic 76, 3) := by decide +kernel
theorem dX7_turns_14 : decode cX7_turns 14 = .ok (.ifCond .eq 18, 3) := by decide +kernel
theorem dX7_turns_17 : decode cX7_turns 17 = .ok (.aload_n 0, 1) := by decide +kernel
theorem dX7_turns_18 : decode cX7_turns 18 = .ok (.bipush 33, 2) := by decide +kernel
theorem dX7_turns_20 : decode cX7_turns 20 = .ok (.bipush 6, 2) := by decide +kernel
theorem dX7_turns_22 : decode cX7_turns 22 = .ok (.iload_n 1, 1) := by decide +kernel
theorem dX7_turns_23 : decode cX7_turns 23 = .ok (.imul, 1) := by decide +kernel
theorem dX7_turns_24 : decode cX7_turns 24 = .ok (.iadd, 1) := by decide +kernel
theorem dX7_turns_25 : decode cX7_turns 25 = .ok (.iload_n 2, 1) := by decide +kernel
theorem dX7_turns_26 : decode cX7_turns 26 = .ok (.invokevirtual 135, 3) := by decide +kernel
theorem dX7_turns_29 : decode cX7_turns 29 = .ok (.goto 5, 3) := by decide +kernel
theorem dX7_turns_32 : decode cX7_turns 32 = .ok (.ldc 92, 2) := by decide +kernel
theorem dX7_turns_34 : decode cX7_turns 34 = .ok (.ireturn, 1) := by decide +kernel
theorem dX7_set_0 : decode cX7_set 0 = .ok (.aload_n 0, 1) := by decide +kernel
theorem dX7_set_1 : decode cX7_set 1 = .ok (.iload_n 1, 1) := by decide +kernel
theorem dX7_set_2 : decode cX7_set 2 = .ok (.invokevirtual 118, 3) := by decide +kernel
theorem dX7_set_5 : decode cX7_set 5 = .ok (.ifCond .eq 50, 3) := by decide +kernel
theorem dX7_set_8 : decode cX7_set 8 = .ok (.iload_n 2, 1) := by decide +kernel
theorem dX7_set_9 : decode cX7_set 9 = .ok (.iconst 2, 1) := by decide +kernel
theorem dX7_set_10 : decode cX7_set 10 = .ok (.iconst 4, 1) := by decide +kernel
theorem dX7_set_11 : decode cX7_set 11 = .ok (.invokestatic 76, 3) := by decide +kernel
theorem dX7_set_14 : decode cX7_set 14 = .ok (.ifCond .eq 41, 3) := by decide +kernel
theorem dX7_set_17 : decode cX7_set 17 = .ok (.iload_n 3, 1) := by decide +kernel
theorem dX7_set_18 : decode cX7_set 18 = .ok (.iconst 0, 1) := by decide +kernel
theorem dX7_set_19 : decode cX7_set 19 = .ok (.iload_n 2, 1) := by decide +kernel
theorem dX7_set_20 : decode cX7_set 20 = .ok (.iconst 3, 1) := by decide +kernel
theorem dX7_set_21 : decode cX7_set 21 = .ok (.if_icmp .ne 9, 3) := by decide +kernel
theorem dX7_set_24 : decode cX7_set 24 = .ok (.sipush 999, 3) := by decide +kernel
theorem dX7_set_27 : decode cX7_set 27 = .ok (.goto 5, 3) := by decide +kernel
theorem dX7_set_30 : decode cX7_set 30 = .ok (.bipush 99, 2) := by decide +kernel
theorem dX7_set_32 : decode cX7_set 32 = .ok (.invokestatic 76, 3) := by decide +kernel
theorem dX7_set_35 : decode cX7_set 35 = .ok (.ifCond .eq 20, 3) := by decide +kernel
theorem dX7_set_38 : decode cX7_set 38 = .ok (.aload_n 0, 1) := by decide +kernel
theorem dX7_set_39 : decode cX7_set 39 = .ok (.bipush 33, 2) := by decide +kernel
theorem dX7_set_41 : decode cX7_set 41 = .ok (.bipush 6, 2) := by decide +kernel
theorem dX7_set_43 : decode cX7_set 43 = .ok (.iload_n 1, 1) := by decide +kernel
theorem dX7_set_44 : decode cX7_set 44 = .ok (.imul, 1) := by decide +kernel
theorem dX7_set_45 : decode cX7_set 45 = .ok (.iadd, 1) := by decide +kernel
theorem dX7_set_46 : decode cX7_set 46 = .ok (.iload_n 2, 1) := by decide +kernel
theorem dX7_set_47 : decode cX7_set 47 = .ok (.iadd, 1) := by decide +kernel
theorem dX7_set_48 : decode cX7_set 48 = .ok (.iload_n 3, 1) := by decide +kernel
theorem dX7_set_49 : decode cX7_set 49 = .ok (.invokevirtual 135, 3) := by decide +kernel
theorem dX7_set_52 : decode cX7_set 52 = .ok (.goto 5, 3) := by decide +kernel
theorem dX7_set_55 : decode cX7_set 55 = .ok (.ldc 92, 2) := by decide +kernel
theorem dX7_set_57 : decode cX7_set 57 = .ok (.ireturn, 1) := by decide +kernel
theorem dX7_move_0 : decode cX7_move 0 = .ok (.aload_n 0, 1) := by decide +kernel
theorem dX7_move_1 : decode cX7_move 1 = .ok (.iload_n 1, 1) := by decide +kernel
theorem dX7_move_2 : decode cX7_move 2 = .ok (.invokevirtual 118, 3) := by decide +kernel
theorem dX7_move_5 : decode cX7_move 5 = .ok (.ifCond .eq 10, 3) := by decide +kernel
theorem dX7_move_8 : decode cX7_move 8 = .ok (.iload_n 2, 1) := by decide +kernel
theorem dX7_move_9 : decode cX7_move 9 = .ok (.invokestatic 88, 3) := by decide +kernel
theorem dX7_move_12 : decode cX7_move 12 = .ok (.ifCond .ne 6, 3) := by decide +kernel
theorem dX7_move_15 : decode cX7_move 15 = .ok (.ldc 92, 2) := by decide +kernel
theorem dX7_move_17 : decode cX7_move 17 = .ok (.ireturn, 1) := by decide +kernel
theorem dX7_move_18 : decode cX7_move 18 = .ok (.aload_n 0, 1) := by decide +kernel
theorem dX7_move_19 : decode cX7_move 19 = .ok (.iload_n 2, 1) := by decide +kernel
theorem dX7_move_20 : decode cX7_move 20 = .ok (.invokevirtual 93, 3) := by decide +kernel
theorem dX7_move_23 : decode cX7_move 23 = .ok (.istore_n 3, 1) := by decide +kernel
theorem dX7_move_24 : decode cX7_move 24 = .ok (.iload_n 3, 1) := by decide +kernel
theorem dX7_move_25 : decode cX7_move 25 = .ok (.ifCond .lt 13, 3) := by decide +kernel
theorem dX7_move_28 : decode cX7_move 28 = .ok (.iload_n 3, 1) := by decide +kernel
theorem dX7_move_29 : decode cX7_move 29 = .ok (.iload_n 1, 1) := by decide +kernel
theorem dX7_move_30 : decode cX7_move 30 = .ok (.if_icmp .eq 8, 3) := by decide +kernel
theorem dX7_move_33 : decode cX7_move 33 = .ok (.ldc 97, 2) := by decide +kernel
theorem dX7_move_35 : decode cX7_move 35 = .ok (.goto 17, 3) := by decide +kernel
theorem dX7_move_38 : decode cX7_move 38 = .ok (.aload_n 0, 1) := by decide +kernel
theorem dX7_move_39 : decode cX7_move 39 = .ok (.bipush 33, 2) := by decide +kernel
theorem dX7_move_41 : decode cX7_move 41 = .ok (.bipush 6, 2) := by decide +kernel
theorem dX7_move_43 : decode cX7_move 43 = .ok (.iload_n 1, 1) := by decide +kernel
theorem dX7_move_44 : decode cX7_move 44 = .ok (.imul, 1) := by decide +kernel
theorem dX7_move_45 : decode cX7_move 45 = .ok (.iadd, 1) := by decide +kernel
theorem dX7_move_46 : decode cX7_move 46 = .ok (.iconst 1, 1) := by decide +kernel
theorem dX7_move_47 : decode cX7_move 47 = .ok (.iadd, 1) := by decide +kernel
theorem dX7_move_48 : decode cX7_move 48 = .ok (.iload_n 2, 1) := by decide +kernel
theorem dX7_move_49 : decode cX7_move 49 = .ok (.invokevirtual 135, 3) := by decide +kernel
theorem dX7_move_52 : decode cX7_move 52 = .ok (.ireturn, 1) := by decide +kernel
theorem dX7_onSeat_0 : decode cX7_onSeat 0 = .ok (.iload_n 1, 1) := by decide +kernel
theorem dX7_onSeat_1 : decode cX7_onSeat 1 = .ok (.invokestatic 88, 3) := by decide +kernel
theorem dX7_onSeat_4 : decode cX7_onSeat 4 = .ok (.ifCond .eq 14, 3) := by decide +kernel
theorem dX7_onSeat_7 : decode cX7_onSeat 7 = .ok (.aload_n 0, 1) := by decide +kernel
theorem dX7_onSeat_8 : decode cX7_onSeat 8 = .ok (.iload_n 1, 1) := by decide +kernel
theorem dX7_onSeat_9 : decode cX7_onSeat 9 = .ok (.invokevirtual 93, 3) := by decide +kernel
theorem dX7_onSeat_12 : decode cX7_onSeat 12 = .ok (.invokestatic 138, 3) := by decide +kernel
theorem dX7_onSeat_15 : decode cX7_onSeat 15 = .ok (.goto 5, 3) := by decide +kernel
theorem dX7_onSeat_18 : decode cX7_onSeat 18 = .ok (.ldc 92, 2) := by decide +kernel
theorem dX7_onSeat_20 : decode cX7_onSeat 20 = .ok (.ireturn, 1) := by decide +kernel
theorem dX7_draw_0 : decode cX7_draw 0 = .ok (.aload_n 0, 1) := by decide +kernel
theorem dX7_draw_1 : decode cX7_draw 1 = .ok (.getfield 9, 3) := by decide +kernel
theorem dX7_draw_4 : decode cX7_draw 4 = .ok (.iconst 0, 1) := by decide +kernel
theorem dX7_draw_5 : decode cX7_draw 5 = .ok (.aload_n 0, 1) := by decide +kernel
theorem dX7_draw_6 : decode cX7_draw 6 = .ok (.getfield 9, 3) := by decide +kernel
theorem dX7_draw_9 : decode cX7_draw 9 = .ok (.iconst 0, 1) := by decide +kernel
theorem dX7_draw_10 : decode cX7_draw 10 = .ok (.iaload, 1) := by decide +kernel
theorem dX7_draw_11 : decode cX7_draw 11 = .ok (.ldc 141, 2) := by decide +kernel
theorem dX7_draw_13 : decode cX7_draw 13 = .ok (.imul, 1) := by decide +kernel
theorem dX7_draw_14 : decode cX7_draw 14 = .ok (.sipush 12345, 3) := by decide +kernel
theorem dX7_draw_17 : decode cX7_draw 17 = .ok (.iadd, 1) := by decide +kernel
theorem dX7_draw_18 : decode cX7_draw 18 = .ok (.iastore, 1) := by decide +kernel
theorem dX7_draw_19 : decode cX7_draw 19 = .ok (.aload_n 0, 1) := by decide +kernel
theorem dX7_draw_20 : decode cX7_draw 20 = .ok (.getfield 9, 3) := by decide +kernel
theorem dX7_draw_23 : decode cX7_draw 23 = .ok (.iconst 0, 1) := by decide +kernel
theorem dX7_draw_24 : decode cX7_draw 24 = .ok (.iaload, 1) := by decide +kernel
theorem dX7_draw_25 : decode cX7_draw 25 = .ok (.bipush 8, 2) := by decide +kernel
theorem dX7_draw_27 : decode cX7_draw 27 = .ok (.iushr, 1) := by decide +kernel
theorem dX7_draw_28 : decode cX7_draw 28 = .ok (.ireturn, 1) := by decide +kernel
theorem dX7_deal_0 : decode cX7_deal 0 = .ok (.iload_n 1, 1) := by decide +kernel
theorem dX7_deal_1 : decode cX7_deal 1 = .ok (.iconst 1, 1) := by decide +kernel
theorem dX7_deal_2 : decode cX7_deal 2 = .ok (.bipush 10, 2) := by decide +kernel
theorem dX7_deal_4 : decode cX7_deal 4 = .ok (.invokestatic 76, 3) := by decide +kernel
theorem dX7_deal_7 : decode cX7_deal 7 = .ok (.ifCond .ne 6, 3) := by decide +kernel
theorem dX7_deal_10 : decode cX7_deal 10 = .ok (.ldc 92, 2) := by decide +kernel
theorem dX7_deal_12 : decode cX7_deal 12 = .ok (.ireturn, 1) := by decide +kernel
theorem dX7_deal_13 : decode cX7_deal 13 = .ok (.iconst 0, 1) := by decide +kernel
theorem dX7_deal_14 : decode cX7_deal 14 = .ok (.istore_n 2, 1) := by decide +kernel
theorem dX7_deal_15 : decode cX7_deal 15 = .ok (.iload_n 2, 1) := by decide +kernel
theorem dX7_deal_16 : decode cX7_deal 16 = .ok (.iload_n 1, 1) := by decide +kernel
theorem dX7_deal_17 : decode cX7_deal 17 = .ok (.if_icmp .ge 78, 3) := by decide +kernel
theorem dX7_deal_20 : decode cX7_deal 20 = .ok (.aload_n 0, 1) := by decide +kernel
theorem dX7_deal_21 : decode cX7_deal 21 = .ok (.getfield 9, 3) := by decide +kernel
theorem dX7_deal_24 : decode cX7_deal 24 = .ok (.iconst 1, 1) := by decide +kernel
theorem dX7_deal_25 : decode cX7_deal 25 = .ok (.iaload, 1) := by decide +kernel
theorem dX7_deal_26 : decode cX7_deal 26 = .ok (.bipush 10, 2) := by decide +kernel
theorem dX7_deal_28 : decode cX7_deal 28 = .ok (.if_icmp .ge 67, 3) := by decide +kernel
theorem dX7_deal_31 : decode cX7_deal 31 = .ok (.aload_n 0, 1) := by decide +kernel
theorem dX7_deal_32 : decode cX7_deal 32 = .ok (.invokevirtual 142, 3) := by decide +kernel
theorem dX7_deal_35 : decode cX7_deal 35 = .ok (.bipush 6, 2) := by decide +kernel
theorem dX7_deal_37 : decode cX7_deal 37 = .ok (.irem, 1) := by decide +kernel
theorem dX7_deal_38 : decode cX7_deal 38 = .ok (.istore_n 3, 1) := by decide +kernel
theorem dX7_deal_39 : decode cX7_deal 39 = .ok (.aload_n 0, 1) := by decide +kernel
theorem dX7_deal_40 : decode cX7_deal 40 = .ok (.invokevirtual 142, 3) := by decide +kernel
theorem dX7_deal_43 : decode cX7_deal 43 = .ok (.bipush 100, 2) := by decide +kernel
theorem dX7_deal_45 : decode cX7_deal 45 = .ok (.irem, 1) := by decide +kernel
theorem dX7_deal_46 : decode cX7_deal 46 = .ok (.istore 4, 2) := by decide +kernel
theorem dX7_deal_48 : decode cX7_deal 48 = .ok (.aload_n 0, 1) := by decide +kernel
theorem dX7_deal_49 : decode cX7_deal 49 = .ok (.invokevirtual 142, 3) := by decide +kernel
theorem dX7_deal_52 : decode cX7_deal 52 = .ok (.bipush 30, 2) := by decide +kernel
theorem dX7_deal_54 : decode cX7_deal 54 = .ok (.irem, 1) := by decide +kernel
theorem dX7_deal_55 : decode cX7_deal 55 = .ok (.istore 5, 2) := by decide +kernel
theorem dX7_deal_57 : decode cX7_deal 57 = .ok (.aload_n 0, 1) := by decide +kernel
theorem dX7_deal_58 : decode cX7_deal 58 = .ok (.iload 5, 2) := by decide +kernel
theorem dX7_deal_60 : decode cX7_deal 60 = .ok (.invokevirtual 93, 3) := by decide +kernel
theorem dX7_deal_63 : decode cX7_deal 63 = .ok (.ifCond .lt 15, 3) := by decide +kernel
theorem dX7_deal_66 : decode cX7_deal 66 = .ok (.iload 5, 2) := by decide +kernel
theorem dX7_deal_68 : decode cX7_deal 68 = .ok (.iconst 1, 1) := by decide +kernel
theorem dX7_deal_69 : decode cX7_deal 69 = .ok (.iadd, 1) := by decide +kernel
theorem dX7_deal_70 : decode cX7_deal 70 = .ok (.bipush 30, 2) := by decide +kernel
theorem dX7_deal_72 : decode cX7_deal 72 = .ok (.irem, 1) := by decide +kernel
theorem dX7_deal_73 : decode cX7_deal 73 = .ok (.istore 5, 2) := by decide +kernel
theorem dX7_deal_75 : decode cX7_deal 75 = .ok (.goto (-18), 3) := by decide +kernel
theorem dX7_deal_78 : decode cX7_deal 78 = .ok (.aload_n 0, 1) := by decide +kernel
theorem dX7_deal_79 : decode cX7_deal 79 = .ok (.iload_n 3, 1) := by decide +kernel
theorem dX7_deal_80 : decode cX7_deal 80 = .ok (.iload 5, 2) := by decide +kernel
theorem dX7_deal_82 : decode cX7_deal 82 = .ok (.iload 4, 2) := by decide +kernel
theorem dX7_deal_84 : decode cX7_deal 84 = .ok (.invokevirtual 99, 3) := by decide +kernel
theorem dX7_deal_87 : decode cX7_deal 87 = .ok (.istore 6, 2) := by decide +kernel
theorem dX7_deal_89 : decode cX7_deal 89 = .ok (.iinc 2 1, 3) := by decide +kernel
theorem dX7_deal_92 : decode cX7_deal 92 = .ok (.goto (-77), 3) := by decide +kernel
theorem dX7_deal_95 : decode cX7_deal 95 = .ok (.iload_n 2, 1) := by decide +kernel
theorem dX7_deal_96 : decode cX7_deal 96 = .ok (.ireturn, 1) := by decide +kernel
theorem dX7_seed_0 : decode cX7_seed 0 = .ok (.aload_n 0, 1) := by decide +kernel
theorem dX7_seed_1 : decode cX7_seed 1 = .ok (.iconst 0, 1) := by decide +kernel
theorem dX7_seed_2 : decode cX7_seed 2 = .ok (.iload_n 1, 1) := by decide +kernel
theorem dX7_seed_3 : decode cX7_seed 3 = .ok (.invokevirtual 135, 3) := by decide +kernel
theorem dX7_seed_6 : decode cX7_seed 6 = .ok (.ireturn, 1) := by decide +kernel
theorem dX7_hall_0 : decode cX7_hall 0 = .ok (.iload_n 1, 1) := by decide +kernel
theorem dX7_hall_1 : decode cX7_hall 1 = .ok (.iconst 0, 1) := by decide +kernel
theorem dX7_hall_2 : decode cX7_hall 2 = .ok (.iconst 1, 1) := by decide +kernel
theorem dX7_hall_3 : decode cX7_hall 3 = .ok (.invokestatic 76, 3) := by decide +kernel
theorem dX7_hall_6 : decode cX7_hall 6 = .ok (.ifCond .eq 34, 3) := by decide +kernel
theorem dX7_hall_9 : decode cX7_hall 9 = .ok (.iload_n 2, 1) := by decide +kernel
theorem dX7_hall_10 : decode cX7_hall 10 = .ok (.iconst 0, 1) := by decide +kernel
theorem dX7_hall_11 : decode cX7_hall 11 = .ok (.iload_n 1, 1) := by decide +kernel
theorem dX7_hall_12 : decode cX7_hall 12 = .ok (.ifCond .ne 8, 3) := by decide +kernel
theorem dX7_hall_15 : decode cX7_hall 15 = .ok (.bipush 99, 2) := by decide +kernel
theorem dX7_hall_17 : decode cX7_hall 17 = .ok (.goto 5, 3) := by decide +kernel
theorem dX7_hall_20 : decode cX7_hall 20 = .ok (.bipush 9, 2) := by decide +kernel
theorem dX7_hall_22 : decode cX7_hall 22 = .ok (.invokestatic 76, 3) := by decide +kernel
theorem dX7_hall_25 : decode cX7_hall 25 = .ok (.ifCond .eq 15, 3) := by decide +kernel
theorem dX7_hall_28 : decode cX7_hall 28 = .ok (.aload_n 0, 1) := by decide +kernel
theorem dX7_hall_29 : decode cX7_hall 29 = .ok (.bipush 6, 2) := by decide +kernel
theorem dX7_hall_31 : decode cX7_hall 31 = .ok (.iload_n 1, 1) := by decide +kernel
theorem dX7_hall_32 : decode cX7_hall 32 = .ok (.iadd, 1) := by decide +kernel
theorem dX7_hall_33 : decode cX7_hall 33 = .ok (.iload_n 2, 1) := by decide +kernel
theorem dX7_hall_34 : decode cX7_hall 34 = .ok (.invokevirtual 135, 3) := by decide +kernel
theorem dX7_hall_37 : decode cX7_hall 37 = .ok (.goto 5, 3) := by decide +kernel
theorem dX7_hall_40 : decode cX7_hall 40 = .ok (.ldc 92, 2) := by decide +kernel
theorem dX7_hall_42 : decode cX7_hall 42 = .ok (.ireturn, 1) := by decide +kernel
theorem dX7_bars_0 : decode cX7_bars 0 = .ok (.iload_n 1, 1) := by decide +kernel
theorem dX7_bars_1 : decode cX7_bars 1 = .ok (.iconst 1, 1) := by decide +kernel
theorem dX7_bars_2 : decode cX7_bars 2 = .ok (.bipush 24, 2) := by decide +kernel
theorem dX7_bars_4 : decode cX7_bars 4 = .ok (.invokestatic 76, 3) := by decide +kernel
theorem dX7_bars_7 : decode cX7_bars 7 = .ok (.ifCond .ne 6, 3) := by decide +kernel
theorem dX7_bars_10 : decode cX7_bars 10 = .ok (.ldc 92, 2) := by decide +kernel
theorem dX7_bars_12 : decode cX7_bars 12 = .ok (.ireturn, 1) := by decide +kernel
theorem dX7_bars_13 : decode cX7_bars 13 = .ok (.iload_n 1, 1) := by decide +kernel
theorem dX7_bars_14 : decode cX7_bars 14 = .ok (.istore_n 2, 1) := by decide +kernel
theorem dX7_bars_15 : decode cX7_bars 15 = .ok (.iload_n 2, 1) := by decide +kernel
theorem dX7_bars_16 : decode cX7_bars 16 = .ok (.bipush 24, 2) := by decide +kernel
theorem dX7_bars_18 : decode cX7_bars 18 = .ok (.if_icmp .ge 19, 3) := by decide +kernel
theorem dX7_bars_21 : decode cX7_bars 21 = .ok (.aload_n 0, 1) := by decide +kernel
theorem dX7_bars_22 : decode cX7_bars 22 = .ok (.getfield 9, 3) := by decide +kernel
theorem dX7_bars_25 : decode cX7_bars 25 = .ok (.bipush 9, 2) := by decide +kernel
theorem dX7_bars_27 : decode cX7_bars 27 = .ok (.iload_n 2, 1) := by decide +kernel
theorem dX7_bars_28 : decode cX7_bars 28 = .ok (.iadd, 1) := by decide +kernel
theorem dX7_bars_29 : decode cX7_bars 29 = .ok (.iconst 0, 1) := by decide +kernel
theorem dX7_bars_30 : decode cX7_bars 30 = .ok (.iastore, 1) := by decide +kernel
theorem dX7_bars_31 : decode cX7_bars 31 = .ok (.iinc 2 1, 3) := by decide +kernel
theorem dX7_bars_34 : decode cX7_bars 34 = .ok (.goto (-19), 3) := by decide +kernel
theorem dX7_bars_37 : decode cX7_bars 37 = .ok (.aload_n 0, 1) := by decide +kernel
theorem dX7_bars_38 : decode cX7_bars 38 = .ok (.iconst 2, 1) := by decide +kernel
theorem dX7_bars_39 : decode cX7_bars 39 = .ok (.iload_n 1, 1) := by decide +kernel
theorem dX7_bars_40 : decode cX7_bars 40 = .ok (.invokevirtual 135, 3) := by decide +kernel
theorem dX7_bars_43 : decode cX7_bars 43 = .ok (.ireturn, 1) := by decide +kernel
theorem dX7_loud_0 : decode cX7_loud 0 = .ok (.iload_n 1, 1) := by decide +kernel
theorem dX7_loud_1 : decode cX7_loud 1 = .ok (.iconst 0, 1) := by decide +kernel
theorem dX7_loud_2 : decode cX7_loud 2 = .ok (.aload_n 0, 1) := by decide +kernel
theorem dX7_loud_3 : decode cX7_loud 3 = .ok (.getfield 9, 3) := by decide +kernel
theorem dX7_loud_6 : decode cX7_loud 6 = .ok (.iconst 2, 1) := by decide +kernel
theorem dX7_loud_7 : decode cX7_loud 7 = .ok (.iaload, 1) := by decide +kernel
theorem dX7_loud_8 : decode cX7_loud 8 = .ok (.iconst 1, 1) := by decide +kernel
theorem dX7_loud_9 : decode cX7_loud 9 = .ok (.isub, 1) := by decide +kernel
theorem dX7_loud_10 : decode cX7_loud 10 = .ok (.invokestatic 76, 3) := by decide +kernel
theorem dX7_loud_13 : decode cX7_loud 13 = .ok (.ifCond .eq 25, 3) := by decide +kernel
theorem dX7_loud_16 : decode cX7_loud 16 = .ok (.iload_n 2, 1) := by decide +kernel
theorem dX7_loud_17 : decode cX7_loud 17 = .ok (.iconst 0, 1) := by decide +kernel
theorem dX7_loud_18 : decode cX7_loud 18 = .ok (.bipush 99, 2) := by decide +kernel
theorem dX7_loud_20 : decode cX7_loud 20 = .ok (.invokestatic 76, 3) := by decide +kernel
theorem dX7_loud_23 : decode cX7_loud 23 = .ok (.ifCond .eq 15, 3) := by decide +kernel
theorem dX7_loud_26 : decode cX7_loud 26 = .ok (.aload_n 0, 1) := by decide +kernel
theorem dX7_loud_27 : decode cX7_loud 27 = .ok (.bipush 9, 2) := by decide +kernel
theorem dX7_loud_29 : decode cX7_loud 29 = .ok (.iload_n 1, 1) := by decide +kernel
theorem dX7_loud_30 : decode cX7_loud 30 = .ok (.iadd, 1) := by decide +kernel
theorem dX7_loud_31 : decode cX7_loud 31 = .ok (.iload_n 2, 1) := by decide +kernel
theorem dX7_loud_32 : decode cX7_loud 32 = .ok (.invokevirtual 135, 3) := by decide +kernel
theorem dX7_loud_35 : decode cX7_loud 35 = .ok (.goto 5, 3) := by decide +kernel
theorem dX7_loud_38 : decode cX7_loud 38 = .ok (.ldc 92, 2) := by decide +kernel
theorem dX7_loud_40 : decode cX7_loud 40 = .ok (.ireturn, 1) := by decide +kernel
theorem dX7_music_0 : decode cX7_music 0 = .ok (.iload_n 1, 1) := by decide +kernel
theorem dX7_music_1 : decode cX7_music 1 = .ok (.iconst 0, 1) := by decide +kernel
theorem dX7_music_2 : decode cX7_music 2 = .ok (.bipush 99, 2) := by decide +kernel
theorem dX7_music_4 : decode cX7_music 4 = .ok (.invokestatic 76, 3) := by decide +kernel
theorem dX7_music_7 : decode cX7_music 7 = .ok (.ifCond .eq 11, 3) := by decide +kernel
theorem dX7_music_10 : decode cX7_music 10 = .ok (.aload_n 0, 1) := by decide +kernel
theorem dX7_music_11 : decode cX7_music 11 = .ok (.iload_n 1, 1) := by decide +kernel
theorem dX7_music_12 : decode cX7_music 12 = .ok (.invokevirtual 112, 3) := by decide +kernel
theorem dX7_music_15 : decode cX7_music 15 = .ok (.goto 5, 3) := by decide +kernel
theorem dX7_music_18 : decode cX7_music 18 = .ok (.ldc 92, 2) := by decide +kernel
theorem dX7_music_20 : decode cX7_music 20 = .ok (.ireturn, 1) := by decide +kernel
theorem dX7_harmBy_0 : decode cX7_harmBy 0 = .ok (.aload_n 0, 1) := by decide +kernel
theorem dX7_harmBy_1 : decode cX7_harmBy 1 = .ok (.iconst 1, 1) := by decide +kernel
theorem dX7_harmBy_2 : decode cX7_harmBy 2 = .ok (.invokevirtual 103, 3) := by decide +kernel
theorem dX7_harmBy_5 : decode cX7_harmBy 5 = .ok (.istore_n 2, 1) := by decide +kernel
theorem dX7_harmBy_6 : decode cX7_harmBy 6 = .ok (.aload_n 0, 1) := by decide +kernel
theorem dX7_harmBy_7 : decode cX7_harmBy 7 = .ok (.iconst 0, 1) := by decide +kernel
theorem dX7_harmBy_8 : decode cX7_harmBy 8 = .ok (.invokevirtual 112, 3) := by decide +kernel
theorem dX7_harmBy_11 : decode cX7_harmBy 11 = .ok (.istore_n 3, 1) := by decide +kernel
theorem dX7_harmBy_12 : decode cX7_harmBy 12 = .ok (.aload_n 0, 1) := by decide +kernel
theorem dX7_harmBy_13 : decode cX7_harmBy 13 = .ok (.getfield 45, 3) := by decide +kernel
theorem dX7_harmBy_16 : decode cX7_harmBy 16 = .ok (.iconst 0, 1) := by decide +kernel
theorem dX7_harmBy_17 : decode cX7_harmBy 17 = .ok (.iload_n 1, 1) := by decide +kernel
theorem dX7_harmBy_18 : decode cX7_harmBy 18 = .ok (.iastore, 1) := by decide +kernel
theorem dX7_harmBy_19 : decode cX7_harmBy 19 = .ok (.aload_n 0, 1) := by decide +kernel
theorem dX7_harmBy_20 : decode cX7_harmBy 20 = .ok (.getfield 45, 3) := by decide +kernel
theorem dX7_harmBy_23 : decode cX7_harmBy 23 = .ok (.iconst 1, 1) := by decide +kernel
theorem dX7_harmBy_24 : decode cX7_harmBy 24 = .ok (.iload_n 3, 1) := by decide +kernel
theorem dX7_harmBy_25 : decode cX7_harmBy 25 = .ok (.iastore, 1) := by decide +kernel
theorem dX7_harmBy_26 : decode cX7_harmBy 26 = .ok (.iload_n 2, 1) := by decide +kernel
theorem dX7_harmBy_27 : decode cX7_harmBy 27 = .ok (.ifCond .ge 18, 3) := by decide +kernel
theorem dX7_harmBy_30 : decode cX7_harmBy 30 = .ok (.iload_n 1, 1) := by decide +kernel
theorem dX7_harmBy_31 : decode cX7_harmBy 31 = .ok (.bipush 60, 2) := by decide +kernel
theorem dX7_harmBy_33 : decode cX7_harmBy 33 = .ok (.iload_n 3, 1) := by decide +kernel
theorem dX7_harmBy_34 : decode cX7_harmBy 34 = .ok (.isub, 1) := by decide +kernel
theorem dX7_harmBy_35 : decode cX7_harmBy 35 = .ok (.iconst 0, 1) := by decide +kernel
theorem dX7_harmBy_36 : decode cX7_harmBy 36 = .ok (.bipush 60, 2) := by decide +kernel
theorem dX7_harmBy_38 : decode cX7_harmBy 38 = .ok (.invokestatic 109, 3) := by decide +kernel
theorem dX7_harmBy_41 : decode cX7_harmBy 41 = .ok (.imul, 1) := by decide +kernel
theorem dX7_harmBy_42 : decode cX7_harmBy 42 = .ok (.goto 15, 3) := by decide +kernel
theorem dX7_harmBy_45 : decode cX7_harmBy 45 = .ok (.aload_n 0, 1) := by decide +kernel
theorem dX7_harmBy_46 : decode cX7_harmBy 46 = .ok (.iload_n 2, 1) := by decide +kernel
theorem dX7_harmBy_47 : decode cX7_harmBy 47 = .ok (.invokevirtual 106, 3) := by decide +kernel
theorem dX7_harmBy_50 : decode cX7_harmBy 50 = .ok (.iconst 0, 1) := by decide +kernel
theorem dX7_harmBy_51 : decode cX7_harmBy 51 = .ok (.sipush 9999, 3) := by decide +kernel
theorem dX7_harmBy_54 : decode cX7_harmBy 54 = .ok (.invokestatic 109, 3) := by decide +kernel
theorem dX7_harmBy_57 : decode cX7_harmBy 57 = .ok (.ireturn, 1) := by decide +kernel
theorem dX7_bitsOf_0 : decode cX7_bitsOf 0 = .ok (.iconst 0, 1) := by decide +kernel
theorem dX7_bitsOf_1 : decode cX7_bitsOf 1 = .ok (.istore_n 1, 1) := by decide +kernel
theorem dX7_bitsOf_2 : decode cX7_bitsOf 2 = .ok (.iload_n 0, 1) := by decide +kernel
theorem dX7_bitsOf_3 : decode cX7_bitsOf 3 = .ok (.istore_n 2, 1) := by decide +kernel
theorem dX7_bitsOf_4 : decode cX7_bitsOf 4 = .ok (.iload_n 2, 1) := by decide +kernel
theorem dX7_bitsOf_5 : decode cX7_bitsOf 5 = .ok (.ifCond .eq 15, 3) := by decide +kernel
theorem dX7_bitsOf_8 : decode cX7_bitsOf 8 = .ok (.iinc 1 1, 3) := by decide +kernel
theorem dX7_bitsOf_11 : decode cX7_bitsOf 11 = .ok (.iload_n 2, 1) := by decide +kernel
theorem dX7_bitsOf_12 : decode cX7_bitsOf 12 = .ok (.iload_n 2, 1) := by decide +kernel
theorem dX7_bitsOf_13 : decode cX7_bitsOf 13 = .ok (.iconst 1, 1) := by decide +kernel
theorem dX7_bitsOf_14 : decode cX7_bitsOf 14 = .ok (.isub, 1) := by decide +kernel
theorem dX7_bitsOf_15 : decode cX7_bitsOf 15 = .ok (.iand, 1) := by decide +kernel
theorem dX7_bitsOf_16 : decode cX7_bitsOf 16 = .ok (.istore_n 2, 1) := by decide +kernel
theorem dX7_bitsOf_17 : decode cX7_bitsOf 17 = .ok (.goto (-13), 3) := by decide +kernel
theorem dX7_bitsOf_20 : decode cX7_bitsOf 20 = .ok (.iload_n 1, 1) := by decide +kernel
theorem dX7_bitsOf_21 : decode cX7_bitsOf 21 = .ok (.ireturn, 1) := by decide +kernel
theorem dX7_second_0 : decode cX7_second 0 = .ok (.iconst 0, 1) := by decide +kernel
theorem dX7_second_1 : decode cX7_second 1 = .ok (.istore_n 1, 1) := by decide +kernel
theorem dX7_second_2 : decode cX7_second 2 = .ok (.iload_n 1, 1) := by decide +kernel
theorem dX7_second_3 : decode cX7_second 3 = .ok (.aload_n 0, 1) := by decide +kernel
theorem dX7_second_4 : decode cX7_second 4 = .ok (.getfield 9, 3) := by decide +kernel
theorem dX7_second_7 : decode cX7_second 7 = .ok (.iconst 1, 1) := by decide +kernel
theorem dX7_second_8 : decode cX7_second 8 = .ok (.iaload, 1) := by decide +kernel
theorem dX7_second_9 : decode cX7_second 9 = .ok (.if_icmp .ge 61, 3) := by decide +kernel
theorem dX7_second_12 : decode cX7_second 12 = .ok (.aload_n 0, 1) := by decide +kernel
theorem dX7_second_13 : decode cX7_second 13 = .ok (.iload_n 1, 1) := by decide +kernel
theorem dX7_second_14 : decode cX7_second 14 = .ok (.iconst 3, 1) := by decide +kernel
theorem dX7_second_15 : decode cX7_second 15 = .ok (.aload_n 0, 1) := by decide +kernel
theorem dX7_second_16 : decode cX7_second 16 = .ok (.iload_n 1, 1) := by decide +kernel
theorem dX7_second_17 : decode cX7_second 17 = .ok (.iconst 3, 1) := by decide +kernel
theorem dX7_second_18 : decode cX7_second 18 = .ok (.invokevirtual 80, 3) := by decide +kernel
theorem dX7_second_21 : decode cX7_second 21 = .ok (.aload_n 0, 1) := by decide +kernel
theorem dX7_second_22 : decode cX7_second 22 = .ok (.iload_n 1, 1) := by decide +kernel
theorem dX7_second_23 : decode cX7_second 23 = .ok (.invokevirtual 121, 3) := by decide +kernel
theorem dX7_second_26 : decode cX7_second 26 = .ok (.iadd, 1) := by decide +kernel
theorem dX7_second_27 : decode cX7_second 27 = .ok (.iconst 0, 1) := by decide +kernel
theorem dX7_second_28 : decode cX7_second 28 = .ok (.sipush 999, 3) := by decide +kernel
theorem dX7_second_31 : decode cX7_second 31 = .ok (.invokestatic 109, 3) := by decide +kernel
theorem dX7_second_34 : decode cX7_second 34 = .ok (.invokevirtual 84, 3) := by decide +kernel
theorem dX7_second_37 : decode cX7_second 37 = .ok (.aload_n 0, 1) := by decide +kernel
theorem dX7_second_38 : decode cX7_second 38 = .ok (.iload_n 1, 1) := by decide +kernel
theorem dX7_second_39 : decode cX7_second 39 = .ok (.iconst 4, 1) := by decide +kernel
theorem dX7_second_40 : decode cX7_second 40 = .ok (.aload_n 0, 1) := by decide +kernel
theorem dX7_second_41 : decode cX7_second 41 = .ok (.iload_n 1, 1) := by decide +kernel
theorem dX7_second_42 : decode cX7_second 42 = .ok (.iconst 4, 1) := by decide +kernel
theorem dX7_second_43 : decode cX7_second 43 = .ok (.invokevirtual 80, 3) := by decide +kernel
theorem dX7_second_46 : decode cX7_second 46 = .ok (.ifCond .le 14, 3) := by decide +kernel
theorem dX7_second_49 : decode cX7_second 49 = .ok (.aload_n 0, 1) := by decide +kernel
theorem dX7_second_50 : decode cX7_second 50 = .ok (.iload_n 1, 1) := by decide +kernel
theorem dX7_second_51 : decode cX7_second 51 = .ok (.iconst 4, 1) := by decide +kernel
theorem dX7_second_52 : decode cX7_second 52 = .ok (.invokevirtual 80, 3) := by decide +kernel
theorem dX7_second_55 : decode cX7_second 55 = .ok (.iconst 1, 1) := by decide +kernel
theorem dX7_second_56 : decode cX7_second 56 = .ok (.isub, 1) := by decide +kernel
theorem dX7_second_57 : decode cX7_second 57 = .ok (.goto 4, 3) := by decide +kernel
theorem dX7_second_60 : decode cX7_second 60 = .ok (.iconst 0, 1) := by decide +kernel
theorem dX7_second_61 : decode cX7_second 61 = .ok (.invokevirtual 84, 3) := by decide +kernel
theorem dX7_second_64 : decode cX7_second 64 = .ok (.iinc 1 1, 3) := by decide +kernel
theorem dX7_second_67 : decode cX7_second 67 = .ok (.goto (-65), 3) := by decide +kernel
theorem dX7_second_70 : decode cX7_second 70 = .ok (.iconst 0, 1) := by decide +kernel
theorem dX7_second_71 : decode cX7_second 71 = .ok (.istore_n 1, 1) := by decide +kernel
theorem dX7_second_72 : decode cX7_second 72 = .ok (.iconst 0, 1) := by decide +kernel
theorem dX7_second_73 : decode cX7_second 73 = .ok (.istore_n 2, 1) := by decide +kernel
theorem dX7_second_74 : decode cX7_second 74 = .ok (.iload_n 2, 1) := by decide +kernel
theorem dX7_second_75 : decode cX7_second 75 = .ok (.aload_n 0, 1) := by decide +kernel
theorem dX7_second_76 : decode cX7_second 76 = .ok (.getfield 9, 3) := by decide +kernel
theorem dX7_second_79 : decode cX7_second 79 = .ok (.iconst 1, 1) := by decide +kernel
theorem dX7_second_80 : decode cX7_second 80 = .ok (.iaload, 1) := by decide +kernel
theorem dX7_second_81 : decode cX7_second 81 = .ok (.if_icmp .ge 27, 3) := by decide +kernel
theorem dX7_second_84 : decode cX7_second 84 = .ok (.iload_n 1, 1) := by decide +kernel
theorem dX7_second_85 : decode cX7_second 85 = .ok (.aload_n 0, 1) := by decide +kernel
theorem dX7_second_86 : decode cX7_second 86 = .ok (.iload_n 2, 1) := by decide +kernel
theorem dX7_second_87 : decode cX7_second 87 = .ok (.invokevirtual 124, 3) := by decide +kernel
theorem dX7_second_90 : decode cX7_second 90 = .ok (.ifCond .eq 9, 3) := by decide +kernel
theorem dX7_second_93 : decode cX7_second 93 = .ok (.iconst 1, 1) := by decide +kernel
theorem dX7_second_94 : decode cX7_second 94 = .ok (.iload_n 2, 1) := by decide +kernel
theorem dX7_second_95 : decode cX7_second 95 = .ok (.ishl, 1) := by decide +kernel
theorem dX7_second_96 : decode cX7_second 96 = .ok (.goto 4, 3) := by decide +kernel
theorem dX7_second_99 : decode cX7_second 99 = .ok (.iconst 0, 1) := by decide +kernel
theorem dX7_second_100 : decode cX7_second 100 = .ok (.ior, 1) := by decide +kernel
theorem dX7_second_101 : decode cX7_second 101 = .ok (.istore_n 1, 1) := by decide +kernel
theorem dX7_second_102 : decode cX7_second 102 = .ok (.iinc 2 1, 3) := by decide +kernel
theorem dX7_second_105 : decode cX7_second 105 = .ok (.goto (-31), 3) := by decide +kernel
theorem dX7_second_108 : decode cX7_second 108 = .ok (.iconst 0, 1) := by decide +kernel
theorem dX7_second_109 : decode cX7_second 109 = .ok (.istore_n 2, 1) := by decide +kernel
theorem dX7_second_110 : decode cX7_second 110 = .ok (.iload_n 2, 1) := by decide +kernel
theorem dX7_second_111 : decode cX7_second 111 = .ok (.aload_n 0, 1) := by decide +kernel
theorem dX7_second_112 : decode cX7_second 112 = .ok (.getfield 9, 3) := by decide +kernel
theorem dX7_second_115 : decode cX7_second 115 = .ok (.iconst 1, 1) := by decide +kernel
theorem dX7_second_116 : decode cX7_second 116 = .ok (.iaload, 1) := by decide +kernel
theorem dX7_second_117 : decode cX7_second 117 = .ok (.if_icmp .ge 66, 3) := by decide +kernel
theorem dX7_second_120 : decode cX7_second 120 = .ok (.iload_n 1, 1) := by decide +kernel
theorem dX7_second_121 : decode cX7_second 121 = .ok (.iload_n 2, 1) := by decide +kernel
theorem dX7_second_122 : decode cX7_second 122 = .ok (.ishr, 1) := by decide +kernel
theorem dX7_second_123 : decode cX7_second 123 = .ok (.iconst 1, 1) := by decide +kernel
theorem dX7_second_124 : decode cX7_second 124 = .ok (.iand, 1) := by decide +kernel
theorem dX7_second_125 : decode cX7_second 125 = .ok (.iconst 1, 1) := by decide +kernel
theorem dX7_second_126 : decode cX7_second 126 = .ok (.if_icmp .ne 7, 3) := by decide +kernel
theorem dX7_second_129 : decode cX7_second 129 = .ok (.iconst 1, 1) := by decide +kernel
theorem dX7_second_130 : decode cX7_second 130 = .ok (.goto 4, 3) := by decide +kernel
theorem dX7_second_133 : decode cX7_second 133 = .ok (.iconst 0, 1) := by decide +kernel
theorem dX7_second_134 : decode cX7_second 134 = .ok (.istore_n 3, 1) := by decide +kernel
theorem dX7_second_135 : decode cX7_second 135 = .ok (.aload_n 0, 1) := by decide +kernel
theorem dX7_second_136 : decode cX7_second 136 = .ok (.iload_n 2, 1) := by decide +kernel
theorem dX7_second_137 : decode cX7_second 137 = .ok (.iconst 3, 1) := by decide +kernel
theorem dX7_second_138 : decode cX7_second 138 = .ok (.iload_n 3, 1) := by decide +kernel
theorem dX7_second_139 : decode cX7_second 139 = .ok (.ifCond .eq 7, 3) := by decide +kernel
theorem dX7_second_142 : decode cX7_second 142 = .ok (.iconst 0, 1) := by decide +kernel
theorem dX7_second_143 : decode cX7_second 143 = .ok (.goto 9, 3) := by decide +kernel
theorem dX7_second_146 : decode cX7_second 146 = .ok (.aload_n 0, 1) := by decide +kernel
theorem dX7_second_147 : decode cX7_second 147 = .ok (.iload_n 2, 1) := by decide +kernel
theorem dX7_second_148 : decode cX7_second 148 = .ok (.iconst 3, 1) := by decide +kernel
theorem dX7_second_149 : decode cX7_second 149 = .ok (.invokevirtual 80, 3) := by decide +kernel
theorem dX7_second_152 : decode cX7_second 152 = .ok (.invokevirtual 84, 3) := by decide +kernel
theorem dX7_second_155 : decode cX7_second 155 = .ok (.aload_n 0, 1) := by decide +kernel
theorem dX7_second_156 : decode cX7_second 156 = .ok (.iload_n 2, 1) := by decide +kernel
theorem dX7_second_157 : decode cX7_second 157 = .ok (.iconst 5, 1) := by decide +kernel
theorem dX7_second_158 : decode cX7_second 158 = .ok (.aload_n 0, 1) := by decide +kernel
theorem dX7_second_159 : decode cX7_second 159 = .ok (.iload_n 2, 1) := by decide +kernel
theorem dX7_second_160 : decode cX7_second 160 = .ok (.iconst 5, 1) := by decide +kernel
theorem dX7_second_161 : decode cX7_second 161 = .ok (.invokevirtual 80, 3) := by decide +kernel
theorem dX7_second_164 : decode cX7_second 164 = .ok (.iload_n 3, 1) := by decide +kernel
theorem dX7_second_165 : decode cX7_second 165 = .ok (.ifCond .eq 7, 3) := by decide +kernel
theorem dX7_second_168 : decode cX7_second 168 = .ok (.iconst 1, 1) := by decide +kernel
theorem dX7_second_169 : decode cX7_second 169 = .ok (.goto 4, 3) := by decide +kernel
theorem dX7_second_172 : decode cX7_second 172 = .ok (.iconst 0, 1) := by decide +kernel
theorem dX7_second_173 : decode cX7_second 173 = .ok (.iadd, 1) := by decide +kernel
theorem dX7_second_174 : decode cX7_second 174 = .ok (.invokevirtual 84, 3) := by decide +kernel
theorem dX7_second_177 : decode cX7_second 177 = .ok (.iinc 2 1, 3) := by decide +kernel
theorem dX7_second_180 : decode cX7_second 180 = .ok (.goto (-70), 3) := by decide +kernel
theorem dX7_second_183 : decode cX7_second 183 = .ok (.iload_n 1, 1) := by decide +kernel
theorem dX7_second_184 : decode cX7_second 184 = .ok (.invokestatic 146, 3) := by decide +kernel
theorem dX7_second_187 : decode cX7_second 187 = .ok (.istore_n 2, 1) := by decide +kernel
theorem dX7_second_188 : decode cX7_second 188 = .ok (.aload_n 0, 1) := by decide +kernel
theorem dX7_second_189 : decode cX7_second 189 = .ok (.getfield 9, 3) := by decide +kernel
theorem dX7_second_192 : decode cX7_second 192 = .ok (.iconst 4, 1) := by decide +kernel
theorem dX7_second_193 : decode cX7_second 193 = .ok (.dup2, 1) := by decide +kernel
theorem dX7_second_194 : decode cX7_second 194 = .ok (.iaload, 1) := by decide +kernel
theorem dX7_second_195 : decode cX7_second 195 = .ok (.iload_n 2, 1) := by decide +kernel
theorem dX7_second_196 : decode cX7_second 196 = .ok (.ifCond .le 11, 3) := by decide +kernel
theorem dX7_second_199 : decode cX7_second 199 = .ok (.aload_n 0, 1) := by decide +kernel
theorem dX7_second_200 : decode cX7_second 200 = .ok (.iload_n 2, 1) := by decide +kernel
theorem dX7_second_201 : decode cX7_second 201 = .ok (.invokevirtual 149, 3) := by decide +kernel
theorem dX7_second_204 : decode cX7_second 204 = .ok (.goto 4, 3) := by decide +kernel
theorem dX7_second_207 : decode cX7_second 207 = .ok (.iconst 0, 1) := by decide +kernel
theorem dX7_second_208 : decode cX7_second 208 = .ok (.iadd, 1) := by decide +kernel
theorem dX7_second_209 : decode cX7_second 209 = .ok (.iastore, 1) := by decide +kernel
theorem dX7_second_210 : decode cX7_second 210 = .ok (.aload_n 0, 1) := by decide +kernel
theorem dX7_second_211 : decode cX7_second 211 = .ok (.getfield 9, 3) := by decide +kernel
theorem dX7_second_214 : decode cX7_second 214 = .ok (.iconst 3, 1) := by decide +kernel
theorem dX7_second_215 : decode cX7_second 215 = .ok (.dup2, 1) := by decide +kernel
theorem dX7_second_216 : decode cX7_second 216 = .ok (.iaload, 1) := by decide +kernel
theorem dX7_second_217 : decode cX7_second 217 = .ok (.iconst 1, 1) := by decide +kernel
theorem dX7_second_218 : decode cX7_second 218 = .ok (.iadd, 1) := by decide +kernel
theorem dX7_second_219 : decode cX7_second 219 = .ok (.iastore, 1) := by decide +kernel
theorem dX7_second_220 : decode cX7_second 220 = .ok (.aload_n 0, 1) := by decide +kernel
theorem dX7_second_221 : decode cX7_second 221 = .ok (.getfield 9, 3) := by decide +kernel
theorem dX7_second_224 : decode cX7_second 224 = .ok (.iconst 5, 1) := by decide +kernel
theorem dX7_second_225 : decode cX7_second 225 = .ok (.iload_n 1, 1) := by decide +kernel
theorem dX7_second_226 : decode cX7_second 226 = .ok (.iastore, 1) := by decide +kernel
theorem dX7_second_227 : decode cX7_second 227 = .ok (.iload_n 2, 1) := by decide +kernel
theorem dX7_second_228 : decode cX7_second 228 = .ok (.ireturn, 1) := by decide +kernel
theorem dX7_seconds_0 : decode cX7_seconds 0 = .ok (.iconst 0, 1) := by decide +kernel
theorem dX7_seconds_1 : decode cX7_seconds 1 = .ok (.istore_n 2, 1) := by decide +kernel
theorem dX7_seconds_2 : decode cX7_seconds 2 = .ok (.iconst 0, 1) := by decide +kernel
theorem dX7_seconds_3 : decode cX7_seconds 3 = .ok (.istore_n 3, 1) := by decide +kernel
theorem dX7_seconds_4 : decode cX7_seconds 4 = .ok (.iload_n 3, 1) := by decide +kernel
theorem dX7_seconds_5 : decode cX7_seconds 5 = .ok (.iload_n 1, 1) := by decide +kernel
theorem dX7_seconds_6 : decode cX7_seconds 6 = .ok (.if_icmp .ge 16, 3) := by decide +kernel
theorem dX7_seconds_9 : decode cX7_seconds 9 = .ok (.iload_n 2, 1) := by decide +kernel
theorem dX7_seconds_10 : decode cX7_seconds 10 = .ok (.aload_n 0, 1) := by decide +kernel
theorem dX7_seconds_11 : decode cX7_seconds 11 = .ok (.invokevirtual 152, 3) := by decide +kernel
theorem dX7_seconds_14 : decode cX7_seconds 14 = .ok (.iadd, 1) := by decide +kernel
theorem dX7_seconds_15 : decode cX7_seconds 15 = .ok (.istore_n 2, 1) := by decide +kernel
theorem dX7_seconds_16 : decode cX7_seconds 16 = .ok (.iinc 3 1, 3) := by decide +kernel
theorem dX7_seconds_19 : decode cX7_seconds 19 = .ok (.goto (-15), 3) := by decide +kernel
theorem dX7_seconds_22 : decode cX7_seconds 22 = .ok (.iload_n 2, 1) := by decide +kernel
theorem dX7_seconds_23 : decode cX7_seconds 23 = .ok (.ireturn, 1) := by decide +kernel
theorem dX7_run_0 : decode cX7_run 0 = .ok (.iload_n 1, 1) := by decide +kernel
theorem dX7_run_1 : decode cX7_run 1 = .ok (.iconst 1, 1) := by decide +kernel
theorem dX7_run_2 : decode cX7_run 2 = .ok (.sipush 200, 3) := by decide +kernel
theorem dX7_run_5 : decode cX7_run 5 = .ok (.invokestatic 76, 3) := by decide +kernel
theorem dX7_run_8 : decode cX7_run 8 = .ok (.ifCond .eq 24, 3) := by decide +kernel
theorem dX7_run_11 : decode cX7_run 11 = .ok (.aload_n 0, 1) := by decide +kernel
theorem dX7_run_12 : decode cX7_run 12 = .ok (.ldc 155, 2) := by decide +kernel
theorem dX7_run_14 : decode cX7_run 14 = .ok (.aload_n 0, 1) := by decide +kernel
theorem dX7_run_15 : decode cX7_run 15 = .ok (.getfield 9, 3) := by decide +kernel
theorem dX7_run_18 : decode cX7_run 18 = .ok (.iconst 3, 1) := by decide +kernel
theorem dX7_run_19 : decode cX7_run 19 = .ok (.iaload, 1) := by decide +kernel
theorem dX7_run_20 : decode cX7_run 20 = .ok (.isub, 1) := by decide +kernel
theorem dX7_run_21 : decode cX7_run 21 = .ok (.iconst 0, 1) := by decide +kernel
theorem dX7_run_22 : decode cX7_run 22 = .ok (.iload_n 1, 1) := by decide +kernel
theorem dX7_run_23 : decode cX7_run 23 = .ok (.invokestatic 109, 3) := by decide +kernel
theorem dX7_run_26 : decode cX7_run 26 = .ok (.invokevirtual 156, 3) := by decide +kernel
theorem dX7_run_29 : decode cX7_run 29 = .ok (.goto 5, 3) := by decide +kernel
theorem dX7_run_32 : decode cX7_run 32 = .ok (.ldc 92, 2) := by decide +kernel
theorem dX7_run_34 : decode cX7_run 34 = .ok (.ireturn, 1) := by decide +kernel
theorem dX7_did_0 : decode cX7_did 0 = .ok (.aload_n 0, 1) := by decide +kernel
theorem dX7_did_1 : decode cX7_did 1 = .ok (.getfield 9, 3) := by decide +kernel
theorem dX7_did_4 : decode cX7_did 4 = .ok (.iconst 5, 1) := by decide +kernel
theorem dX7_did_5 : decode cX7_did 5 = .ok (.iaload, 1) := by decide +kernel
theorem dX7_did_6 : decode cX7_did 6 = .ok (.ireturn, 1) := by decide +kernel
theorem dX7_thinks_0 : decode cX7_thinks 0 = .ok (.iconst 0, 1) := by decide +kernel
theorem dX7_thinks_1 : decode cX7_thinks 1 = .ok (.istore_n 1, 1) := by decide +kernel
theorem dX7_thinks_2 : decode cX7_thinks 2 = .ok (.iload_n 1, 1) := by decide +kernel
theorem dX7_thinks_3 : decode cX7_thinks 3 = .ok (.bipush 93, 2) := by decide +kernel
theorem dX7_thinks_5 : decode cX7_thinks 5 = .ok (.if_icmp .ge 21, 3) := by decide +kernel
theorem dX7_thinks_8 : decode cX7_thinks 8 = .ok (.aload_n 0, 1) := by decide +kernel
theorem dX7_thinks_9 : decode cX7_thinks 9 = .ok (.getfield 19, 3) := by decide +kernel
theorem dX7_thinks_12 : decode cX7_thinks 12 = .ok (.iload_n 1, 1) := by decide +kernel
theorem dX7_thinks_13 : decode cX7_thinks 13 = .ok (.aload_n 0, 1) := by decide +kernel
theorem dX7_thinks_14 : decode cX7_thinks 14 = .ok (.getfield 9, 3) := by decide +kernel
theorem dX7_thinks_17 : decode cX7_thinks 17 = .ok (.iload_n 1, 1) := by decide +kernel
theorem dX7_thinks_18 : decode cX7_thinks 18 = .ok (.iaload, 1) := by decide +kernel
theorem dX7_thinks_19 : decode cX7_thinks 19 = .ok (.iastore, 1) := by decide +kernel
theorem dX7_thinks_20 : decode cX7_thinks 20 = .ok (.iinc 1 1, 3) := by decide +kernel
theorem dX7_thinks_23 : decode cX7_thinks 23 = .ok (.goto (-21), 3) := by decide +kernel
theorem dX7_thinks_26 : decode cX7_thinks 26 = .ok (.return_, 1) := by decide +kernel
theorem dX7_putsBack_0 : decode cX7_putsBack 0 = .ok (.iconst 0, 1) := by decide +kernel
theorem dX7_putsBack_1 : decode cX7_putsBack 1 = .ok (.istore_n 1, 1) := by decide +kernel
theorem dX7_putsBack_2 : decode cX7_putsBack 2 = .ok (.iload_n 1, 1) := by decide +kernel
theorem dX7_putsBack_3 : decode cX7_putsBack 3 = .ok (.bipush 93, 2) := by decide +kernel
theorem dX7_putsBack_5 : decode cX7_putsBack 5 = .ok (.if_icmp .ge 21, 3) := by decide +kernel
theorem dX7_putsBack_8 : decode cX7_putsBack 8 = .ok (.aload_n 0, 1) := by decide +kernel
theorem dX7_putsBack_9 : decode cX7_putsBack 9 = .ok (.getfield 9, 3) := by decide +kernel
theorem dX7_putsBack_12 : decode cX7_putsBack 12 = .ok (.iload_n 1, 1) := by decide +kernel
theorem dX7_putsBack_13 : decode cX7_putsBack 13 = .ok (.aload_n 0, 1) := by decide +kernel
theorem dX7_putsBack_14 : decode cX7_putsBack 14 = .ok (.getfield 19, 3) := by decide +kernel
theorem dX7_putsBack_17 : decode cX7_putsBack 17 = .ok (.iload_n 1, 1) := by decide +kernel
theorem dX7_putsBack_18 : decode cX7_putsBack 18 = .ok (.iaload, 1) := by decide +kernel
theorem dX7_putsBack_19 : decode cX7_putsBack 19 = .ok (.iastore, 1) := by decide +kernel
theorem dX7_putsBack_20 : decode cX7_putsBack 20 = .ok (.iinc 1 1, 3) := by decide +kernel
theorem dX7_putsBack_23 : decode cX7_putsBack 23 = .ok (.goto (-21), 3) := by decide +kernel
theorem dX7_putsBack_26 : decode cX7_putsBack 26 = .ok (.return_, 1) := by decide +kernel
theorem dX7_coughsAll_0 : decode cX7_coughsAll 0 = .ok (.iconst 0, 1) := by decide +kernel
theorem dX7_coughsAll_1 : decode cX7_coughsAll 1 = .ok (.istore_n 1, 1) := by decide +kernel
theorem dX7_coughsAll_2 : decode cX7_coughsAll 2 = .ok (.iconst 0, 1) := by decide +kernel
theorem dX7_coughsAll_3 : decode cX7_coughsAll 3 = .ok (.istore_n 2, 1) := by decide +kernel
theorem dX7_coughsAll_4 : decode cX7_coughsAll 4 = .ok (.iload_n 2, 1) := by decide +kernel
theorem dX7_coughsAll_5 : decode cX7_coughsAll 5 = .ok (.aload_n 0, 1) := by decide +kernel
theorem dX7_coughsAll_6 : decode cX7_coughsAll 6 = .ok (.getfield 9, 3) := by decide +kernel
theorem dX7_coughsAll_9 : decode cX7_coughsAll 9 = .ok (.iconst 1, 1) := by decide +kernel
theorem dX7_coughsAll_10 : decode cX7_coughsAll 10 = .ok (.iaload, 1) := by decide +kernel
theorem dX7_coughsAll_11 : decode cX7_coughsAll 11 = .ok (.if_icmp .ge 18, 3) := by decide +kernel
theorem dX7_coughsAll_14 : decode cX7_coughsAll 14 = .ok (.iload_n 1, 1) := by decide +kernel
theorem dX7_coughsAll_15 : decode cX7_coughsAll 15 = .ok (.aload_n 0, 1) := by decide +kernel
theorem dX7_coughsAll_16 : decode cX7_coughsAll 16 = .ok (.iload_n 2, 1) := by decide +kernel
theorem dX7_coughsAll_17 : decode cX7_coughsAll 17 = .ok (.iconst 5, 1) := by decide +kernel
theorem dX7_coughsAll_18 : decode cX7_coughsAll 18 = .ok (.invokevirtual 80, 3) := by decide +kernel
theorem dX7_coughsAll_21 : decode cX7_coughsAll 21 = .ok (.iadd, 1) := by decide +kernel
theorem dX7_coughsAll_22 : decode cX7_coughsAll 22 = .ok (.istore_n 1, 1) := by decide +kernel
theorem dX7_coughsAll_23 : decode cX7_coughsAll 23 = .ok (.iinc 2 1, 3) := by decide +kernel
theorem dX7_coughsAll_26 : decode cX7_coughsAll 26 = .ok (.goto (-22), 3) := by decide +kernel
theorem dX7_coughsAll_29 : decode cX7_coughsAll 29 = .ok (.iload_n 1, 1) := by decide +kernel
theorem dX7_coughsAll_30 : decode cX7_coughsAll 30 = .ok (.ireturn, 1) := by decide +kernel
theorem dX7_mostItch_0 : decode cX7_mostItch 0 = .ok (.iconst 0, 1) := by decide +kernel
theorem dX7_mostItch_1 : decode cX7_mostItch 1 = .ok (.istore_n 1, 1) := by decide +kernel
theorem dX7_mostItch_2 : decode cX7_mostItch 2 = .ok (.iconst 0, 1) := by decide +kernel
theorem dX7_mostItch_3 : decode cX7_mostItch 3 = .ok (.istore_n 2, 1) := by decide +kernel
theorem dX7_mostItch_4 : decode cX7_mostItch 4 = .ok (.iload_n 2, 1) := by decide +kernel
theorem dX7_mostItch_5 : decode cX7_mostItch 5 = .ok (.aload_n 0, 1) := by decide +kernel
theorem dX7_mostItch_6 : decode cX7_mostItch 6 = .ok (.getfield 9, 3) := by decide +kernel
theorem dX7_mostItch_9 : decode cX7_mostItch 9 = .ok (.iconst 1, 1) := by decide +kernel
theorem dX7_mostItch_10 : decode cX7_mostItch 10 = .ok (.iaload, 1) := by decide +kernel
theorem dX7_mostItch_11 : decode cX7_mostItch 11 = .ok (.if_icmp .ge 30, 3) := by decide +kernel
theorem dX7_mostItch_14 : decode cX7_mostItch 14 = .ok (.aload_n 0, 1) := by decide +kernel
theorem dX7_mostItch_15 : decode cX7_mostItch 15 = .ok (.iload_n 2, 1) := by decide +kernel
theorem dX7_mostItch_16 : decode cX7_mostItch 16 = .ok (.iconst 3, 1) := by decide +kernel
theorem dX7_mostItch_17 : decode cX7_mostItch 17 = .ok (.invokevirtual 80, 3) := by decide +kernel
theorem dX7_mostItch_20 : decode cX7_mostItch 20 = .ok (.iload_n 1, 1) := by decide +kernel
theorem dX7_mostItch_21 : decode cX7_mostItch 21 = .ok (.if_icmp .le 12, 3) := by decide +kernel
theorem dX7_mostItch_24 : decode cX7_mostItch 24 = .ok (.aload_n 0, 1) := by decide +kernel
theorem dX7_mostItch_25 : decode cX7_mostItch 25 = .ok (.iload_n 2, 1) := by decide +kernel
theorem dX7_mostItch_26 : decode cX7_mostItch 26 = .ok (.iconst 3, 1) := by decide +kernel
theorem dX7_mostItch_27 : decode cX7_mostItch 27 = .ok (.invokevirtual 80, 3) := by decide +kernel
theorem dX7_mostItch_30 : decode cX7_mostItch 30 = .ok (.goto 4, 3) := by decide +kernel
theorem dX7_mostItch_33 : decode cX7_mostItch 33 = .ok (.iload_n 1, 1) := by decide +kernel
theorem dX7_mostItch_34 : decode cX7_mostItch 34 = .ok (.istore_n 1, 1) := by decide +kernel
theorem dX7_mostItch_35 : decode cX7_mostItch 35 = .ok (.iinc 2 1, 3) := by decide +kernel
theorem dX7_mostItch_38 : decode cX7_mostItch 38 = .ok (.goto (-34), 3) := by decide +kernel
theorem dX7_mostItch_41 : decode cX7_mostItch 41 = .ok (.iload_n 1, 1) := by decide +kernel
theorem dX7_mostItch_42 : decode cX7_mostItch 42 = .ok (.ireturn, 1) := by decide +kernel
theorem dX7_behindAll_0 : decode cX7_behindAll 0 = .ok (.aload_n 0, 1) := by decide +kernel
theorem dX7_behindAll_1 : decode cX7_behindAll 1 = .ok (.iload_n 1, 1) := by decide +kernel
theorem dX7_behindAll_2 : decode cX7_behindAll 2 = .ok (.invokevirtual 156, 3) := by decide +kernel
theorem dX7_behindAll_5 : decode cX7_behindAll 5 = .ok (.istore_n 3, 1) := by decide +kernel
theorem dX7_behindAll_6 : decode cX7_behindAll 6 = .ok (.iload_n 2, 1) := by decide +kernel
theorem dX7_behindAll_7 : decode cX7_behindAll 7 = .ok (.ifCond .ne 10, 3) := by decide +kernel
theorem dX7_behindAll_10 : decode cX7_behindAll 10 = .ok (.aload_n 0, 1) := by decide +kernel
theorem dX7_behindAll_11 : decode cX7_behindAll 11 = .ok (.invokevirtual 159, 3) := by decide +kernel
theorem dX7_behindAll_14 : decode cX7_behindAll 14 = .ok (.goto 21, 3) := by decide +kernel
theorem dX7_behindAll_17 : decode cX7_behindAll 17 = .ok (.iload_n 2, 1) := by decide +kernel
theorem dX7_behindAll_18 : decode cX7_behindAll 18 = .ok (.iconst 1, 1) := by decide +kernel
theorem dX7_behindAll_19 : decode cX7_behindAll 19 = .ok (.if_icmp .ne 12, 3) := by decide +kernel
theorem dX7_behindAll_22 : decode cX7_behindAll 22 = .ok (.aload_n 0, 1) := by decide +kernel
theorem dX7_behindAll_23 : decode cX7_behindAll 23 = .ok (.getfield 9, 3) := by decide +kernel
theorem dX7_behindAll_26 : decode cX7_behindAll 26 = .ok (.iconst 4, 1) := by decide +kernel
theorem dX7_behindAll_27 : decode cX7_behindAll 27 = .ok (.iaload, 1) := by decide +kernel
theorem dX7_behindAll_28 : decode cX7_behindAll 28 = .ok (.goto 7, 3) := by decide +kernel
theorem dX7_behindAll_31 : decode cX7_behindAll 31 = .ok (.aload_n 0, 1) := by decide +kernel
theorem dX7_behindAll_32 : decode cX7_behindAll 32 = .ok (.invokevirtual 162, 3) := by decide +kernel
theorem dX7_behindAll_35 : decode cX7_behindAll 35 = .ok (.istore 4, 2) := by decide +kernel
theorem dX7_behindAll_37 : decode cX7_behindAll 37 = .ok (.aload_n 0, 1) := by decide +kernel
theorem dX7_behindAll_38 : decode cX7_behindAll 38 = .ok (.invokevirtual 165, 3) := by decide +kernel
theorem dX7_behindAll_41 : decode cX7_behindAll 41 = .ok (.iload 4, 2) := by decide +kernel
theorem dX7_behindAll_43 : decode cX7_behindAll 43 = .ok (.ireturn, 1) := by decide +kernel
theorem dX7_behind_0 : decode cX7_behind 0 = .ok (.iload_n 1, 1) := by decide +kernel
theorem dX7_behind_1 : decode cX7_behind 1 = .ok (.iconst 0, 1) := by decide +kernel
theorem dX7_behind_2 : decode cX7_behind 2 = .ok (.sipush 200, 3) := by decide +kernel
theorem dX7_behind_5 : decode cX7_behind 5 = .ok (.invokestatic 76, 3) := by decide +kernel
theorem dX7_behind_8 : decode cX7_behind 8 = .ok (.ifCond .eq 12, 3) := by decide +kernel
theorem dX7_behind_11 : decode cX7_behind 11 = .ok (.iload_n 2, 1) := by decide +kernel
theorem dX7_behind_12 : decode cX7_behind 12 = .ok (.iconst 0, 1) := by decide +kernel
theorem dX7_behind_13 : decode cX7_behind 13 = .ok (.iconst 2, 1) := by decide +kernel
theorem dX7_behind_14 : decode cX7_behind 14 = .ok (.invokestatic 76, 3) := by decide +kernel
theorem dX7_behind_17 : decode cX7_behind 17 = .ok (.ifCond .ne 6, 3) := by decide +kernel
theorem dX7_behind_20 : decode cX7_behind 20 = .ok (.ldc 92, 2) := by decide +kernel
theorem dX7_behind_22 : decode cX7_behind 22 = .ok (.ireturn, 1) := by decide +kernel
theorem dX7_behind_23 : decode cX7_behind 23 = .ok (.aload_n 0, 1) := by decide +kernel
theorem dX7_behind_24 : decode cX7_behind 24 = .ok (.invokevirtual 168, 3) := by decide +kernel
theorem dX7_behind_27 : decode cX7_behind 27 = .ok (.aload_n 0, 1) := by decide +kernel
theorem dX7_behind_28 : decode cX7_behind 28 = .ok (.iload_n 1, 1) := by decide +kernel
theorem dX7_behind_29 : decode cX7_behind 29 = .ok (.iload_n 2, 1) := by decide +kernel
theorem dX7_behind_30 : decode cX7_behind 30 = .ok (.invokevirtual 171, 3) := by decide +kernel
theorem dX7_behind_33 : decode cX7_behind 33 = .ok (.ireturn, 1) := by decide +kernel
theorem dX7_first_0 : decode cX7_first 0 = .ok (.aload_n 0, 1) := by decide +kernel
theorem dX7_first_1 : decode cX7_first 1 = .ok (.invokevirtual 168, 3) := by decide +kernel
theorem dX7_first_4 : decode cX7_first 4 = .ok (.iconst 1, 1) := by decide +kernel
theorem dX7_first_5 : decode cX7_first 5 = .ok (.istore_n 1, 1) := by decide +kernel
theorem dX7_first_6 : decode cX7_first 6 = .ok (.iload_n 1, 1) := by decide +kernel
theorem dX7_first_7 : decode cX7_first 7 = .ok (.sipush 200, 3) := by decide +kernel
theorem dX7_first_10 : decode cX7_first 10 = .ok (.if_icmp .gt 16, 3) := by decide +kernel
theorem dX7_first_13 : decode cX7_first 13 = .ok (.aload_n 0, 1) := by decide +kernel
theorem dX7_first_14 : decode cX7_first 14 = .ok (.invokevirtual 152, 3) := by decide +kernel
theorem dX7_first_17 : decode cX7_first 17 = .ok (.ifCond .ne 9, 3) := by decide +kernel
theorem dX7_first_20 : decode cX7_first 20 = .ok (.iinc 1 1, 3) := by decide +kernel
theorem dX7_first_23 : decode cX7_first 23 = .ok (.goto (-17), 3) := by decide +kernel
theorem dX7_first_26 : decode cX7_first 26 = .ok (.aload_n 0, 1) := by decide +kernel
theorem dX7_first_27 : decode cX7_first 27 = .ok (.invokevirtual 165, 3) := by decide +kernel
theorem dX7_first_30 : decode cX7_first 30 = .ok (.iload_n 1, 1) := by decide +kernel
theorem dX7_first_31 : decode cX7_first 31 = .ok (.sipush 200, 3) := by decide +kernel
theorem dX7_first_34 : decode cX7_first 34 = .ok (.if_icmp .gt 7, 3) := by decide +kernel
theorem dX7_first_37 : decode cX7_first 37 = .ok (.iload_n 1, 1) := by decide +kernel
theorem dX7_first_38 : decode cX7_first 38 = .ok (.goto 5, 3) := by decide +kernel
theorem dX7_first_41 : decode cX7_first 41 = .ok (.ldc 75, 2) := by decide +kernel
theorem dX7_first_43 : decode cX7_first 43 = .ok (.ireturn, 1) := by decide +kernel
theorem dX7_rest_0 : decode cX7_rest 0 = .ok (.iload_n 1, 1) := by decide +kernel
theorem dX7_rest_1 : decode cX7_rest 1 = .ok (.iconst 1, 1) := by decide +kernel
theorem dX7_rest_2 : decode cX7_rest 2 = .ok (.bipush 60, 2) := by decide +kernel
theorem dX7_rest_4 : decode cX7_rest 4 = .ok (.invokestatic 76, 3) := by decide +kernel
theorem dX7_rest_7 : decode cX7_rest 7 = .ok (.ifCond .ne 6, 3) := by decide +kernel
theorem dX7_rest_10 : decode cX7_rest 10 = .ok (.ldc 92, 2) := by decide +kernel
theorem dX7_rest_12 : decode cX7_rest 12 = .ok (.ireturn, 1) := by decide +kernel
theorem dX7_rest_13 : decode cX7_rest 13 = .ok (.aload_n 0, 1) := by decide +kernel
theorem dX7_rest_14 : decode cX7_rest 14 = .ok (.invokevirtual 168, 3) := by decide +kernel
theorem dX7_rest_17 : decode cX7_rest 17 = .ok (.iconst 0, 1) := by decide +kernel
theorem dX7_rest_18 : decode cX7_rest 18 = .ok (.istore_n 2, 1) := by decide +kernel
theorem dX7_rest_19 : decode cX7_rest 19 = .ok (.iconst 0, 1) := by decide +kernel
theorem dX7_rest_20 : decode cX7_rest 20 = .ok (.istore_n 3, 1) := by decide +kernel
theorem dX7_rest_21 : decode cX7_rest 21 = .ok (.iconst 0, 1) := by decide +kernel
theorem dX7_rest_22 : decode cX7_rest 22 = .ok (.istore 4, 2) := by decide +kernel
theorem dX7_rest_24 : decode cX7_rest 24 = .ok (.iload 4, 2) := by decide +kernel
theorem dX7_rest_26 : decode cX7_rest 26 = .ok (.aload_n 0, 1) := by decide +kernel
theorem dX7_rest_27 : decode cX7_rest 27 = .ok (.getfield 9, 3) := by decide +kernel
theorem dX7_rest_30 : decode cX7_rest 30 = .ok (.iconst 2, 1) := by decide +kernel
theorem dX7_rest_31 : decode cX7_rest 31 = .ok (.iaload, 1) := by decide +kernel
theorem dX7_rest_32 : decode cX7_rest 32 = .ok (.if_icmp .ge 59, 3) := by decide +kernel
theorem dX7_rest_35 : decode cX7_rest 35 = .ok (.aload_n 0, 1) := by decide +kernel
theorem dX7_rest_36 : decode cX7_rest 36 = .ok (.getfield 9, 3) := by decide +kernel
theorem dX7_rest_39 : decode cX7_rest 39 = .ok (.bipush 9, 2) := by decide +kernel
theorem dX7_rest_41 : decode cX7_rest 41 = .ok (.iload 4, 2) := by decide +kernel
theorem dX7_rest_43 : decode cX7_rest 43 = .ok (.iadd, 1) := by decide +kernel
theorem dX7_rest_44 : decode cX7_rest 44 = .ok (.iconst 0, 1) := by decide +kernel
theorem dX7_rest_45 : decode cX7_rest 45 = .ok (.iastore, 1) := by decide +kernel
theorem dX7_rest_46 : decode cX7_rest 46 = .ok (.aload_n 0, 1) := by decide +kernel
theorem dX7_rest_47 : decode cX7_rest 47 = .ok (.iload_n 1, 1) := by decide +kernel
theorem dX7_rest_48 : decode cX7_rest 48 = .ok (.iconst 1, 1) := by decide +kernel
theorem dX7_rest_49 : decode cX7_rest 49 = .ok (.invokevirtual 171, 3) := by decide +kernel
theorem dX7_rest_52 : decode cX7_rest 52 = .ok (.istore 5, 2) := by decide +kernel
theorem dX7_rest_54 : decode cX7_rest 54 = .ok (.iload 4, 2) := by decide +kernel
theorem dX7_rest_56 : decode cX7_rest 56 = .ok (.ifCond .eq 9, 3) := by decide +kernel
theorem dX7_rest_59 : decode cX7_rest 59 = .ok (.iload 5, 2) := by decide +kernel
theorem dX7_rest_61 : decode cX7_rest 61 = .ok (.iload_n 3, 1) := by decide +kernel
theorem dX7_rest_62 : decode cX7_rest 62 = .ok (.if_icmp .ge 8, 3) := by decide +kernel
theorem dX7_rest_65 : decode cX7_rest 65 = .ok (.iload 4, 2) := by decide +kernel
theorem dX7_rest_67 : decode cX7_rest 67 = .ok (.goto 4, 3) := by decide +kernel
theorem dX7_rest_70 : decode cX7_rest 70 = .ok (.iload_n 2, 1) := by decide +kernel
theorem dX7_rest_71 : decode cX7_rest 71 = .ok (.istore_n 2, 1) := by decide +kernel
theorem dX7_rest_72 : decode cX7_rest 72 = .ok (.iload_n 2, 1) := by decide +kernel
theorem dX7_rest_73 : decode cX7_rest 73 = .ok (.iload 4, 2) := by decide +kernel
theorem dX7_rest_75 : decode cX7_rest 75 = .ok (.if_icmp .ne 8, 3) := by decide +kernel
theorem dX7_rest_78 : decode cX7_rest 78 = .ok (.iload 5, 2) := by decide +kernel
theorem dX7_rest_80 : decode cX7_rest 80 = .ok (.goto 4, 3) := by decide +kernel
theorem dX7_rest_83 : decode cX7_rest 83 = .ok (.iload_n 3, 1) := by decide +kernel
theorem dX7_rest_84 : decode cX7_rest 84 = .ok (.istore_n 3, 1) := by decide +kernel
theorem dX7_rest_85 : decode cX7_rest 85 = .ok (.iinc 4 1, 3) := by decide +kernel
theorem dX7_rest_88 : decode cX7_rest 88 = .ok (.goto (-64), 3) := by decide +kernel
theorem dX7_rest_91 : decode cX7_rest 91 = .ok (.iload_n 2, 1) := by decide +kernel
theorem dX7_rest_92 : decode cX7_rest 92 = .ok (.ireturn, 1) := by decide +kernel
theorem dX7_change_0 : decode cX7_change 0 = .ok (.iload_n 1, 1) := by decide +kernel
theorem dX7_change_1 : decode cX7_change 1 = .ok (.iconst 1, 1) := by decide +kernel
theorem dX7_change_2 : decode cX7_change 2 = .ok (.bipush 40, 2) := by decide +kernel
theorem dX7_change_4 : decode cX7_change 4 = .ok (.invokestatic 76, 3) := by decide +kernel
theorem dX7_change_7 : decode cX7_change 7 = .ok (.ifCond .ne 6, 3) := by decide +kernel
theorem dX7_change_10 : decode cX7_change 10 = .ok (.ldc 92, 2) := by decide +kernel
theorem dX7_change_12 : decode cX7_change 12 = .ok (.ireturn, 1) := by decide +kernel
theorem dX7_change_13 : decode cX7_change 13 = .ok (.aload_n 0, 1) := by decide +kernel
theorem dX7_change_14 : decode cX7_change 14 = .ok (.invokevirtual 168, 3) := by decide +kernel
theorem dX7_change_17 : decode cX7_change 17 = .ok (.ldc 75, 2) := by decide +kernel
theorem dX7_change_19 : decode cX7_change 19 = .ok (.istore_n 2, 1) := by decide +kernel
theorem dX7_change_20 : decode cX7_change 20 = .ok (.iconst 0, 1) := by decide +kernel
theorem dX7_change_21 : decode cX7_change 21 = .ok (.istore_n 3, 1) := by decide +kernel
theorem dX7_change_22 : decode cX7_change 22 = .ok (.iconst 0, 1) := by decide +kernel
theorem dX7_change_23 : decode cX7_change 23 = .ok (.istore 4, 2) := by decide +kernel
theorem dX7_change_25 : decode cX7_change 25 = .ok (.iload 4, 2) := by decide +kernel
theorem dX7_change_27 : decode cX7_change 27 = .ok (.aload_n 0, 1) := by decide +kernel
theorem dX7_change_28 : decode cX7_change 28 = .ok (.getfield 9, 3) := by decide +kernel
theorem dX7_change_31 : decode cX7_change 31 = .ok (.iconst 1, 1) := by decide +kernel
theorem dX7_change_32 : decode cX7_change 32 = .ok (.iaload, 1) := by decide +kernel
theorem dX7_change_33 : decode cX7_change 33 = .ok (.if_icmp .ge 121, 3) := by decide +kernel
theorem dX7_change_36 : decode cX7_change 36 = .ok (.iload 4, 2) := by decide +kernel
theorem dX7_change_38 : decode cX7_change 38 = .ok (.iconst 1, 1) := by decide +kernel
theorem dX7_change_39 : decode cX7_change 39 = .ok (.iadd, 1) := by decide +kernel
theorem dX7_change_40 : decode cX7_change 40 = .ok (.istore 5, 2) := by decide +kernel
theorem dX7_change_42 : decode cX7_change 42 = .ok (.iload 5, 2) := by decide +kernel
theorem dX7_change_44 : decode cX7_change 44 = .ok (.aload_n 0, 1) := by decide +kernel
theorem dX7_change_45 : decode cX7_change 45 = .ok (.getfield 9, 3) := by decide +kernel
theorem dX7_change_48 : decode cX7_change 48 = .ok (.iconst 1, 1) := by decide +kernel
theorem dX7_change_49 : decode cX7_change 49 = .ok (.iaload, 1) := by decide +kernel
theorem dX7_change_50 : decode cX7_change 50 = .ok (.if_icmp .ge 98, 3) := by decide +kernel
theorem dX7_change_53 : decode cX7_change 53 = .ok (.aload_n 0, 1) := by decide +kernel
theorem dX7_change_54 : decode cX7_change 54 = .ok (.iload 4, 2) := by decide +kernel
theorem dX7_change_56 : decode cX7_change 56 = .ok (.iconst 1, 1) := by decide +kernel
theorem dX7_change_57 : decode cX7_change 57 = .ok (.invokevirtual 80, 3) := by decide +kernel
theorem dX7_change_60 : decode cX7_change 60 = .ok (.istore 6, 2) := by decide +kernel
theorem dX7_change_62 : decode cX7_change 62 = .ok (.aload_n 0, 1) := by decide +kernel
theorem dX7_change_63 : decode cX7_change 63 = .ok (.iload 4, 2) := by decide +kernel
theorem dX7_change_65 : decode cX7_change 65 = .ok (.iconst 1, 1) := by decide +kernel
theorem dX7_change_66 : decode cX7_change 66 = .ok (.aload_n 0, 1) := by decide +kernel
theorem dX7_change_67 : decode cX7_change 67 = .ok (.iload 5, 2) := by decide +kernel
theorem dX7_change_69 : decode cX7_change 69 = .ok (.iconst 1, 1) := by decide +kernel
theorem dX7_change_70 : decode cX7_change 70 = .ok (.invokevirtual 80, 3) := by decide +kernel
theorem dX7_change_73 : decode cX7_change 73 = .ok (.invokevirtual 84, 3) := by decide +kernel
theorem dX7_change_76 : decode cX7_change 76 = .ok (.aload_n 0, 1) := by decide +kernel
theorem dX7_change_77 : decode cX7_change 77 = .ok (.iload 5, 2) := by decide +kernel
theorem dX7_change_79 : decode cX7_change 79 = .ok (.iconst 1, 1) := by decide +kernel
theorem dX7_change_80 : decode cX7_change 80 = .ok (.iload 6, 2) := by decide +kernel
theorem dX7_change_82 : decode cX7_change 82 = .ok (.invokevirtual 84, 3) := by decide +kernel
theorem dX7_change_85 : decode cX7_change 85 = .ok (.aload_n 0, 1) := by decide +kernel
theorem dX7_change_86 : decode cX7_change 86 = .ok (.iload_n 1, 1) := by decide +kernel
theorem dX7_change_87 : decode cX7_change 87 = .ok (.iconst 0, 1) := by decide +kernel
theorem dX7_change_88 : decode cX7_change 88 = .ok (.invokevirtual 171, 3) := by decide +kernel
theorem dX7_change_91 : decode cX7_change 91 = .ok (.istore 7, 2) := by decide +kernel
theorem dX7_change_93 : decode cX7_change 93 = .ok (.iload_n 2, 1) := by decide +kernel
theorem dX7_change_94 : decode cX7_change 94 = .ok (.ldc 75, 2) := by decide +kernel
theorem dX7_change_96 : decode cX7_change 96 = .ok (.if_icmp .eq 9, 3) := by decide +kernel
theorem dX7_change_99 : decode cX7_change 99 = .ok (.iload 7, 2) := by decide +kernel
theorem dX7_change_101 : decode cX7_change 101 = .ok (.iload_n 3, 1) := by decide +kernel
theorem dX7_change_102 : decode cX7_change 102 = .ok (.if_icmp .ge 7, 3) := by decide +kernel
theorem dX7_change_105 : decode cX7_change 105 = .ok (.iconst 1, 1) := by decide +kernel
theorem dX7_change_106 : decode cX7_change 106 = .ok (.goto 4, 3) := by decide +kernel
theorem dX7_change_109 : decode cX7_change 109 = .ok (.iconst 0, 1) := by decide +kernel
theorem dX7_change_110 : decode cX7_change 110 = .ok (.istore 8, 2) := by decide +kernel
theorem dX7_change_112 : decode cX7_change 112 = .ok (.iload 8, 2) := by decide +kernel
theorem dX7_change_114 : decode cX7_change 114 = .ok (.ifCond .eq 14, 3) := by decide +kernel
theorem dX7_change_117 : decode cX7_change 117 = .ok (.bipush 100, 2) := by decide +kernel
theorem dX7_change_119 : decode cX7_change 119 = .ok (.iload 4, 2) := by decide +kernel
theorem dX7_change_121 : decode cX7_change 121 = .ok (.imul, 1) := by decide +kernel
theorem dX7_change_122 : decode cX7_change 122 = .ok (.iload 5, 2) := by decide +kernel
theorem dX7_change_124 : decode cX7_change 124 = .ok (.iadd, 1) := by decide +kernel
theorem dX7_change_125 : decode cX7_change 125 = .ok (.goto 4, 3) := by decide +kernel
theorem dX7_change_128 : decode cX7_change 128 = .ok (.iload_n 2, 1) := by decide +kernel
theorem dX7_change_129 : decode cX7_change 129 = .ok (.istore_n 2, 1) := by decide +kernel
theorem dX7_change_130 : decode cX7_change 130 = .ok (.iload 8, 2) := by decide +kernel
theorem dX7_change_132 : decode cX7_change 132 = .ok (.ifCond .eq 8, 3) := by decide +kernel
theorem dX7_change_135 : decode cX7_change 135 = .ok (.iload 7, 2) := by decide +kernel
theorem dX7_change_137 : decode cX7_change 137 = .ok (.goto 4, 3) := by decide +kernel
theorem dX7_change_140 : decode cX7_change 140 = .ok (.iload_n 3, 1) := by decide +kernel
theorem dX7_change_141 : decode cX7_change 141 = .ok (.istore_n 3, 1) := by decide +kernel
theorem dX7_change_142 : decode cX7_change 142 = .ok (.iinc 5 1, 3) := by decide +kernel
theorem dX7_change_145 : decode cX7_change 145 = .ok (.goto (-103), 3) := by decide +kernel
theorem dX7_change_148 : decode cX7_change 148 = .ok (.iinc 4 1, 3) := by decide +kernel
theorem dX7_change_151 : decode cX7_change 151 = .ok (.goto (-126), 3) := by decide +kernel
theorem dX7_change_154 : decode cX7_change 154 = .ok (.iload_n 2, 1) := by decide +kernel
theorem dX7_change_155 : decode cX7_change 155 = .ok (.ireturn, 1) := by decide +kernel
theorem dX7_sweet_0 : decode cX7_sweet 0 = .ok (.iload_n 1, 1) := by decide +kernel
theorem dX7_sweet_1 : decode cX7_sweet 1 = .ok (.iconst 1, 1) := by decide +kernel
theorem dX7_sweet_2 : decode cX7_sweet 2 = .ok (.bipush 60, 2) := by decide +kernel
theorem dX7_sweet_4 : decode cX7_sweet 4 = .ok (.invokestatic 76, 3) := by decide +kernel
theorem dX7_sweet_7 : decode cX7_sweet 7 = .ok (.ifCond .ne 6, 3) := by decide +kernel
theorem dX7_sweet_10 : decode cX7_sweet 10 = .ok (.ldc 92, 2) := by decide +kernel
theorem dX7_sweet_12 : decode cX7_sweet 12 = .ok (.ireturn, 1) := by decide +kernel
theorem dX7_sweet_13 : decode cX7_sweet 13 = .ok (.aload_n 0, 1) := by decide +kernel
theorem dX7_sweet_14 : decode cX7_sweet 14 = .ok (.invokevirtual 168, 3) := by decide +kernel
theorem dX7_sweet_17 : decode cX7_sweet 17 = .ok (.ldc 75, 2) := by decide +kernel
theorem dX7_sweet_19 : decode cX7_sweet 19 = .ok (.istore_n 2, 1) := by decide +kernel
theorem dX7_sweet_20 : decode cX7_sweet 20 = .ok (.iconst 0, 1) := by decide +kernel
theorem dX7_sweet_21 : decode cX7_sweet 21 = .ok (.istore_n 3, 1) := by decide +kernel
theorem dX7_sweet_22 : decode cX7_sweet 22 = .ok (.iconst 0, 1) := by decide +kernel
theorem dX7_sweet_23 : decode cX7_sweet 23 = .ok (.istore 4, 2) := by decide +kernel
theorem dX7_sweet_25 : decode cX7_sweet 25 = .ok (.iload 4, 2) := by decide +kernel
theorem dX7_sweet_27 : decode cX7_sweet 27 = .ok (.aload_n 0, 1) := by decide +kernel
theorem dX7_sweet_28 : decode cX7_sweet 28 = .ok (.getfield 9, 3) := by decide +kernel
theorem dX7_sweet_31 : decode cX7_sweet 31 = .ok (.iconst 1, 1) := by decide +kernel
theorem dX7_sweet_32 : decode cX7_sweet 32 = .ok (.iaload, 1) := by decide +kernel
theorem dX7_sweet_33 : decode cX7_sweet 33 = .ok (.if_icmp .ge 69, 3) := by decide +kernel
theorem dX7_sweet_36 : decode cX7_sweet 36 = .ok (.aload_n 0, 1) := by decide +kernel
theorem dX7_sweet_37 : decode cX7_sweet 37 = .ok (.iload 4, 2) := by decide +kernel
theorem dX7_sweet_39 : decode cX7_sweet 39 = .ok (.iconst 4, 1) := by decide +kernel
theorem dX7_sweet_40 : decode cX7_sweet 40 = .ok (.bipush 40, 2) := by decide +kernel
theorem dX7_sweet_42 : decode cX7_sweet 42 = .ok (.invokevirtual 84, 3) := by decide +kernel
theorem dX7_sweet_45 : decode cX7_sweet 45 = .ok (.aload_n 0, 1) := by decide +kernel
theorem dX7_sweet_46 : decode cX7_sweet 46 = .ok (.iload_n 1, 1) := by decide +kernel
theorem dX7_sweet_47 : decode cX7_sweet 47 = .ok (.iconst 1, 1) := by decide +kernel
theorem dX7_sweet_48 : decode cX7_sweet 48 = .ok (.invokevirtual 171, 3) := by decide +kernel
theorem dX7_sweet_51 : decode cX7_sweet 51 = .ok (.istore 5, 2) := by decide +kernel
theorem dX7_sweet_53 : decode cX7_sweet 53 = .ok (.iload_n 2, 1) := by decide +kernel
theorem dX7_sweet_54 : decode cX7_sweet 54 = .ok (.ldc 75, 2) := by decide +kernel
theorem dX7_sweet_56 : decode cX7_sweet 56 = .ok (.if_icmp .eq 9, 3) := by decide +kernel
theorem dX7_sweet_59 : decode cX7_sweet 59 = .ok (.iload 5, 2) := by decide +kernel
theorem dX7_sweet_61 : decode cX7_sweet 61 = .ok (.iload_n 3, 1) := by decide +kernel
theorem dX7_sweet_62 : decode cX7_sweet 62 = .ok (.if_icmp .ge 7, 3) := by decide +kernel
theorem dX7_sweet_65 : decode cX7_sweet 65 = .ok (.iconst 1, 1) := by decide +kernel
theorem dX7_sweet_66 : decode cX7_sweet 66 = .ok (.goto 4, 3) := by decide +kernel
theorem dX7_sweet_69 : decode cX7_sweet 69 = .ok (.iconst 0, 1) := by decide +kernel
theorem dX7_sweet_70 : decode cX7_sweet 70 = .ok (.istore 6, 2) := by decide +kernel
theorem dX7_sweet_72 : decode cX7_sweet 72 = .ok (.iload 6, 2) := by decide +kernel
theorem dX7_sweet_74 : decode cX7_sweet 74 = .ok (.ifCond .eq 8, 3) := by decide +kernel
theorem dX7_sweet_77 : decode cX7_sweet 77 = .ok (.iload 4, 2) := by decide +kernel
theorem dX7_sweet_79 : decode cX7_sweet 79 = .ok (.goto 4, 3) := by decide +kernel
theorem dX7_sweet_82 : decode cX7_sweet 82 = .ok (.iload_n 2, 1) := by decide +kernel
theorem dX7_sweet_83 : decode cX7_sweet 83 = .ok (.istore_n 2, 1) := by decide +kernel
theorem dX7_sweet_84 : decode cX7_sweet 84 = .ok (.iload 6, 2) := by decide +kernel
theorem dX7_sweet_86 : decode cX7_sweet 86 = .ok (.ifCond .eq 8, 3) := by decide +kernel
theorem dX7_sweet_89 : decode cX7_sweet 89 = .ok (.iload 5, 2) := by decide +kernel
theorem dX7_sweet_91 : decode cX7_sweet 91 = .ok (.goto 4, 3) := by decide +kernel
theorem dX7_sweet_94 : decode cX7_sweet 94 = .ok (.iload_n 3, 1) := by decide +kernel
theorem dX7_sweet_95 : decode cX7_sweet 95 = .ok (.istore_n 3, 1) := by decide +kernel
theorem dX7_sweet_96 : decode cX7_sweet 96 = .ok (.iinc 4 1, 3) := by decide +kernel
theorem dX7_sweet_99 : decode cX7_sweet 99 = .ok (.goto (-74), 3) := by decide +kernel
theorem dX7_sweet_102 : decode cX7_sweet 102 = .ok (.iload_n 2, 1) := by decide +kernel
theorem dX7_sweet_103 : decode cX7_sweet 103 = .ok (.ireturn, 1) := by decide +kernel
theorem dX7_setOff_0 : decode cX7_setOff 0 = .ok (.aload_n 0, 1) := by decide +kernel
theorem dX7_setOff_1 : decode cX7_setOff 1 = .ok (.iload_n 1, 1) := by decide +kernel
theorem dX7_setOff_2 : decode cX7_setOff 2 = .ok (.invokevirtual 118, 3) := by decide +kernel
theorem dX7_setOff_5 : decode cX7_setOff 5 = .ok (.ifCond .eq 27, 3) := by decide +kernel
theorem dX7_setOff_8 : decode cX7_setOff 8 = .ok (.aload_n 0, 1) := by decide +kernel
theorem dX7_setOff_9 : decode cX7_setOff 9 = .ok (.iload_n 2, 1) := by decide +kernel
theorem dX7_setOff_10 : decode cX7_setOff 10 = .ok (.invokevirtual 118, 3) := by decide +kernel
theorem dX7_setOff_13 : decode cX7_setOff 13 = .ok (.ifCond .eq 19, 3) := by decide +kernel
theorem dX7_setOff_16 : decode cX7_setOff 16 = .ok (.iload_n 1, 1) := by decide +kernel
theorem dX7_setOff_17 : decode cX7_setOff 17 = .ok (.iload_n 2, 1) := by decide +kernel
theorem dX7_setOff_18 : decode cX7_setOff 18 = .ok (.if_icmp .eq 14, 3) := by decide +kernel
theorem dX7_setOff_21 : decode cX7_setOff 21 = .ok (.iload_n 3, 1) := by decide +kernel
theorem dX7_setOff_22 : decode cX7_setOff 22 = .ok (.iconst 1, 1) := by decide +kernel
theorem dX7_setOff_23 : decode cX7_setOff 23 = .ok (.sipush 200, 3) := by decide +kernel
theorem dX7_setOff_26 : decode cX7_setOff 26 = .ok (.invokestatic 76, 3) := by decide +kernel
theorem dX7_setOff_29 : decode cX7_setOff 29 = .ok (.ifCond .ne 6, 3) := by decide +kernel
theorem dX7_setOff_32 : decode cX7_setOff 32 = .ok (.ldc 92, 2) := by decide +kernel
theorem dX7_setOff_34 : decode cX7_setOff 34 = .ok (.ireturn, 1) := by decide +kernel
theorem dX7_setOff_35 : decode cX7_setOff 35 = .ok (.aload_n 0, 1) := by decide +kernel
theorem dX7_setOff_36 : decode cX7_setOff 36 = .ok (.invokevirtual 168, 3) := by decide +kernel
theorem dX7_setOff_39 : decode cX7_setOff 39 = .ok (.iconst 0, 1) := by decide +kernel
theorem dX7_setOff_40 : decode cX7_setOff 40 = .ok (.istore 4, 2) := by decide +kernel
theorem dX7_setOff_42 : decode cX7_setOff 42 = .ok (.iconst 0, 1) := by decide +kernel
theorem dX7_setOff_43 : decode cX7_setOff 43 = .ok (.istore 5, 2) := by decide +kernel
theorem dX7_setOff_45 : decode cX7_setOff 45 = .ok (.iload 5, 2) := by decide +kernel
theorem dX7_setOff_47 : decode cX7_setOff 47 = .ok (.iload_n 3, 1) := by decide +kernel
theorem dX7_setOff_48 : decode cX7_setOff 48 = .ok (.if_icmp .ge 43, 3) := by decide +kernel
theorem dX7_setOff_51 : decode cX7_setOff 51 = .ok (.aload_n 0, 1) := by decide +kernel
theorem dX7_setOff_52 : decode cX7_setOff 52 = .ok (.getfield 9, 3) := by decide +kernel
theorem dX7_setOff_55 : decode cX7_setOff 55 = .ok (.iconst 5, 1) := by decide +kernel
theorem dX7_setOff_56 : decode cX7_setOff 56 = .ok (.iaload, 1) := by decide +kernel
theorem dX7_setOff_57 : decode cX7_setOff 57 = .ok (.iload_n 2, 1) := by decide +kernel
theorem dX7_setOff_58 : decode cX7_setOff 58 = .ok (.ishr, 1) := by decide +kernel
theorem dX7_setOff_59 : decode cX7_setOff 59 = .ok (.iconst 1, 1) := by decide +kernel
theorem dX7_setOff_60 : decode cX7_setOff 60 = .ok (.iand, 1) := by decide +kernel
theorem dX7_setOff_61 : decode cX7_setOff 61 = .ok (.istore 6, 2) := by decide +kernel
theorem dX7_setOff_63 : decode cX7_setOff 63 = .ok (.aload_n 0, 1) := by decide +kernel
theorem dX7_setOff_64 : decode cX7_setOff 64 = .ok (.invokevirtual 152, 3) := by decide +kernel
theorem dX7_setOff_67 : decode cX7_setOff 67 = .ok (.istore 7, 2) := by decide +kernel
theorem dX7_setOff_69 : decode cX7_setOff 69 = .ok (.iload 4, 2) := by decide +kernel
theorem dX7_setOff_71 : decode cX7_setOff 71 = .ok (.aload_n 0, 1) := by decide +kernel
theorem dX7_setOff_72 : decode cX7_setOff 72 = .ok (.getfield 9, 3) := by decide +kernel
theorem dX7_setOff_75 : decode cX7_setOff 75 = .ok (.iconst 5, 1) := by decide +kernel
theorem dX7_setOff_76 : decode cX7_setOff 76 = .ok (.iaload, 1) := by decide +kernel
theorem dX7_setOff_77 : decode cX7_setOff 77 = .ok (.iload_n 1, 1) := by decide +kernel
theorem dX7_setOff_78 : decode cX7_setOff 78 = .ok (.ishr, 1) := by decide +kernel
theorem dX7_setOff_79 : decode cX7_setOff 79 = .ok (.iload 6, 2) := by decide +kernel
theorem dX7_setOff_81 : decode cX7_setOff 81 = .ok (.iand, 1) := by decide +kernel
theorem dX7_setOff_82 : decode cX7_setOff 82 = .ok (.iadd, 1) := by decide +kernel
theorem dX7_setOff_83 : decode cX7_setOff 83 = .ok (.istore 4, 2) := by decide +kernel
theorem dX7_setOff_85 : decode cX7_setOff 85 = .ok (.iinc 5 1, 3) := by decide +kernel
theorem dX7_setOff_88 : decode cX7_setOff 88 = .ok (.goto (-43), 3) := by decide +kernel
theorem dX7_setOff_91 : decode cX7_setOff 91 = .ok (.aload_n 0, 1) := by decide +kernel
theorem dX7_setOff_92 : decode cX7_setOff 92 = .ok (.invokevirtual 165, 3) := by decide +kernel
theorem dX7_setOff_95 : decode cX7_setOff 95 = .ok (.iload 4, 2) := by decide +kernel
theorem dX7_setOff_97 : decode cX7_setOff 97 = .ok (.ireturn, 1) := by decide +kernel
theorem dX7_loudest_0 : decode cX7_loudest 0 = .ok (.ldc 75, 2) := by decide +kernel
theorem dX7_loudest_2 : decode cX7_loudest 2 = .ok (.istore_n 1, 1) := by decide +kernel
theorem dX7_loudest_3 : decode cX7_loudest 3 = .ok (.iconst 0, 1) := by decide +kernel
theorem dX7_loudest_4 : decode cX7_loudest 4 = .ok (.istore_n 2, 1) := by decide +kernel
theorem dX7_loudest_5 : decode cX7_loudest 5 = .ok (.iload_n 2, 1) := by decide +kernel
theorem dX7_loudest_6 : decode cX7_loudest 6 = .ok (.aload_n 0, 1) := by decide +kernel
theorem dX7_loudest_7 : decode cX7_loudest 7 = .ok (.getfield 9, 3) := by decide +kernel
theorem dX7_loudest_10 : decode cX7_loudest 10 = .ok (.iconst 1, 1) := by decide +kernel
theorem dX7_loudest_11 : decode cX7_loudest 11 = .ok (.iaload, 1) := by decide +kernel
theorem dX7_loudest_12 : decode cX7_loudest 12 = .ok (.if_icmp .ge 36, 3) := by decide +kernel
theorem dX7_loudest_15 : decode cX7_loudest 15 = .ok (.iload_n 1, 1) := by decide +kernel
theorem dX7_loudest_16 : decode cX7_loudest 16 = .ok (.ldc 75, 2) := by decide +kernel
theorem dX7_loudest_18 : decode cX7_loudest 18 = .ok (.if_icmp .eq 18, 3) := by decide +kernel
theorem dX7_loudest_21 : decode cX7_loudest 21 = .ok (.aload_n 0, 1) := by decide +kernel
theorem dX7_loudest_22 : decode cX7_loudest 22 = .ok (.iload_n 2, 1) := by decide +kernel
theorem dX7_loudest_23 : decode cX7_loudest 23 = .ok (.iconst 5, 1) := by decide +kernel
theorem dX7_loudest_24 : decode cX7_loudest 24 = .ok (.invokevirtual 80, 3) := by decide +kernel
theorem dX7_loudest_27 : decode cX7_loudest 27 = .ok (.aload_n 0, 1) := by decide +kernel
theorem dX7_loudest_28 : decode cX7_loudest 28 = .ok (.iload_n 1, 1) := by decide +kernel
theorem dX7_loudest_29 : decode cX7_loudest 29 = .ok (.iconst 5, 1) := by decide +kernel
theorem dX7_loudest_30 : decode cX7_loudest 30 = .ok (.invokevirtual 80, 3) := by decide +kernel
theorem dX7_loudest_33 : decode cX7_loudest 33 = .ok (.if_icmp .le 7, 3) := by decide +kernel
theorem dX7_loudest_36 : decode cX7_loudest 36 = .ok (.iload_n 2, 1) := by decide +kernel
theorem dX7_loudest_37 : decode cX7_loudest 37 = .ok (.goto 4, 3) := by decide +kernel
theorem dX7_loudest_40 : decode cX7_loudest 40 = .ok (.iload_n 1, 1) := by decide +kernel
theorem dX7_loudest_41 : decode cX7_loudest 41 = .ok (.istore_n 1, 1) := by decide +kernel
theorem dX7_loudest_42 : decode cX7_loudest 42 = .ok (.iinc 2 1, 3) := by decide +kernel
theorem dX7_loudest_45 : decode cX7_loudest 45 = .ok (.goto (-40), 3) := by decide +kernel
theorem dX7_loudest_48 : decode cX7_loudest 48 = .ok (.iload_n 1, 1) := by decide +kernel
theorem dX7_loudest_49 : decode cX7_loudest 49 = .ok (.ireturn, 1) := by decide +kernel
theorem dX7_otherwise_0 : decode cX7_otherwise 0 = .ok (.aload_n 0, 1) := by decide +kernel
theorem dX7_otherwise_1 : decode cX7_otherwise 1 = .ok (.iload_n 2, 1) := by decide +kernel
theorem dX7_otherwise_2 : decode cX7_otherwise 2 = .ok (.iconst 0, 1) := by decide +kernel
theorem dX7_otherwise_3 : decode cX7_otherwise 3 = .ok (.iload_n 3, 1) := by decide +kernel
theorem dX7_otherwise_4 : decode cX7_otherwise 4 = .ok (.invokevirtual 84, 3) := by decide +kernel
theorem dX7_otherwise_7 : decode cX7_otherwise 7 = .ok (.iconst 0, 1) := by decide +kernel
theorem dX7_otherwise_8 : decode cX7_otherwise 8 = .ok (.istore 4, 2) := by decide +kernel
theorem dX7_otherwise_10 : decode cX7_otherwise 10 = .ok (.iconst 0, 1) := by decide +kernel
theorem dX7_otherwise_11 : decode cX7_otherwise 11 = .ok (.istore 5, 2) := by decide +kernel
theorem dX7_otherwise_13 : decode cX7_otherwise 13 = .ok (.iload 5, 2) := by decide +kernel
theorem dX7_otherwise_15 : decode cX7_otherwise 15 = .ok (.aload_n 0, 1) := by decide +kernel
theorem dX7_otherwise_16 : decode cX7_otherwise 16 = .ok (.getfield 51, 3) := by decide +kernel
theorem dX7_otherwise_19 : decode cX7_otherwise 19 = .ok (.iload_n 1, 1) := by decide +kernel
theorem dX7_otherwise_20 : decode cX7_otherwise 20 = .ok (.iaload, 1) := by decide +kernel
theorem dX7_otherwise_21 : decode cX7_otherwise 21 = .ok (.if_icmp .ge 78, 3) := by decide +kernel
theorem dX7_otherwise_24 : decode cX7_otherwise 24 = .ok (.aload_n 0, 1) := by decide +kernel
theorem dX7_otherwise_25 : decode cX7_otherwise 25 = .ok (.invokevirtual 152, 3) := by decide +kernel
theorem dX7_otherwise_28 : decode cX7_otherwise 28 = .ok (.istore 6, 2) := by decide +kernel
theorem dX7_otherwise_30 : decode cX7_otherwise 30 = .ok (.aload_n 0, 1) := by decide +kernel
theorem dX7_otherwise_31 : decode cX7_otherwise 31 = .ok (.getfield 54, 3) := by decide +kernel
theorem dX7_otherwise_34 : decode cX7_otherwise 34 = .ok (.bipush 24, 2) := by decide +kernel
theorem dX7_otherwise_36 : decode cX7_otherwise 36 = .ok (.iload_n 1, 1) := by decide +kernel
theorem dX7_otherwise_37 : decode cX7_otherwise 37 = .ok (.imul, 1) := by decide +kernel
theorem dX7_otherwise_38 : decode cX7_otherwise 38 = .ok (.iload 5, 2) := by decide +kernel
theorem dX7_otherwise_40 : decode cX7_otherwise 40 = .ok (.iadd, 1) := by decide +kernel
theorem dX7_otherwise_41 : decode cX7_otherwise 41 = .ok (.iaload, 1) := by decide +kernel
theorem dX7_otherwise_42 : decode cX7_otherwise 42 = .ok (.istore 7, 2) := by decide +kernel
theorem dX7_otherwise_44 : decode cX7_otherwise 44 = .ok (.iload 4, 2) := by decide +kernel
theorem dX7_otherwise_46 : decode cX7_otherwise 46 = .ok (.iload 7, 2) := by decide +kernel
theorem dX7_otherwise_48 : decode cX7_otherwise 48 = .ok (.ldc 75, 2) := by decide +kernel
theorem dX7_otherwise_50 : decode cX7_otherwise 50 = .ok (.if_icmp .eq 39, 3) := by decide +kernel
theorem dX7_otherwise_53 : decode cX7_otherwise 53 = .ok (.iload 7, 2) := by decide +kernel
theorem dX7_otherwise_55 : decode cX7_otherwise 55 = .ok (.ifCond .eq 7, 3) := by decide +kernel
theorem dX7_otherwise_58 : decode cX7_otherwise 58 = .ok (.iconst 1, 1) := by decide +kernel
theorem dX7_otherwise_59 : decode cX7_otherwise 59 = .ok (.goto 4, 3) := by decide +kernel
theorem dX7_otherwise_62 : decode cX7_otherwise 62 = .ok (.iconst 0, 1) := by decide +kernel
theorem dX7_otherwise_63 : decode cX7_otherwise 63 = .ok (.aload_n 0, 1) := by decide +kernel
theorem dX7_otherwise_64 : decode cX7_otherwise 64 = .ok (.getfield 9, 3) := by decide +kernel
theorem dX7_otherwise_67 : decode cX7_otherwise 67 = .ok (.iconst 5, 1) := by decide +kernel
theorem dX7_otherwise_68 : decode cX7_otherwise 68 = .ok (.iaload, 1) := by decide +kernel
theorem dX7_otherwise_69 : decode cX7_otherwise 69 = .ok (.iload_n 2, 1) := by decide +kernel
theorem dX7_otherwise_70 : decode cX7_otherwise 70 = .ok (.ishr, 1) := by decide +kernel
theorem dX7_otherwise_71 : decode cX7_otherwise 71 = .ok (.iconst 1, 1) := by decide +kernel
theorem dX7_otherwise_72 : decode cX7_otherwise 72 = .ok (.iand, 1) := by decide +kernel
theorem dX7_otherwise_73 : decode cX7_otherwise 73 = .ok (.iconst 1, 1) := by decide +kernel
theorem dX7_otherwise_74 : decode cX7_otherwise 74 = .ok (.if_icmp .ne 7, 3) := by decide +kernel
theorem dX7_otherwise_77 : decode cX7_otherwise 77 = .ok (.iconst 1, 1) := by decide +kernel
theorem dX7_otherwise_78 : decode cX7_otherwise 78 = .ok (.goto 4, 3) := by decide +kernel
theorem dX7_otherwise_81 : decode cX7_otherwise 81 = .ok (.iconst 0, 1) := by decide +kernel
theorem dX7_otherwise_82 : decode cX7_otherwise 82 = .ok (.if_icmp .eq 7, 3) := by decide +kernel
theorem dX7_otherwise_85 : decode cX7_otherwise 85 = .ok (.iconst 1, 1) := by decide +kernel
theorem dX7_otherwise_86 : decode cX7_otherwise 86 = .ok (.goto 4, 3) := by decide +kernel
theorem dX7_otherwise_89 : decode cX7_otherwise 89 = .ok (.iconst 0, 1) := by decide +kernel
theorem dX7_otherwise_90 : decode cX7_otherwise 90 = .ok (.iadd, 1) := by decide +kernel
theorem dX7_otherwise_91 : decode cX7_otherwise 91 = .ok (.istore 4, 2) := by decide +kernel
theorem dX7_otherwise_93 : decode cX7_otherwise 93 = .ok (.iinc 5 1, 3) := by decide +kernel
theorem dX7_otherwise_96 : decode cX7_otherwise 96 = .ok (.goto (-83), 3) := by decide +kernel
theorem dX7_otherwise_99 : decode cX7_otherwise 99 = .ok (.aload_n 0, 1) := by decide +kernel
theorem dX7_otherwise_100 : decode cX7_otherwise 100 = .ok (.invokevirtual 165, 3) := by decide +kernel
theorem dX7_otherwise_103 : decode cX7_otherwise 103 = .ok (.iload 4, 2) := by decide +kernel
theorem dX7_otherwise_105 : decode cX7_otherwise 105 = .ok (.ireturn, 1) := by decide +kernel
theorem dX7_toldBy_0 : decode cX7_toldBy 0 = .ok (.iload_n 1, 1) := by decide +kernel
theorem dX7_toldBy_1 : decode cX7_toldBy 1 = .ok (.invokestatic 174, 3) := by decide +kernel
theorem dX7_toldBy_4 : decode cX7_toldBy 4 = .ok (.ifCond .eq 20, 3) := by decide +kernel
theorem dX7_toldBy_7 : decode cX7_toldBy 7 = .ok (.aload_n 0, 1) := by decide +kernel
theorem dX7_toldBy_8 : decode cX7_toldBy 8 = .ok (.iload_n 2, 1) := by decide +kernel
theorem dX7_toldBy_9 : decode cX7_toldBy 9 = .ok (.invokevirtual 118, 3) := by decide +kernel
theorem dX7_toldBy_12 : decode cX7_toldBy 12 = .ok (.ifCond .eq 12, 3) := by decide +kernel
theorem dX7_toldBy_15 : decode cX7_toldBy 15 = .ok (.iload_n 3, 1) := by decide +kernel
theorem dX7_toldBy_16 : decode cX7_toldBy 16 = .ok (.iconst 0, 1) := by decide +kernel
theorem dX7_toldBy_17 : decode cX7_toldBy 17 = .ok (.iconst 1, 1) := by decide +kernel
theorem dX7_toldBy_18 : decode cX7_toldBy 18 = .ok (.invokestatic 76, 3) := by decide +kernel
theorem dX7_toldBy_21 : decode cX7_toldBy 21 = .ok (.ifCond .ne 6, 3) := by decide +kernel
theorem dX7_toldBy_24 : decode cX7_toldBy 24 = .ok (.ldc 92, 2) := by decide +kernel
theorem dX7_toldBy_26 : decode cX7_toldBy 26 = .ok (.ireturn, 1) := by decide +kernel
theorem dX7_toldBy_27 : decode cX7_toldBy 27 = .ok (.aload_n 0, 1) := by decide +kernel
theorem dX7_toldBy_28 : decode cX7_toldBy 28 = .ok (.getfield 48, 3) := by decide +kernel
theorem dX7_toldBy_31 : decode cX7_toldBy 31 = .ok (.iload_n 1, 1) := by decide +kernel
theorem dX7_toldBy_32 : decode cX7_toldBy 32 = .ok (.iaload, 1) := by decide +kernel
theorem dX7_toldBy_33 : decode cX7_toldBy 33 = .ok (.ifCond .ge 6, 3) := by decide +kernel
theorem dX7_toldBy_36 : decode cX7_toldBy 36 = .ok (.ldc 177, 2) := by decide +kernel
theorem dX7_toldBy_38 : decode cX7_toldBy 38 = .ok (.ireturn, 1) := by decide +kernel
theorem dX7_toldBy_39 : decode cX7_toldBy 39 = .ok (.aload_n 0, 1) := by decide +kernel
theorem dX7_toldBy_40 : decode cX7_toldBy 40 = .ok (.invokevirtual 168, 3) := by decide +kernel
theorem dX7_toldBy_43 : decode cX7_toldBy 43 = .ok (.iconst 0, 1) := by decide +kernel
theorem dX7_toldBy_44 : decode cX7_toldBy 44 = .ok (.istore 4, 2) := by decide +kernel
theorem dX7_toldBy_46 : decode cX7_toldBy 46 = .ok (.aload_n 0, 1) := by decide +kernel
theorem dX7_toldBy_47 : decode cX7_toldBy 47 = .ok (.iload_n 1, 1) := by decide +kernel
theorem dX7_toldBy_48 : decode cX7_toldBy 48 = .ok (.iload_n 2, 1) := by decide +kernel
theorem dX7_toldBy_49 : decode cX7_toldBy 49 = .ok (.iconst 0, 1) := by decide +kernel
theorem dX7_toldBy_50 : decode cX7_toldBy 50 = .ok (.invokevirtual 178, 3) := by decide +kernel
theorem dX7_toldBy_53 : decode cX7_toldBy 53 = .ok (.istore 5, 2) := by decide +kernel
theorem dX7_toldBy_55 : decode cX7_toldBy 55 = .ok (.iconst 1, 1) := by decide +kernel
theorem dX7_toldBy_56 : decode cX7_toldBy 56 = .ok (.istore 6, 2) := by decide +kernel
theorem dX7_toldBy_58 : decode cX7_toldBy 58 = .ok (.iload 6, 2) := by decide +kernel
theorem dX7_toldBy_60 : decode cX7_toldBy 60 = .ok (.bipush 6, 2) := by decide +kernel
theorem dX7_toldBy_62 : decode cX7_toldBy 62 = .ok (.if_icmp .ge 51, 3) := by decide +kernel
theorem dX7_toldBy_65 : decode cX7_toldBy 65 = .ok (.aload_n 0, 1) := by decide +kernel
theorem dX7_toldBy_66 : decode cX7_toldBy 66 = .ok (.iload_n 1, 1) := by decide +kernel
theorem dX7_toldBy_67 : decode cX7_toldBy 67 = .ok (.iload_n 2, 1) := by decide +kernel
theorem dX7_toldBy_68 : decode cX7_toldBy 68 = .ok (.iload 6, 2) := by decide +kernel
theorem dX7_toldBy_70 : decode cX7_toldBy 70 = .ok (.invokevirtual 178, 3) := by decide +kernel
theorem dX7_toldBy_73 : decode cX7_toldBy 73 = .ok (.istore 7, 2) := by decide +kernel
theorem dX7_toldBy_75 : decode cX7_toldBy 75 = .ok (.iload 7, 2) := by decide +kernel
theorem dX7_toldBy_77 : decode cX7_toldBy 77 = .ok (.iload 5, 2) := by decide +kernel
theorem dX7_toldBy_79 : decode cX7_toldBy 79 = .ok (.if_icmp .ge 8, 3) := by decide +kernel
theorem dX7_toldBy_82 : decode cX7_toldBy 82 = .ok (.iload 6, 2) := by decide +kernel
theorem dX7_toldBy_84 : decode cX7_toldBy 84 = .ok (.goto 5, 3) := by decide +kernel
theorem dX7_toldBy_87 : decode cX7_toldBy 87 = .ok (.iload 4, 2) := by decide +kernel
theorem dX7_toldBy_89 : decode cX7_toldBy 89 = .ok (.istore 4, 2) := by decide +kernel
theorem dX7_toldBy_91 : decode cX7_toldBy 91 = .ok (.iload 7, 2) := by decide +kernel
theorem dX7_toldBy_93 : decode cX7_toldBy 93 = .ok (.iload 5, 2) := by decide +kernel
theorem dX7_toldBy_95 : decode cX7_toldBy 95 = .ok (.if_icmp .ge 8, 3) := by decide +kernel
theorem dX7_toldBy_98 : decode cX7_toldBy 98 = .ok (.iload 7, 2) := by decide +kernel
theorem dX7_toldBy_100 : decode cX7_toldBy 100 = .ok (.goto 5, 3) := by decide +kernel
theorem dX7_toldBy_103 : decode cX7_toldBy 103 = .ok (.iload 5, 2) := by decide +kernel
theorem dX7_toldBy_105 : decode cX7_toldBy 105 = .ok (.istore 5, 2) := by decide +kernel
theorem dX7_toldBy_107 : decode cX7_toldBy 107 = .ok (.iinc 6 1, 3) := by decide +kernel
theorem dX7_toldBy_110 : decode cX7_toldBy 110 = .ok (.goto (-52), 3) := by decide +kernel
theorem dX7_toldBy_113 : decode cX7_toldBy 113 = .ok (.iload_n 3, 1) := by decide +kernel
theorem dX7_toldBy_114 : decode cX7_toldBy 114 = .ok (.ifCond .ne 8, 3) := by decide +kernel
theorem dX7_toldBy_117 : decode cX7_toldBy 117 = .ok (.iload 4, 2) := by decide +kernel
theorem dX7_toldBy_119 : decode cX7_toldBy 119 = .ok (.goto 5, 3) := by decide +kernel
theorem dX7_toldBy_122 : decode cX7_toldBy 122 = .ok (.iload 5, 2) := by decide +kernel
theorem dX7_toldBy_124 : decode cX7_toldBy 124 = .ok (.ireturn, 1) := by decide +kernel
theorem dX7_fine_0 : decode cX7_fine 0 = .ok (.aload_n 0, 1) := by decide +kernel
theorem dX7_fine_1 : decode cX7_fine 1 = .ok (.iload_n 1, 1) := by decide +kernel
theorem dX7_fine_2 : decode cX7_fine 2 = .ok (.invokevirtual 118, 3) := by decide +kernel
theorem dX7_fine_5 : decode cX7_fine 5 = .ok (.ifCond .ne 6, 3) := by decide +kernel
theorem dX7_fine_8 : decode cX7_fine 8 = .ok (.ldc 92, 2) := by decide +kernel
theorem dX7_fine_10 : decode cX7_fine 10 = .ok (.ireturn, 1) := by decide +kernel
theorem dX7_fine_11 : decode cX7_fine 11 = .ok (.aload_n 0, 1) := by decide +kernel
theorem dX7_fine_12 : decode cX7_fine 12 = .ok (.iconst 2, 1) := by decide +kernel
theorem dX7_fine_13 : decode cX7_fine 13 = .ok (.invokevirtual 103, 3) := by decide +kernel
theorem dX7_fine_16 : decode cX7_fine 16 = .ok (.istore_n 2, 1) := by decide +kernel
theorem dX7_fine_17 : decode cX7_fine 17 = .ok (.aload_n 0, 1) := by decide +kernel
theorem dX7_fine_18 : decode cX7_fine 18 = .ok (.getfield 45, 3) := by decide +kernel
theorem dX7_fine_21 : decode cX7_fine 21 = .ok (.iconst 0, 1) := by decide +kernel
theorem dX7_fine_22 : decode cX7_fine 22 = .ok (.aload_n 0, 1) := by decide +kernel
theorem dX7_fine_23 : decode cX7_fine 23 = .ok (.iload_n 1, 1) := by decide +kernel
theorem dX7_fine_24 : decode cX7_fine 24 = .ok (.iconst 5, 1) := by decide +kernel
theorem dX7_fine_25 : decode cX7_fine 25 = .ok (.invokevirtual 80, 3) := by decide +kernel
theorem dX7_fine_28 : decode cX7_fine 28 = .ok (.iastore, 1) := by decide +kernel
theorem dX7_fine_29 : decode cX7_fine 29 = .ok (.aload_n 0, 1) := by decide +kernel
theorem dX7_fine_30 : decode cX7_fine 30 = .ok (.getfield 45, 3) := by decide +kernel
theorem dX7_fine_33 : decode cX7_fine 33 = .ok (.iconst 1, 1) := by decide +kernel
theorem dX7_fine_34 : decode cX7_fine 34 = .ok (.aload_n 0, 1) := by decide +kernel
theorem dX7_fine_35 : decode cX7_fine 35 = .ok (.getfield 9, 3) := by decide +kernel
theorem dX7_fine_38 : decode cX7_fine 38 = .ok (.iconst 4, 1) := by decide +kernel
theorem dX7_fine_39 : decode cX7_fine 39 = .ok (.iaload, 1) := by decide +kernel
theorem dX7_fine_40 : decode cX7_fine 40 = .ok (.iastore, 1) := by decide +kernel
theorem dX7_fine_41 : decode cX7_fine 41 = .ok (.iload_n 2, 1) := by decide +kernel
theorem dX7_fine_42 : decode cX7_fine 42 = .ok (.ifCond .ge 12, 3) := by decide +kernel
theorem dX7_fine_45 : decode cX7_fine 45 = .ok (.aload_n 0, 1) := by decide +kernel
theorem dX7_fine_46 : decode cX7_fine 46 = .ok (.iload_n 1, 1) := by decide +kernel
theorem dX7_fine_47 : decode cX7_fine 47 = .ok (.iconst 5, 1) := by decide +kernel
theorem dX7_fine_48 : decode cX7_fine 48 = .ok (.invokevirtual 80, 3) := by decide +kernel
theorem dX7_fine_51 : decode cX7_fine 51 = .ok (.goto 8, 3) := by decide +kernel
theorem dX7_fine_54 : decode cX7_fine 54 = .ok (.aload_n 0, 1) := by decide +kernel
theorem dX7_fine_55 : decode cX7_fine 55 = .ok (.iload_n 2, 1) := by decide +kernel
theorem dX7_fine_56 : decode cX7_fine 56 = .ok (.invokevirtual 106, 3) := by decide +kernel
theorem dX7_fine_59 : decode cX7_fine 59 = .ok (.ireturn, 1) := by decide +kernel
theorem dX7_feed_0 : decode cX7_feed 0 = .ok (.aload_n 0, 1) := by decide +kernel
theorem dX7_feed_1 : decode cX7_feed 1 = .ok (.getfield 181, 3) := by decide +kernel
theorem dX7_feed_4 : decode cX7_feed 4 = .ok (.bipush 12, 2) := by decide +kernel
theorem dX7_feed_6 : decode cX7_feed 6 = .ok (.iadd, 1) := by decide +kernel
theorem dX7_feed_7 : decode cX7_feed 7 = .ok (.bipush 96, 2) := by decide +kernel
theorem dX7_feed_9 : decode cX7_feed 9 = .ok (.if_icmp .le 6, 3) := by decide +kernel
theorem dX7_feed_12 : decode cX7_feed 12 = .ok (.ldc 98, 2) := by decide +kernel
theorem dX7_feed_14 : decode cX7_feed 14 = .ok (.ireturn, 1) := by decide +kernel
theorem dX7_feed_15 : decode cX7_feed 15 = .ok (.iconst 0, 1) := by decide +kernel
theorem dX7_feed_16 : decode cX7_feed 16 = .ok (.istore 4, 2) := by decide +kernel
theorem dX7_feed_18 : decode cX7_feed 18 = .ok (.iload 4, 2) := by decide +kernel
theorem dX7_feed_20 : decode cX7_feed 20 = .ok (.bipush 12, 2) := by decide +kernel
theorem dX7_feed_22 : decode cX7_feed 22 = .ok (.if_icmp .ge 62, 3) := by decide +kernel
theorem dX7_feed_25 : decode cX7_feed 25 = .ok (.iload 4, 2) := by decide +kernel
theorem dX7_feed_27 : decode cX7_feed 27 = .ok (.iconst 4, 1) := by decide +kernel
theorem dX7_feed_28 : decode cX7_feed 28 = .ok (.if_icmp .ge 7, 3) := by decide +kernel
theorem dX7_feed_31 : decode cX7_feed 31 = .ok (.iload_n 1, 1) := by decide +kernel
theorem dX7_feed_32 : decode cX7_feed 32 = .ok (.goto 15, 3) := by decide +kernel
theorem dX7_feed_35 : decode cX7_feed 35 = .ok (.iload 4, 2) := by decide +kernel
theorem dX7_feed_37 : decode cX7_feed 37 = .ok (.bipush 8, 2) := by decide +kernel
theorem dX7_feed_39 : decode cX7_feed 39 = .ok (.if_icmp .ge 7, 3) := by decide +kernel
theorem dX7_feed_42 : decode cX7_feed 42 = .ok (.iload_n 2, 1) := by decide +kernel
theorem dX7_feed_43 : decode cX7_feed 43 = .ok (.goto 4, 3) := by decide +kernel
theorem dX7_feed_46 : decode cX7_feed 46 = .ok (.iload_n 3, 1) := by decide +kernel
theorem dX7_feed_47 : decode cX7_feed 47 = .ok (.istore 5, 2) := by decide +kernel
theorem dX7_feed_49 : decode cX7_feed 49 = .ok (.aload_n 0, 1) := by decide +kernel
theorem dX7_feed_50 : decode cX7_feed 50 = .ok (.getfield 22, 3) := by decide +kernel
theorem dX7_feed_53 : decode cX7_feed 53 = .ok (.aload_n 0, 1) := by decide +kernel
theorem dX7_feed_54 : decode cX7_feed 54 = .ok (.getfield 181, 3) := by decide +kernel
theorem dX7_feed_57 : decode cX7_feed 57 = .ok (.iload 4, 2) := by decide +kernel
theorem dX7_feed_59 : decode cX7_feed 59 = .ok (.iadd, 1) := by decide +kernel
theorem dX7_feed_60 : decode cX7_feed 60 = .ok (.iload 5, 2) := by decide +kernel
theorem dX7_feed_62 : decode cX7_feed 62 = .ok (.bipush 24, 2) := by decide +kernel
theorem dX7_feed_64 : decode cX7_feed 64 = .ok (.bipush 8, 2) := by decide +kernel
theorem dX7_feed_66 : decode cX7_feed 66 = .ok (.iload 4, 2) := by decide +kernel
theorem dX7_feed_68 : decode cX7_feed 68 = .ok (.iconst 4, 1) := by decide +kernel
theorem dX7_feed_69 : decode cX7_feed 69 = .ok (.irem, 1) := by decide +kernel
theorem dX7_feed_70 : decode cX7_feed 70 = .ok (.imul, 1) := by decide +kernel
theorem dX7_feed_71 : decode cX7_feed 71 = .ok (.isub, 1) := by decide +kernel
theorem dX7_feed_72 : decode cX7_feed 72 = .ok (.ishr, 1) := by decide +kernel
theorem dX7_feed_73 : decode cX7_feed 73 = .ok (.sipush 255, 3) := by decide +kernel
theorem dX7_feed_76 : decode cX7_feed 76 = .ok (.iand, 1) := by decide +kernel
theorem dX7_feed_77 : decode cX7_feed 77 = .ok (.iastore, 1) := by decide +kernel
theorem dX7_feed_78 : decode cX7_feed 78 = .ok (.iinc 4 1, 3) := by decide +kernel
theorem dX7_feed_81 : decode cX7_feed 81 = .ok (.goto (-63), 3) := by decide +kernel
theorem dX7_feed_84 : decode cX7_feed 84 = .ok (.aload_n 0, 1) := by decide +kernel
theorem dX7_feed_85 : decode cX7_feed 85 = .ok (.dup, 1) := by decide +kernel
theorem dX7_feed_86 : decode cX7_feed 86 = .ok (.getfield 181, 3) := by decide +kernel
theorem dX7_feed_89 : decode cX7_feed 89 = .ok (.bipush 12, 2) := by decide +kernel
theorem dX7_feed_91 : decode cX7_feed 91 = .ok (.iadd, 1) := by decide +kernel
theorem dX7_feed_92 : decode cX7_feed 92 = .ok (.putfield 181, 3) := by decide +kernel
theorem dX7_feed_95 : decode cX7_feed 95 = .ok (.aload_n 0, 1) := by decide +kernel
theorem dX7_feed_96 : decode cX7_feed 96 = .ok (.getfield 181, 3) := by decide +kernel
theorem dX7_feed_99 : decode cX7_feed 99 = .ok (.ireturn, 1) := by decide +kernel
theorem dX7_trim_0 : decode cX7_trim 0 = .ok (.iload_n 1, 1) := by decide +kernel
theorem dX7_trim_1 : decode cX7_trim 1 = .ok (.iconst 0, 1) := by decide +kernel
theorem dX7_trim_2 : decode cX7_trim 2 = .ok (.aload_n 0, 1) := by decide +kernel
theorem dX7_trim_3 : decode cX7_trim 3 = .ok (.getfield 181, 3) := by decide +kernel
theorem dX7_trim_6 : decode cX7_trim 6 = .ok (.invokestatic 76, 3) := by decide +kernel
theorem dX7_trim_9 : decode cX7_trim 9 = .ok (.ifCond .ne 6, 3) := by decide +kernel
theorem dX7_trim_12 : decode cX7_trim 12 = .ok (.ldc 92, 2) := by decide +kernel
theorem dX7_trim_14 : decode cX7_trim 14 = .ok (.ireturn, 1) := by decide +kernel
theorem dX7_trim_15 : decode cX7_trim 15 = .ok (.aload_n 0, 1) := by decide +kernel
theorem dX7_trim_16 : decode cX7_trim 16 = .ok (.iload_n 1, 1) := by decide +kernel
theorem dX7_trim_17 : decode cX7_trim 17 = .ok (.putfield 181, 3) := by decide +kernel
theorem dX7_trim_20 : decode cX7_trim 20 = .ok (.iload_n 1, 1) := by decide +kernel
theorem dX7_trim_21 : decode cX7_trim 21 = .ok (.ireturn, 1) := by decide +kernel
theorem dX7_isLetter_0 : decode cX7_isLetter 0 = .ok (.iload_n 1, 1) := by decide +kernel
theorem dX7_isLetter_1 : decode cX7_isLetter 1 = .ok (.aload_n 0, 1) := by decide +kernel
theorem dX7_isLetter_2 : decode cX7_isLetter 2 = .ok (.getfield 181, 3) := by decide +kernel
theorem dX7_isLetter_5 : decode cX7_isLetter 5 = .ok (.if_icmp .ge 29, 3) := by decide +kernel
theorem dX7_isLetter_8 : decode cX7_isLetter 8 = .ok (.aload_n 0, 1) := by decide +kernel
theorem dX7_isLetter_9 : decode cX7_isLetter 9 = .ok (.getfield 22, 3) := by decide +kernel
theorem dX7_isLetter_12 : decode cX7_isLetter 12 = .ok (.iload_n 1, 1) := by decide +kernel
theorem dX7_isLetter_13 : decode cX7_isLetter 13 = .ok (.iaload, 1) := by decide +kernel
theorem dX7_isLetter_14 : decode cX7_isLetter 14 = .ok (.bipush 97, 2) := by decide +kernel
theorem dX7_isLetter_16 : decode cX7_isLetter 16 = .ok (.if_icmp .lt 18, 3) := by decide +kernel
theorem dX7_isLetter_19 : decode cX7_isLetter 19 = .ok (.aload_n 0, 1) := by decide +kernel
theorem dX7_isLetter_20 : decode cX7_isLetter 20 = .ok (.getfield 22, 3) := by decide +kernel
theorem dX7_isLetter_23 : decode cX7_isLetter 23 = .ok (.iload_n 1, 1) := by decide +kernel
theorem dX7_isLetter_24 : decode cX7_isLetter 24 = .ok (.iaload, 1) := by decide +kernel
theorem dX7_isLetter_25 : decode cX7_isLetter 25 = .ok (.bipush 122, 2) := by decide +kernel
theorem dX7_isLetter_27 : decode cX7_isLetter 27 = .ok (.if_icmp .gt 7, 3) := by decide +kernel
theorem dX7_isLetter_30 : decode cX7_isLetter 30 = .ok (.iconst 1, 1) := by decide +kernel
theorem dX7_isLetter_31 : decode cX7_isLetter 31 = .ok (.goto 4, 3) := by decide +kernel
theorem dX7_isLetter_34 : decode cX7_isLetter 34 = .ok (.iconst 0, 1) := by decide +kernel
theorem dX7_isLetter_35 : decode cX7_isLetter 35 = .ok (.ireturn, 1) := by decide +kernel
theorem dX7_isFigure_0 : decode cX7_isFigure 0 = .ok (.iload_n 1, 1) := by decide +kernel
theorem dX7_isFigure_1 : decode cX7_isFigure 1 = .ok (.aload_n 0, 1) := by decide +kernel
theorem dX7_isFigure_2 : decode cX7_isFigure 2 = .ok (.getfield 181, 3) := by decide +kernel
theorem dX7_isFigure_5 : decode cX7_isFigure 5 = .ok (.if_icmp .ge 29, 3) := by decide +kernel
theorem dX7_isFigure_8 : decode cX7_isFigure 8 = .ok (.aload_n 0, 1) := by decide +kernel
theorem dX7_isFigure_9 : decode cX7_isFigure 9 = .ok (.getfield 22, 3) := by decide +kernel
theorem dX7_isFigure_12 : decode cX7_isFigure 12 = .ok (.iload_n 1, 1) := by decide +kernel
theorem dX7_isFigure_13 : decode cX7_isFigure 13 = .ok (.iaload, 1) := by decide +kernel
theorem dX7_isFigure_14 : decode cX7_isFigure 14 = .ok (.bipush 48, 2) := by decide +kernel
theorem dX7_isFigure_16 : decode cX7_isFigure 16 = .ok (.if_icmp .lt 18, 3) := by decide +kernel
theorem dX7_isFigure_19 : decode cX7_isFigure 19 = .ok (.aload_n 0, 1) := by decide +kernel
theorem dX7_isFigure_20 : decode cX7_isFigure 20 = .ok (.getfield 22, 3) := by decide +kernel
theorem dX7_isFigure_23 : decode cX7_isFigure 23 = .ok (.iload_n 1, 1) := by decide +kernel
theorem dX7_isFigure_24 : decode cX7_isFigure 24 = .ok (.iaload, 1) := by decide +kernel
theorem dX7_isFigure_25 : decode cX7_isFigure 25 = .ok (.bipush 57, 2) := by decide +kernel
theorem dX7_isFigure_27 : decode cX7_isFigure 27 = .ok (.if_icmp .gt 7, 3) := by decide +kernel
theorem dX7_isFigure_30 : decode cX7_isFigure 30 = .ok (.iconst 1, 1) := by decide +kernel
theorem dX7_isFigure_31 : decode cX7_isFigure 31 = .ok (.goto 4, 3) := by decide +kernel
theorem dX7_isFigure_34 : decode cX7_isFigure 34 = .ok (.iconst 0, 1) := by decide +kernel
theorem dX7_isFigure_35 : decode cX7_isFigure 35 = .ok (.ireturn, 1) := by decide +kernel
theorem dX7_go_0 : decode cX7_go 0 = .ok (.aload_n 0, 1) := by decide +kernel
theorem dX7_go_1 : decode cX7_go 1 = .ok (.getfield 185, 3) := by decide +kernel
theorem dX7_go_4 : decode cX7_go 4 = .ok (.aload_n 0, 1) := by decide +kernel
theorem dX7_go_5 : decode cX7_go 5 = .ok (.getfield 181, 3) := by decide +kernel
theorem dX7_go_8 : decode cX7_go 8 = .ok (.if_icmp .ge 30, 3) := by decide +kernel
theorem dX7_go_11 : decode cX7_go 11 = .ok (.aload_n 0, 1) := by decide +kernel
theorem dX7_go_12 : decode cX7_go 12 = .ok (.getfield 22, 3) := by decide +kernel
theorem dX7_go_15 : decode cX7_go 15 = .ok (.aload_n 0, 1) := by decide +kernel
theorem dX7_go_16 : decode cX7_go 16 = .ok (.getfield 185, 3) := by decide +kernel
theorem dX7_go_19 : decode cX7_go 19 = .ok (.iaload, 1) := by decide +kernel
theorem dX7_go_20 : decode cX7_go 20 = .ok (.bipush 32, 2) := by decide +kernel
theorem dX7_go_22 : decode cX7_go 22 = .ok (.if_icmp .ne 16, 3) := by decide +kernel
theorem dX7_go_25 : decode cX7_go 25 = .ok (.aload_n 0, 1) := by decide +kernel
theorem dX7_go_26 : decode cX7_go 26 = .ok (.dup, 1) := by decide +kernel
theorem dX7_go_27 : decode cX7_go 27 = .ok (.getfield 185, 3) := by decide +kernel
theorem dX7_go_30 : decode cX7_go 30 = .ok (.iconst 1, 1) := by decide +kernel
theorem dX7_go_31 : decode cX7_go 31 = .ok (.iadd, 1) := by decide +kernel
theorem dX7_go_32 : decode cX7_go 32 = .ok (.putfield 185, 3) := by decide +kernel
theorem dX7_go_35 : decode cX7_go 35 = .ok (.goto (-35), 3) := by decide +kernel
theorem dX7_go_38 : decode cX7_go 38 = .ok (.aload_n 0, 1) := by decide +kernel
theorem dX7_go_39 : decode cX7_go 39 = .ok (.aload_n 0, 1) := by decide +kernel
theorem dX7_go_40 : decode cX7_go 40 = .ok (.getfield 185, 3) := by decide +kernel
theorem dX7_go_43 : decode cX7_go 43 = .ok (.putfield 188, 3) := by decide +kernel
theorem dX7_go_46 : decode cX7_go 46 = .ok (.aload_n 0, 1) := by decide +kernel
theorem dX7_go_47 : decode cX7_go 47 = .ok (.getfield 188, 3) := by decide +kernel
theorem dX7_go_50 : decode cX7_go 50 = .ok (.aload_n 0, 1) := by decide +kernel
theorem dX7_go_51 : decode cX7_go 51 = .ok (.getfield 191, 3) := by decide +kernel
theorem dX7_go_54 : decode cX7_go 54 = .ok (.if_icmp .ne 7, 3) := by decide +kernel
theorem dX7_go_57 : decode cX7_go 57 = .ok (.iconst 1, 1) := by decide +kernel
theorem dX7_go_58 : decode cX7_go 58 = .ok (.goto 4, 3) := by decide +kernel
theorem dX7_go_61 : decode cX7_go 61 = .ok (.iconst 0, 1) := by decide +kernel
theorem dX7_go_62 : decode cX7_go 62 = .ok (.istore_n 1, 1) := by decide +kernel
theorem dX7_go_63 : decode cX7_go 63 = .ok (.aload_n 0, 1) := by decide +kernel
theorem dX7_go_64 : decode cX7_go 64 = .ok (.getfield 188, 3) := by decide +kernel
theorem dX7_go_67 : decode cX7_go 67 = .ok (.aload_n 0, 1) := by decide +kernel
theorem dX7_go_68 : decode cX7_go 68 = .ok (.getfield 181, 3) := by decide +kernel
theorem dX7_go_71 : decode cX7_go 71 = .ok (.if_icmp .ne 11, 3) := by decide +kernel
theorem dX7_go_74 : decode cX7_go 74 = .ok (.aload_n 0, 1) := by decide +kernel
theorem dX7_go_75 : decode cX7_go 75 = .ok (.iconst 0, 1) := by decide +kernel
theorem dX7_go_76 : decode cX7_go 76 = .ok (.putfield 194, 3) := by decide +kernel
theorem dX7_go_79 : decode cX7_go 79 = .ok (.goto 224, 3) := by decide +kernel
theorem dX7_go_82 : decode cX7_go 82 = .ok (.aload_n 0, 1) := by decide +kernel
theorem dX7_go_83 : decode cX7_go 83 = .ok (.aload_n 0, 1) := by decide +kernel
theorem dX7_go_84 : decode cX7_go 84 = .ok (.getfield 188, 3) := by decide +kernel
theorem dX7_go_87 : decode cX7_go 87 = .ok (.invokevirtual 197, 3) := by decide +kernel
theorem dX7_go_90 : decode cX7_go 90 = .ok (.ifCond .eq 64, 3) := by decide +kernel
theorem dX7_go_93 : decode cX7_go 93 = .ok (.aload_n 0, 1) := by decide +kernel
theorem dX7_go_94 : decode cX7_go 94 = .ok (.aload_n 0, 1) := by decide +kernel
theorem dX7_go_95 : decode cX7_go 95 = .ok (.getfield 185, 3) := by decide +kernel
theorem dX7_go_98 : decode cX7_go 98 = .ok (.invokevirtual 197, 3) := by decide +kernel
theorem dX7_go_101 : decode cX7_go 101 = .ok (.ifCond .eq 16, 3) := by decide +kernel
theorem dX7_go_104 : decode cX7_go 104 = .ok (.aload_n 0, 1) := by decide +kernel
theorem dX7_go_105 : decode cX7_go 105 = .ok (.dup, 1) := by decide +kernel
theorem dX7_go_106 : decode cX7_go 106 = .ok (.getfield 185, 3) := by decide +kernel
theorem dX7_go_109 : decode cX7_go 109 = .ok (.iconst 1, 1) := by decide +kernel
theorem dX7_go_110 : decode cX7_go 110 = .ok (.iadd, 1) := by decide +kernel
theorem dX7_go_111 : decode cX7_go 111 = .ok (.putfield 185, 3) := by decide +kernel
theorem dX7_go_114 : decode cX7_go 114 = .ok (.goto (-21), 3) := by decide +kernel
theorem dX7_go_117 : decode cX7_go 117 = .ok (.aload_n 0, 1) := by decide +kernel
theorem dX7_go_118 : decode cX7_go 118 = .ok (.iload_n 1, 1) := by decide +kernel
theorem dX7_go_119 : decode cX7_go 119 = .ok (.ifCond .eq 7, 3) := by decide +kernel
theorem dX7_go_122 : decode cX7_go 122 = .ok (.iconst 4, 1) := by decide +kernel
theorem dX7_go_123 : decode cX7_go 123 = .ok (.goto 4, 3) := by decide +kernel
theorem dX7_go_126 : decode cX7_go 126 = .ok (.iconst 1, 1) := by decide +kernel
theorem dX7_go_127 : decode cX7_go 127 = .ok (.putfield 194, 3) := by decide +kernel
theorem dX7_go_130 : decode cX7_go 130 = .ok (.aload_n 0, 1) := by decide +kernel
theorem dX7_go_131 : decode cX7_go 131 = .ok (.aload_n 0, 1) := by decide +kernel
theorem dX7_go_132 : decode cX7_go 132 = .ok (.getfield 22, 3) := by decide +kernel
theorem dX7_go_135 : decode cX7_go 135 = .ok (.aload_n 0, 1) := by decide +kernel
theorem dX7_go_136 : decode cX7_go 136 = .ok (.getfield 188, 3) := by decide +kernel
theorem dX7_go_139 : decode cX7_go 139 = .ok (.iaload, 1) := by decide +kernel
theorem dX7_go_140 : decode cX7_go 140 = .ok (.putfield 200, 3) := by decide +kernel
theorem dX7_go_143 : decode cX7_go 143 = .ok (.aload_n 0, 1) := by decide +kernel
theorem dX7_go_144 : decode cX7_go 144 = .ok (.aload_n 0, 1) := by decide +kernel
theorem dX7_go_145 : decode cX7_go 145 = .ok (.getfield 185, 3) := by decide +kernel
theorem dX7_go_148 : decode cX7_go 148 = .ok (.putfield 191, 3) := by decide +kernel
theorem dX7_go_151 : decode cX7_go 151 = .ok (.goto 152, 3) := by decide +kernel
theorem dX7_go_154 : decode cX7_go 154 = .ok (.aload_n 0, 1) := by decide +kernel
theorem dX7_go_155 : decode cX7_go 155 = .ok (.aload_n 0, 1) := by decide +kernel
theorem dX7_go_156 : decode cX7_go 156 = .ok (.getfield 188, 3) := by decide +kernel
theorem dX7_go_159 : decode cX7_go 159 = .ok (.invokevirtual 203, 3) := by decide +kernel
theorem dX7_go_162 : decode cX7_go 162 = .ok (.ifCond .eq 113, 3) := by decide +kernel
theorem dX7_go_165 : decode cX7_go 165 = .ok (.aload_n 0, 1) := by decide +kernel
theorem dX7_go_166 : decode cX7_go 166 = .ok (.iconst 0, 1) := by decide +kernel
theorem dX7_go_167 : decode cX7_go 167 = .ok (.putfield 200, 3) := by decide +kernel
theorem dX7_go_170 : decode cX7_go 170 = .ok (.aload_n 0, 1) := by decide +kernel
theorem dX7_go_171 : decode cX7_go 171 = .ok (.aload_n 0, 1) := by decide +kernel
theorem dX7_go_172 : decode cX7_go 172 = .ok (.getfield 185, 3) := by decide +kernel
