theorem dX5_init_0 : decode cX5_init 0 = .ok (.aload_n 0, 1) := by decide +kernel
theorem dX5_init_1 : decode cX5_init 1 = .ok (.invokespecial 1, 3) := by decide +kernel
theorem dX5_init_4 : decode cX5_init 4 = .ok (.aload_n 0, 1) := by decide +kernel
theorem dX5_init_5 : decode cX5_init 5 = .ok (.bipush 6, 2) := by decide +kernel
theorem dX5_init_7 : decode cX5_init 7 = .ok (.anewarray 9, 3) := by decide +kernel
theorem dX5_init_10 : decode cX5_init 10 = .ok (.putfield 11, 3) := by decide +kernel
theorem dX5_init_13 : decode cX5_init 13 = .ok (.iconst 0, 1) := by decide +kernel
theorem dX5_init_14 : decode cX5_init 14 = .ok (.istore_n 1, 1) := by decide +kernel
theorem dX5_init_15 : decode cX5_init 15 = .ok (.iload_n 1, 1) := by decide +kernel
theorem dX5_init_16 : decode cX5_init 16 = .ok (.bipush 6, 2) := by decide +kernel
theorem dX5_init_18 : decode cX5_init 18 = .ok (.if_icmp .ge 22, 3) := by decide +kernel
theorem dX5_init_21 : decode cX5_init 21 = .ok (.aload_n 0, 1) := by decide +kernel
theorem dX5_init_22 : decode cX5_init 22 = .ok (.getfield 11, 3) := by decide +kernel
theorem dX5_init_25 : decode cX5_init 25 = .ok (.iload_n 1, 1) := by decide +kernel
theorem dX5_init_26 : decode cX5_init 26 = .ok (.new 9, 3) := by decide +kernel
theorem dX5_init_29 : decode cX5_init 29 = .ok (.dup, 1) := by decide +kernel
theorem dX5_init_30 : decode cX5_init 30 = .ok (.invokespecial 15, 3) := by decide +kernel
theorem dX5_init_33 : decode cX5_init 33 = .ok (.aastore, 1) := by decide +kernel
theorem dX5_init_34 : decode cX5_init 34 = .ok (.iinc 1 1, 3) := by decide +kernel
theorem dX5_init_37 : decode cX5_init 37 = .ok (.goto (-22), 3) := by decide +kernel
theorem dX5_init_40 : decode cX5_init 40 = .ok (.aload_n 0, 1) := by decide +kernel
theorem dX5_init_41 : decode cX5_init 41 = .ok (.new 16, 3) := by decide +kernel
theorem dX5_init_44 : decode cX5_init 44 = .ok (.dup, 1) := by decide +kernel
theorem dX5_init_45 : decode cX5_init 45 = .ok (.invokespecial 18, 3) := by decide +kernel
theorem dX5_init_48 : decode cX5_init 48 = .ok (.putfield 19, 3) := by decide +kernel
theorem dX5_init_51 : decode cX5_init 51 = .ok (.aload_n 0, 1) := by decide +kernel
theorem dX5_init_52 : decode cX5_init 52 = .ok (.new 23, 3) := by decide +kernel
theorem dX5_init_55 : decode cX5_init 55 = .ok (.dup, 1) := by decide +kernel
theorem dX5_init_56 : decode cX5_init 56 = .ok (.invokespecial 25, 3) := by decide +kernel
theorem dX5_init_59 : decode cX5_init 59 = .ok (.putfield 26, 3) := by decide +kernel
theorem dX5_init_62 : decode cX5_init 62 = .ok (.aload_n 0, 1) := by decide +kernel
theorem dX5_init_63 : decode cX5_init 63 = .ok (.new 30, 3) := by decide +kernel
theorem dX5_init_66 : decode cX5_init 66 = .ok (.dup, 1) := by decide +kernel
theorem dX5_init_67 : decode cX5_init 67 = .ok (.invokespecial 32, 3) := by decide +kernel
theorem dX5_init_70 : decode cX5_init 70 = .ok (.putfield 33, 3) := by decide +kernel
theorem dX5_init_73 : decode cX5_init 73 = .ok (.aload_n 0, 1) := by decide +kernel
theorem dX5_init_74 : decode cX5_init 74 = .ok (.iconst 0, 1) := by decide +kernel
theorem dX5_init_75 : decode cX5_init 75 = .ok (.putfield 37, 3) := by decide +kernel
theorem dX5_init_78 : decode cX5_init 78 = .ok (.return_, 1) := by decide +kernel
theorem dX5_octet_0 : decode cX5_octet 0 = .ok (.iload_n 1, 1) := by decide +kernel
theorem dX5_octet_1 : decode cX5_octet 1 = .ok (.bipush 6, 2) := by decide +kernel
theorem dX5_octet_3 : decode cX5_octet 3 = .ok (.invokestatic 41, 3) := by decide +kernel
theorem dX5_octet_6 : decode cX5_octet 6 = .ok (.ifCond .ne 5, 3) := by decide +kernel
theorem dX5_octet_9 : decode cX5_octet 9 = .ok (.iconst (-1), 1) := by decide +kernel
theorem dX5_octet_10 : decode cX5_octet 10 = .ok (.ireturn, 1) := by decide +kernel
theorem dX5_octet_11 : decode cX5_octet 11 = .ok (.aload_n 0, 1) := by decide +kernel
theorem dX5_octet_12 : decode cX5_octet 12 = .ok (.getfield 11, 3) := by decide +kernel
theorem dX5_octet_15 : decode cX5_octet 15 = .ok (.iload_n 1, 1) := by decide +kernel
theorem dX5_octet_16 : decode cX5_octet 16 = .ok (.aaload, 1) := by decide +kernel
theorem dX5_octet_17 : decode cX5_octet 17 = .ok (.astore_n 3, 1) := by decide +kernel
theorem dX5_octet_18 : decode cX5_octet 18 = .ok (.iload_n 2, 1) := by decide +kernel
theorem dX5_octet_19 : decode cX5_octet 19 = .ok (.sipush 255, 3) := by decide +kernel
theorem dX5_octet_22 : decode cX5_octet 22 = .ok (.iand, 1) := by decide +kernel
theorem dX5_octet_23 : decode cX5_octet 23 = .ok (.istore 4, 2) := by decide +kernel
theorem dX5_octet_25 : decode cX5_octet 25 = .ok (.aload_n 3, 1) := by decide +kernel
theorem dX5_octet_26 : decode cX5_octet 26 = .ok (.getfield 45, 3) := by decide +kernel
theorem dX5_octet_29 : decode cX5_octet 29 = .ok (.ifCond .ne 10, 3) := by decide +kernel
theorem dX5_octet_32 : decode cX5_octet 32 = .ok (.iload 4, 2) := by decide +kernel
theorem dX5_octet_34 : decode cX5_octet 34 = .ok (.bipush 13, 2) := by decide +kernel
theorem dX5_octet_36 : decode cX5_octet 36 = .ok (.if_icmp .eq 10, 3) := by decide +kernel
theorem dX5_octet_39 : decode cX5_octet 39 = .ok (.aload_n 3, 1) := by decide +kernel
theorem dX5_octet_40 : decode cX5_octet 40 = .ok (.iload 4, 2) := by decide +kernel
theorem dX5_octet_42 : decode cX5_octet 42 = .ok (.invokevirtual 49, 3) := by decide +kernel
theorem dX5_octet_45 : decode cX5_octet 45 = .ok (.ireturn, 1) := by decide +kernel
theorem dX5_octet_46 : decode cX5_octet 46 = .ok (.aload_n 0, 1) := by decide +kernel
theorem dX5_octet_47 : decode cX5_octet 47 = .ok (.iload_n 1, 1) := by decide +kernel
theorem dX5_octet_48 : decode cX5_octet 48 = .ok (.aload_n 3, 1) := by decide +kernel
theorem dX5_octet_49 : decode cX5_octet 49 = .ok (.invokevirtual 53, 3) := by decide +kernel
theorem dX5_octet_52 : decode cX5_octet 52 = .ok (.iconst 0, 1) := by decide +kernel
theorem dX5_octet_53 : decode cX5_octet 53 = .ok (.ireturn, 1) := by decide +kernel
theorem dX5_answer_0 : decode cX5_answer 0 = .ok (.iload_n 1, 1) := by decide +kernel
theorem dX5_answer_1 : decode cX5_answer 1 = .ok (.bipush 6, 2) := by decide +kernel
theorem dX5_answer_3 : decode cX5_answer 3 = .ok (.invokestatic 41, 3) := by decide +kernel
theorem dX5_answer_6 : decode cX5_answer 6 = .ok (.ifCond .eq 22, 3) := by decide +kernel
theorem dX5_answer_9 : decode cX5_answer 9 = .ok (.iload_n 2, 1) := by decide +kernel
theorem dX5_answer_10 : decode cX5_answer 10 = .ok (.aload_n 0, 1) := by decide +kernel
theorem dX5_answer_11 : decode cX5_answer 11 = .ok (.getfield 11, 3) := by decide +kernel
theorem dX5_answer_14 : decode cX5_answer 14 = .ok (.iload_n 1, 1) := by decide +kernel
theorem dX5_answer_15 : decode cX5_answer 15 = .ok (.aaload, 1) := by decide +kernel
theorem dX5_answer_16 : decode cX5_answer 16 = .ok (.getfield 57, 3) := by decide +kernel
theorem dX5_answer_19 : decode cX5_answer 19 = .ok (.getfield 61, 3) := by decide +kernel
theorem dX5_answer_22 : decode cX5_answer 22 = .ok (.invokestatic 41, 3) := by decide +kernel
theorem dX5_answer_25 : decode cX5_answer 25 = .ok (.ifCond .ne 13, 3) := by decide +kernel
theorem dX5_answer_28 : decode cX5_answer 28 = .ok (.new 66, 3) := by decide +kernel
theorem dX5_answer_31 : decode cX5_answer 31 = .ok (.dup, 1) := by decide +kernel
theorem dX5_answer_32 : decode cX5_answer 32 = .ok (.ldc 68, 2) := by decide +kernel
theorem dX5_answer_34 : decode cX5_answer 34 = .ok (.invokespecial 70, 3) := by decide +kernel
theorem dX5_answer_37 : decode cX5_answer 37 = .ok (.athrow, 1) := by decide +kernel
theorem dX5_answer_38 : decode cX5_answer 38 = .ok (.aload_n 0, 1) := by decide +kernel
theorem dX5_answer_39 : decode cX5_answer 39 = .ok (.getfield 11, 3) := by decide +kernel
theorem dX5_answer_42 : decode cX5_answer 42 = .ok (.iload_n 1, 1) := by decide +kernel
theorem dX5_answer_43 : decode cX5_answer 43 = .ok (.aaload, 1) := by decide +kernel
theorem dX5_answer_44 : decode cX5_answer 44 = .ok (.getfield 57, 3) := by decide +kernel
theorem dX5_answer_47 : decode cX5_answer 47 = .ok (.getfield 73, 3) := by decide +kernel
theorem dX5_answer_50 : decode cX5_answer 50 = .ok (.iload_n 2, 1) := by decide +kernel
theorem dX5_answer_51 : decode cX5_answer 51 = .ok (.iaload, 1) := by decide +kernel
theorem dX5_answer_52 : decode cX5_answer 52 = .ok (.ireturn, 1) := by decide +kernel
theorem dX5_reset_0 : decode cX5_reset 0 = .ok (.iload_n 1, 1) := by decide +kernel
theorem dX5_reset_1 : decode cX5_reset 1 = .ok (.bipush 6, 2) := by decide +kernel
theorem dX5_reset_3 : decode cX5_reset 3 = .ok (.invokestatic 41, 3) := by decide +kernel
theorem dX5_reset_6 : decode cX5_reset 6 = .ok (.ifCond .ne 5, 3) := by decide +kernel
theorem dX5_reset_9 : decode cX5_reset 9 = .ok (.iconst (-1), 1) := by decide +kernel
theorem dX5_reset_10 : decode cX5_reset 10 = .ok (.ireturn, 1) := by decide +kernel
theorem dX5_reset_11 : decode cX5_reset 11 = .ok (.aload_n 0, 1) := by decide +kernel
theorem dX5_reset_12 : decode cX5_reset 12 = .ok (.getfield 11, 3) := by decide +kernel
theorem dX5_reset_15 : decode cX5_reset 15 = .ok (.iload_n 1, 1) := by decide +kernel
theorem dX5_reset_16 : decode cX5_reset 16 = .ok (.aaload, 1) := by decide +kernel
theorem dX5_reset_17 : decode cX5_reset 17 = .ok (.getfield 77, 3) := by decide +kernel
theorem dX5_reset_20 : decode cX5_reset 20 = .ok (.istore_n 2, 1) := by decide +kernel
theorem dX5_reset_21 : decode cX5_reset 21 = .ok (.aload_n 0, 1) := by decide +kernel
theorem dX5_reset_22 : decode cX5_reset 22 = .ok (.getfield 11, 3) := by decide +kernel
theorem dX5_reset_25 : decode cX5_reset 25 = .ok (.iload_n 1, 1) := by decide +kernel
theorem dX5_reset_26 : decode cX5_reset 26 = .ok (.aaload, 1) := by decide +kernel
theorem dX5_reset_27 : decode cX5_reset 27 = .ok (.invokevirtual 80, 3) := by decide +kernel
theorem dX5_reset_30 : decode cX5_reset 30 = .ok (.iload_n 2, 1) := by decide +kernel
theorem dX5_reset_31 : decode cX5_reset 31 = .ok (.ireturn, 1) := by decide +kernel
theorem dX5_offline_0 : decode cX5_offline 0 = .ok (.iload_n 1, 1) := by decide +kernel
theorem dX5_offline_1 : decode cX5_offline 1 = .ok (.bipush 6, 2) := by decide +kernel
theorem dX5_offline_3 : decode cX5_offline 3 = .ok (.invokestatic 41, 3) := by decide +kernel
theorem dX5_offline_6 : decode cX5_offline 6 = .ok (.ifCond .eq 34, 3) := by decide +kernel
theorem dX5_offline_9 : decode cX5_offline 9 = .ok (.iload_n 2, 1) := by decide +kernel
theorem dX5_offline_10 : decode cX5_offline 10 = .ok (.iconst 2, 1) := by decide +kernel
theorem dX5_offline_11 : decode cX5_offline 11 = .ok (.invokestatic 41, 3) := by decide +kernel
theorem dX5_offline_14 : decode cX5_offline 14 = .ok (.ifCond .eq 26, 3) := by decide +kernel
theorem dX5_offline_17 : decode cX5_offline 17 = .ok (.iload_n 3, 1) := by decide +kernel
theorem dX5_offline_18 : decode cX5_offline 18 = .ok (.bipush 30, 2) := by decide +kernel
theorem dX5_offline_20 : decode cX5_offline 20 = .ok (.invokestatic 41, 3) := by decide +kernel
theorem dX5_offline_23 : decode cX5_offline 23 = .ok (.ifCond .eq 17, 3) := by decide +kernel
theorem dX5_offline_26 : decode cX5_offline 26 = .ok (.iload 4, 2) := by decide +kernel
theorem dX5_offline_28 : decode cX5_offline 28 = .ok (.bipush 30, 2) := by decide +kernel
theorem dX5_offline_30 : decode cX5_offline 30 = .ok (.invokestatic 41, 3) := by decide +kernel
theorem dX5_offline_33 : decode cX5_offline 33 = .ok (.ifCond .eq 7, 3) := by decide +kernel
theorem dX5_offline_36 : decode cX5_offline 36 = .ok (.iconst 1, 1) := by decide +kernel
theorem dX5_offline_37 : decode cX5_offline 37 = .ok (.goto 4, 3) := by decide +kernel
theorem dX5_offline_40 : decode cX5_offline 40 = .ok (.iconst 0, 1) := by decide +kernel
theorem dX5_offline_41 : decode cX5_offline 41 = .ok (.istore 5, 2) := by decide +kernel
theorem dX5_offline_43 : decode cX5_offline 43 = .ok (.iload 5, 2) := by decide +kernel
theorem dX5_offline_45 : decode cX5_offline 45 = .ok (.ifCond .ne 5, 3) := by decide +kernel
theorem dX5_offline_48 : decode cX5_offline 48 = .ok (.iconst (-1), 1) := by decide +kernel
theorem dX5_offline_49 : decode cX5_offline 49 = .ok (.ireturn, 1) := by decide +kernel
theorem dX5_offline_50 : decode cX5_offline 50 = .ok (.aload_n 0, 1) := by decide +kernel
theorem dX5_offline_51 : decode cX5_offline 51 = .ok (.getfield 11, 3) := by decide +kernel
theorem dX5_offline_54 : decode cX5_offline 54 = .ok (.iload_n 1, 1) := by decide +kernel
theorem dX5_offline_55 : decode cX5_offline 55 = .ok (.aaload, 1) := by decide +kernel
theorem dX5_offline_56 : decode cX5_offline 56 = .ok (.iload_n 2, 1) := by decide +kernel
theorem dX5_offline_57 : decode cX5_offline 57 = .ok (.ifCond .ne 8, 3) := by decide +kernel
theorem dX5_offline_60 : decode cX5_offline 60 = .ok (.bipush 67, 2) := by decide +kernel
theorem dX5_offline_62 : decode cX5_offline 62 = .ok (.goto 5, 3) := by decide +kernel
theorem dX5_offline_65 : decode cX5_offline 65 = .ok (.bipush 66, 2) := by decide +kernel
theorem dX5_offline_67 : decode cX5_offline 67 = .ok (.iload_n 3, 1) := by decide +kernel
theorem dX5_offline_68 : decode cX5_offline 68 = .ok (.iload 4, 2) := by decide +kernel
theorem dX5_offline_70 : decode cX5_offline 70 = .ok (.invokevirtual 83, 3) := by decide +kernel
theorem dX5_offline_73 : decode cX5_offline 73 = .ok (.ireturn, 1) := by decide +kernel
theorem dX5_join_0 : decode cX5_join 0 = .ok (.iload_n 1, 1) := by decide +kernel
theorem dX5_join_1 : decode cX5_join 1 = .ok (.bipush 6, 2) := by decide +kernel
theorem dX5_join_3 : decode cX5_join 3 = .ok (.invokestatic 41, 3) := by decide +kernel
theorem dX5_join_6 : decode cX5_join 6 = .ok (.ifCond .ne 5, 3) := by decide +kernel
theorem dX5_join_9 : decode cX5_join 9 = .ok (.iconst (-1), 1) := by decide +kernel
theorem dX5_join_10 : decode cX5_join 10 = .ok (.ireturn, 1) := by decide +kernel
theorem dX5_join_11 : decode cX5_join 11 = .ok (.aload_n 0, 1) := by decide +kernel
theorem dX5_join_12 : decode cX5_join 12 = .ok (.getfield 11, 3) := by decide +kernel
theorem dX5_join_15 : decode cX5_join 15 = .ok (.iload_n 1, 1) := by decide +kernel
theorem dX5_join_16 : decode cX5_join 16 = .ok (.aaload, 1) := by decide +kernel
theorem dX5_join_17 : decode cX5_join 17 = .ok (.astore_n 2, 1) := by decide +kernel
theorem dX5_join_18 : decode cX5_join 18 = .ok (.iconst 0, 1) := by decide +kernel
theorem dX5_join_19 : decode cX5_join 19 = .ok (.istore_n 3, 1) := by decide +kernel
theorem dX5_join_20 : decode cX5_join 20 = .ok (.iconst 0, 1) := by decide +kernel
theorem dX5_join_21 : decode cX5_join 21 = .ok (.istore 4, 2) := by decide +kernel
theorem dX5_join_23 : decode cX5_join 23 = .ok (.iload 4, 2) := by decide +kernel
theorem dX5_join_25 : decode cX5_join 25 = .ok (.aload_n 2, 1) := by decide +kernel
theorem dX5_join_26 : decode cX5_join 26 = .ok (.getfield 87, 3) := by decide +kernel
theorem dX5_join_29 : decode cX5_join 29 = .ok (.if_icmp .ge 48, 3) := by decide +kernel
theorem dX5_join_32 : decode cX5_join 32 = .ok (.aload_n 0, 1) := by decide +kernel
theorem dX5_join_33 : decode cX5_join 33 = .ok (.getfield 33, 3) := by decide +kernel
theorem dX5_join_36 : decode cX5_join 36 = .ok (.aload_n 2, 1) := by decide +kernel
theorem dX5_join_37 : decode cX5_join 37 = .ok (.getfield 90, 3) := by decide +kernel
theorem dX5_join_40 : decode cX5_join 40 = .ok (.iload 4, 2) := by decide +kernel
theorem dX5_join_42 : decode cX5_join 42 = .ok (.iaload, 1) := by decide +kernel
theorem dX5_join_43 : decode cX5_join 43 = .ok (.aload_n 2, 1) := by decide +kernel
theorem dX5_join_44 : decode cX5_join 44 = .ok (.getfield 93, 3) := by decide +kernel
theorem dX5_join_47 : decode cX5_join 47 = .ok (.iload 4, 2) := by decide +kernel
theorem dX5_join_49 : decode cX5_join 49 = .ok (.iaload, 1) := by decide +kernel
theorem dX5_join_50 : decode cX5_join 50 = .ok (.aload_n 2, 1) := by decide +kernel
theorem dX5_join_51 : decode cX5_join 51 = .ok (.getfield 96, 3) := by decide +kernel
theorem dX5_join_54 : decode cX5_join 54 = .ok (.iload 4, 2) := by decide +kernel
theorem dX5_join_56 : decode cX5_join 56 = .ok (.iaload, 1) := by decide +kernel
theorem dX5_join_57 : decode cX5_join 57 = .ok (.invokevirtual 99, 3) := by decide +kernel
theorem dX5_join_60 : decode cX5_join 60 = .ok (.aload_n 0, 1) := by decide +kernel
theorem dX5_join_61 : decode cX5_join 61 = .ok (.iload_n 1, 1) := by decide +kernel
theorem dX5_join_62 : decode cX5_join 62 = .ok (.invokevirtual 103, 3) := by decide +kernel
theorem dX5_join_65 : decode cX5_join 65 = .ok (.ifCond .eq 6, 3) := by decide +kernel
theorem dX5_join_68 : decode cX5_join 68 = .ok (.iinc 3 1, 3) := by decide +kernel
theorem dX5_join_71 : decode cX5_join 71 = .ok (.iinc 4 1, 3) := by decide +kernel
theorem dX5_join_74 : decode cX5_join 74 = .ok (.goto (-51), 3) := by decide +kernel
theorem dX5_join_77 : decode cX5_join 77 = .ok (.aload_n 2, 1) := by decide +kernel
theorem dX5_join_78 : decode cX5_join 78 = .ok (.iconst 0, 1) := by decide +kernel
theorem dX5_join_79 : decode cX5_join 79 = .ok (.putfield 87, 3) := by decide +kernel
theorem dX5_join_82 : decode cX5_join 82 = .ok (.iload_n 3, 1) := by decide +kernel
theorem dX5_join_83 : decode cX5_join 83 = .ok (.ireturn, 1) := by decide +kernel
theorem dX5_owes_0 : decode cX5_owes 0 = .ok (.iload_n 1, 1) := by decide +kernel
theorem dX5_owes_1 : decode cX5_owes 1 = .ok (.bipush 30, 2) := by decide +kernel
theorem dX5_owes_3 : decode cX5_owes 3 = .ok (.invokestatic 41, 3) := by decide +kernel
theorem dX5_owes_6 : decode cX5_owes 6 = .ok (.ifCond .eq 13, 3) := by decide +kernel
theorem dX5_owes_9 : decode cX5_owes 9 = .ok (.iload_n 2, 1) := by decide +kernel
theorem dX5_owes_10 : decode cX5_owes 10 = .ok (.ifCond .lt 9, 3) := by decide +kernel
theorem dX5_owes_13 : decode cX5_owes 13 = .ok (.iload_n 2, 1) := by decide +kernel
theorem dX5_owes_14 : decode cX5_owes 14 = .ok (.ldc 107, 2) := by decide +kernel
theorem dX5_owes_16 : decode cX5_owes 16 = .ok (.if_icmp .le 5, 3) := by decide +kernel
theorem dX5_owes_19 : decode cX5_owes 19 = .ok (.iconst (-1), 1) := by decide +kernel
theorem dX5_owes_20 : decode cX5_owes 20 = .ok (.ireturn, 1) := by decide +kernel
theorem dX5_owes_21 : decode cX5_owes 21 = .ok (.aload_n 0, 1) := by decide +kernel
theorem dX5_owes_22 : decode cX5_owes 22 = .ok (.getfield 19, 3) := by decide +kernel
theorem dX5_owes_25 : decode cX5_owes 25 = .ok (.getfield 108, 3) := by decide +kernel
theorem dX5_owes_28 : decode cX5_owes 28 = .ok (.iload_n 1, 1) := by decide +kernel
theorem dX5_owes_29 : decode cX5_owes 29 = .ok (.iaload, 1) := by decide +kernel
theorem dX5_owes_30 : decode cX5_owes 30 = .ok (.istore_n 3, 1) := by decide +kernel
theorem dX5_owes_31 : decode cX5_owes 31 = .ok (.aload_n 0, 1) := by decide +kernel
theorem dX5_owes_32 : decode cX5_owes 32 = .ok (.getfield 19, 3) := by decide +kernel
theorem dX5_owes_35 : decode cX5_owes 35 = .ok (.getfield 108, 3) := by decide +kernel
theorem dX5_owes_38 : decode cX5_owes 38 = .ok (.iload_n 1, 1) := by decide +kernel
theorem dX5_owes_39 : decode cX5_owes 39 = .ok (.iload_n 2, 1) := by decide +kernel
theorem dX5_owes_40 : decode cX5_owes 40 = .ok (.iastore, 1) := by decide +kernel
theorem dX5_owes_41 : decode cX5_owes 41 = .ok (.iload_n 3, 1) := by decide +kernel
theorem dX5_owes_42 : decode cX5_owes 42 = .ok (.ireturn, 1) := by decide +kernel
theorem dX5_acts_0 : decode cX5_acts 0 = .ok (.aload_n 0, 1) := by decide +kernel
theorem dX5_acts_1 : decode cX5_acts 1 = .ok (.getfield 26, 3) := by decide +kernel
theorem dX5_acts_4 : decode cX5_acts 4 = .ok (.getfield 111, 3) := by decide +kernel
theorem dX5_acts_7 : decode cX5_acts 7 = .ok (.ireturn, 1) := by decide +kernel
theorem dX5_act_0 : decode cX5_act 0 = .ok (.aload_n 0, 1) := by decide +kernel
theorem dX5_act_1 : decode cX5_act 1 = .ok (.getfield 26, 3) := by decide +kernel
theorem dX5_act_4 : decode cX5_act 4 = .ok (.iload_n 1, 1) := by decide +kernel
theorem dX5_act_5 : decode cX5_act 5 = .ok (.iload_n 2, 1) := by decide +kernel
theorem dX5_act_6 : decode cX5_act 6 = .ok (.invokevirtual 112, 3) := by decide +kernel
theorem dX5_act_9 : decode cX5_act 9 = .ok (.ireturn, 1) := by decide +kernel
theorem dX5_sum_0 : decode cX5_sum 0 = .ok (.iload_n 1, 1) := by decide +kernel
theorem dX5_sum_1 : decode cX5_sum 1 = .ok (.ifCond .ge 15, 3) := by decide +kernel
theorem dX5_sum_4 : decode cX5_sum 4 = .ok (.aload_n 0, 1) := by decide +kernel
theorem dX5_sum_5 : decode cX5_sum 5 = .ok (.getfield 37, 3) := by decide +kernel
theorem dX5_sum_8 : decode cX5_sum 8 = .ok (.istore_n 2, 1) := by decide +kernel
theorem dX5_sum_9 : decode cX5_sum 9 = .ok (.aload_n 0, 1) := by decide +kernel
theorem dX5_sum_10 : decode cX5_sum 10 = .ok (.iconst 0, 1) := by decide +kernel
theorem dX5_sum_11 : decode cX5_sum 11 = .ok (.putfield 37, 3) := by decide +kernel
theorem dX5_sum_14 : decode cX5_sum 14 = .ok (.iload_n 2, 1) := by decide +kernel
theorem dX5_sum_15 : decode cX5_sum 15 = .ok (.ireturn, 1) := by decide +kernel
theorem dX5_sum_16 : decode cX5_sum 16 = .ok (.aload_n 0, 1) := by decide +kernel
theorem dX5_sum_17 : decode cX5_sum 17 = .ok (.aload_n 0, 1) := by decide +kernel
theorem dX5_sum_18 : decode cX5_sum 18 = .ok (.getfield 37, 3) := by decide +kernel
theorem dX5_sum_21 : decode cX5_sum 21 = .ok (.iload_n 1, 1) := by decide +kernel
theorem dX5_sum_22 : decode cX5_sum 22 = .ok (.iadd, 1) := by decide +kernel
theorem dX5_sum_23 : decode cX5_sum 23 = .ok (.sipush 255, 3) := by decide +kernel
theorem dX5_sum_26 : decode cX5_sum 26 = .ok (.iand, 1) := by decide +kernel
theorem dX5_sum_27 : decode cX5_sum 27 = .ok (.putfield 37, 3) := by decide +kernel
theorem dX5_sum_30 : decode cX5_sum 30 = .ok (.aload_n 0, 1) := by decide +kernel
theorem dX5_sum_31 : decode cX5_sum 31 = .ok (.getfield 37, 3) := by decide +kernel
theorem dX5_sum_34 : decode cX5_sum 34 = .ok (.ireturn, 1) := by decide +kernel
theorem dX5_state_0 : decode cX5_state 0 = .ok (.iload_n 1, 1) := by decide +kernel
theorem dX5_state_1 : decode cX5_state 1 = .ok (.bipush 6, 2) := by decide +kernel
theorem dX5_state_3 : decode cX5_state 3 = .ok (.invokestatic 41, 3) := by decide +kernel
theorem dX5_state_6 : decode cX5_state 6 = .ok (.ifCond .ne 5, 3) := by decide +kernel
theorem dX5_state_9 : decode cX5_state 9 = .ok (.iconst (-1), 1) := by decide +kernel
theorem dX5_state_10 : decode cX5_state 10 = .ok (.ireturn, 1) := by decide +kernel
theorem dX5_state_11 : decode cX5_state 11 = .ok (.aload_n 0, 1) := by decide +kernel
theorem dX5_state_12 : decode cX5_state 12 = .ok (.getfield 11, 3) := by decide +kernel
theorem dX5_state_15 : decode cX5_state 15 = .ok (.iload_n 1, 1) := by decide +kernel
theorem dX5_state_16 : decode cX5_state 16 = .ok (.aaload, 1) := by decide +kernel
theorem dX5_state_17 : decode cX5_state 17 = .ok (.astore_n 3, 1) := by decide +kernel
theorem dX5_state_18 : decode cX5_state 18 = .ok (.iload_n 2, 1) := by decide +kernel
theorem dX5_state_19 : decode cX5_state 19 = .ok (.tableswitch 74 0 4 #[33, 38, 51, 64, 69], 33) := by decide +kernel
theorem dX5_state_52 : decode cX5_state 52 = .ok (.aload_n 3, 1) := by decide +kernel
theorem dX5_state_53 : decode cX5_state 53 = .ok (.getfield 116, 3) := by decide +kernel
theorem dX5_state_56 : decode cX5_state 56 = .ok (.ireturn, 1) := by decide +kernel
theorem dX5_state_57 : decode cX5_state 57 = .ok (.aload_n 3, 1) := by decide +kernel
theorem dX5_state_58 : decode cX5_state 58 = .ok (.getfield 119, 3) := by decide +kernel
theorem dX5_state_61 : decode cX5_state 61 = .ok (.ifCond .eq 7, 3) := by decide +kernel
theorem dX5_state_64 : decode cX5_state 64 = .ok (.iconst 1, 1) := by decide +kernel
theorem dX5_state_65 : decode cX5_state 65 = .ok (.goto 4, 3) := by decide +kernel
theorem dX5_state_68 : decode cX5_state 68 = .ok (.iconst 0, 1) := by decide +kernel
theorem dX5_state_69 : decode cX5_state 69 = .ok (.ireturn, 1) := by decide +kernel
theorem dX5_state_70 : decode cX5_state 70 = .ok (.aload_n 3, 1) := by decide +kernel
theorem dX5_state_71 : decode cX5_state 71 = .ok (.getfield 45, 3) := by decide +kernel
theorem dX5_state_74 : decode cX5_state 74 = .ok (.ifCond .eq 7, 3) := by decide +kernel
theorem dX5_state_77 : decode cX5_state 77 = .ok (.iconst 1, 1) := by decide +kernel
theorem dX5_state_78 : decode cX5_state 78 = .ok (.goto 4, 3) := by decide +kernel
theorem dX5_state_81 : decode cX5_state 81 = .ok (.iconst 0, 1) := by decide +kernel
theorem dX5_state_82 : decode cX5_state 82 = .ok (.ireturn, 1) := by decide +kernel
theorem dX5_state_83 : decode cX5_state 83 = .ok (.aload_n 3, 1) := by decide +kernel
theorem dX5_state_84 : decode cX5_state 84 = .ok (.getfield 87, 3) := by decide +kernel
theorem dX5_state_87 : decode cX5_state 87 = .ok (.ireturn, 1) := by decide +kernel
theorem dX5_state_88 : decode cX5_state 88 = .ok (.aload_n 3, 1) := by decide +kernel
theorem dX5_state_89 : decode cX5_state 89 = .ok (.getfield 122, 3) := by decide +kernel
theorem dX5_state_92 : decode cX5_state 92 = .ok (.ireturn, 1) := by decide +kernel
theorem dX5_state_93 : decode cX5_state 93 = .ok (.iconst (-1), 1) := by decide +kernel
theorem dX5_state_94 : decode cX5_state 94 = .ok (.ireturn, 1) := by decide +kernel
theorem dX5_waits_0 : decode cX5_waits 0 = .ok (.iload_n 1, 1) := by decide +kernel
theorem dX5_waits_1 : decode cX5_waits 1 = .ok (.bipush 30, 2) := by decide +kernel
theorem dX5_waits_3 : decode cX5_waits 3 = .ok (.invokestatic 41, 3) := by decide +kernel
theorem dX5_waits_6 : decode cX5_waits 6 = .ok (.ifCond .eq 19, 3) := by decide +kernel
theorem dX5_waits_9 : decode cX5_waits 9 = .ok (.iload_n 2, 1) := by decide +kernel
theorem dX5_waits_10 : decode cX5_waits 10 = .ok (.aload_n 0, 1) := by decide +kernel
theorem dX5_waits_11 : decode cX5_waits 11 = .ok (.getfield 19, 3) := by decide +kernel
theorem dX5_waits_14 : decode cX5_waits 14 = .ok (.getfield 125, 3) := by decide +kernel
theorem dX5_waits_17 : decode cX5_waits 17 = .ok (.iload_n 1, 1) := by decide +kernel
theorem dX5_waits_18 : decode cX5_waits 18 = .ok (.iaload, 1) := by decide +kernel
theorem dX5_waits_19 : decode cX5_waits 19 = .ok (.invokestatic 41, 3) := by decide +kernel
theorem dX5_waits_22 : decode cX5_waits 22 = .ok (.ifCond .ne 5, 3) := by decide +kernel
theorem dX5_waits_25 : decode cX5_waits 25 = .ok (.iconst (-1), 1) := by decide +kernel
theorem dX5_waits_26 : decode cX5_waits 26 = .ok (.ireturn, 1) := by decide +kernel
theorem dX5_waits_27 : decode cX5_waits 27 = .ok (.aload_n 0, 1) := by decide +kernel
theorem dX5_waits_28 : decode cX5_waits 28 = .ok (.getfield 19, 3) := by decide +kernel
theorem dX5_waits_31 : decode cX5_waits 31 = .ok (.getfield 128, 3) := by decide +kernel
theorem dX5_waits_34 : decode cX5_waits 34 = .ok (.iload_n 1, 1) := by decide +kernel
theorem dX5_waits_35 : decode cX5_waits 35 = .ok (.aaload, 1) := by decide +kernel
theorem dX5_waits_36 : decode cX5_waits 36 = .ok (.iload_n 2, 1) := by decide +kernel
theorem dX5_waits_37 : decode cX5_waits 37 = .ok (.iaload, 1) := by decide +kernel
theorem dX5_waits_38 : decode cX5_waits 38 = .ok (.ireturn, 1) := by decide +kernel
theorem dX5_endMessage_0 : decode cX5_endMessage 0 = .ok (.aload_n 0, 1) := by decide +kernel
theorem dX5_endMessage_1 : decode cX5_endMessage 1 = .ok (.getfield 33, 3) := by decide +kernel
theorem dX5_endMessage_4 : decode cX5_endMessage 4 = .ok (.aload_n 2, 1) := by decide +kernel
theorem dX5_endMessage_5 : decode cX5_endMessage 5 = .ok (.getfield 132, 3) := by decide +kernel
theorem dX5_endMessage_8 : decode cX5_endMessage 8 = .ok (.aload_n 2, 1) := by decide +kernel
theorem dX5_endMessage_9 : decode cX5_endMessage 9 = .ok (.getfield 77, 3) := by decide +kernel
theorem dX5_endMessage_12 : decode cX5_endMessage 12 = .ok (.invokevirtual 133, 3) := by decide +kernel
theorem dX5_endMessage_15 : decode cX5_endMessage 15 = .ok (.istore_n 3, 1) := by decide +kernel
theorem dX5_endMessage_16 : decode cX5_endMessage 16 = .ok (.aload_n 2, 1) := by decide +kernel
theorem dX5_endMessage_17 : decode cX5_endMessage 17 = .ok (.iconst 0, 1) := by decide +kernel
theorem dX5_endMessage_18 : decode cX5_endMessage 18 = .ok (.putfield 77, 3) := by decide +kernel
theorem dX5_endMessage_21 : decode cX5_endMessage 21 = .ok (.iload_n 3, 1) := by decide +kernel
theorem dX5_endMessage_22 : decode cX5_endMessage 22 = .ok (.ifCond .ne 23, 3) := by decide +kernel
theorem dX5_endMessage_25 : decode cX5_endMessage 25 = .ok (.aload_n 2, 1) := by decide +kernel
theorem dX5_endMessage_26 : decode cX5_endMessage 26 = .ok (.dup, 1) := by decide +kernel
theorem dX5_endMessage_27 : decode cX5_endMessage 27 = .ok (.getfield 122, 3) := by decide +kernel
theorem dX5_endMessage_30 : decode cX5_endMessage 30 = .ok (.iconst 1, 1) := by decide +kernel
theorem dX5_endMessage_31 : decode cX5_endMessage 31 = .ok (.iadd, 1) := by decide +kernel
theorem dX5_endMessage_32 : decode cX5_endMessage 32 = .ok (.putfield 122, 3) := by decide +kernel
theorem dX5_endMessage_35 : decode cX5_endMessage 35 = .ok (.aload_n 2, 1) := by decide +kernel
theorem dX5_endMessage_36 : decode cX5_endMessage 36 = .ok (.getfield 57, 3) := by decide +kernel
theorem dX5_endMessage_39 : decode cX5_endMessage 39 = .ok (.invokevirtual 137, 3) := by decide +kernel
theorem dX5_endMessage_42 : decode cX5_endMessage 42 = .ok (.goto 82, 3) := by decide +kernel
theorem dX5_endMessage_45 : decode cX5_endMessage 45 = .ok (.aload_n 0, 1) := by decide +kernel
theorem dX5_endMessage_46 : decode cX5_endMessage 46 = .ok (.getfield 33, 3) := by decide +kernel
theorem dX5_endMessage_49 : decode cX5_endMessage 49 = .ok (.getfield 140, 3) := by decide +kernel
theorem dX5_endMessage_52 : decode cX5_endMessage 52 = .ok (.bipush 81, 2) := by decide +kernel
theorem dX5_endMessage_54 : decode cX5_endMessage 54 = .ok (.if_icmp .ne 27, 3) := by decide +kernel
theorem dX5_endMessage_57 : decode cX5_endMessage 57 = .ok (.aload_n 2, 1) := by decide +kernel
theorem dX5_endMessage_58 : decode cX5_endMessage 58 = .ok (.getfield 143, 3) := by decide +kernel
theorem dX5_endMessage_61 : decode cX5_endMessage 61 = .ok (.getfield 61, 3) := by decide +kernel
theorem dX5_endMessage_64 : decode cX5_endMessage 64 = .ok (.ifCond .ne 17, 3) := by decide +kernel
theorem dX5_endMessage_67 : decode cX5_endMessage 67 = .ok (.aload_n 2, 1) := by decide +kernel
theorem dX5_endMessage_68 : decode cX5_endMessage 68 = .ok (.getfield 57, 3) := by decide +kernel
theorem dX5_endMessage_71 : decode cX5_endMessage 71 = .ok (.aload_n 0, 1) := by decide +kernel
theorem dX5_endMessage_72 : decode cX5_endMessage 72 = .ok (.getfield 33, 3) := by decide +kernel
theorem dX5_endMessage_75 : decode cX5_endMessage 75 = .ok (.invokevirtual 146, 3) := by decide +kernel
theorem dX5_endMessage_78 : decode cX5_endMessage 78 = .ok (.goto 46, 3) := by decide +kernel
theorem dX5_endMessage_81 : decode cX5_endMessage 81 = .ok (.aload_n 0, 1) := by decide +kernel
theorem dX5_endMessage_82 : decode cX5_endMessage 82 = .ok (.getfield 33, 3) := by decide +kernel
theorem dX5_endMessage_85 : decode cX5_endMessage 85 = .ok (.getfield 140, 3) := by decide +kernel
theorem dX5_endMessage_88 : decode cX5_endMessage 88 = .ok (.bipush 81, 2) := by decide +kernel
theorem dX5_endMessage_90 : decode cX5_endMessage 90 = .ok (.if_icmp .eq 23, 3) := by decide +kernel
theorem dX5_endMessage_93 : decode cX5_endMessage 93 = .ok (.aload_n 0, 1) := by decide +kernel
theorem dX5_endMessage_94 : decode cX5_endMessage 94 = .ok (.getfield 33, 3) := by decide +kernel
theorem dX5_endMessage_97 : decode cX5_endMessage 97 = .ok (.getfield 150, 3) := by decide +kernel
theorem dX5_endMessage_100 : decode cX5_endMessage 100 = .ok (.aload_n 2, 1) := by decide +kernel
theorem dX5_endMessage_101 : decode cX5_endMessage 101 = .ok (.getfield 116, 3) := by decide +kernel
theorem dX5_endMessage_104 : decode cX5_endMessage 104 = .ok (.if_icmp .eq 9, 3) := by decide +kernel
theorem dX5_endMessage_107 : decode cX5_endMessage 107 = .ok (.aload_n 0, 1) := by decide +kernel
theorem dX5_endMessage_108 : decode cX5_endMessage 108 = .ok (.iload_n 1, 1) := by decide +kernel
theorem dX5_endMessage_109 : decode cX5_endMessage 109 = .ok (.aload_n 2, 1) := by decide +kernel
theorem dX5_endMessage_110 : decode cX5_endMessage 110 = .ok (.invokevirtual 153, 3) := by decide +kernel
theorem dX5_endMessage_113 : decode cX5_endMessage 113 = .ok (.aload_n 2, 1) := by decide +kernel
theorem dX5_endMessage_114 : decode cX5_endMessage 114 = .ok (.getfield 57, 3) := by decide +kernel
theorem dX5_endMessage_117 : decode cX5_endMessage 117 = .ok (.aload_n 2, 1) := by decide +kernel
theorem dX5_endMessage_118 : decode cX5_endMessage 118 = .ok (.getfield 143, 3) := by decide +kernel
theorem dX5_endMessage_121 : decode cX5_endMessage 121 = .ok (.invokevirtual 156, 3) := by decide +kernel
theorem dX5_endMessage_124 : decode cX5_endMessage 124 = .ok (.return_, 1) := by decide +kernel
theorem dX5_isBelow_0 : decode cX5_isBelow 0 = .ok (.iload_n 0, 1) := by decide +kernel
theorem dX5_isBelow_1 : decode cX5_isBelow 1 = .ok (.ifCond .lt 12, 3) := by decide +kernel
theorem dX5_isBelow_4 : decode cX5_isBelow 4 = .ok (.iload_n 0, 1) := by decide +kernel
theorem dX5_isBelow_5 : decode cX5_isBelow 5 = .ok (.iload_n 1, 1) := by decide +kernel
theorem dX5_isBelow_6 : decode cX5_isBelow 6 = .ok (.if_icmp .ge 7, 3) := by decide +kernel
theorem dX5_isBelow_9 : decode cX5_isBelow 9 = .ok (.iconst 1, 1) := by decide +kernel
theorem dX5_isBelow_10 : decode cX5_isBelow 10 = .ok (.goto 4, 3) := by decide +kernel
theorem dX5_isBelow_13 : decode cX5_isBelow 13 = .ok (.iconst 0, 1) := by decide +kernel
theorem dX5_isBelow_14 : decode cX5_isBelow 14 = .ok (.ireturn, 1) := by decide +kernel
theorem dX5_hexDigit_0 : decode cX5_hexDigit 0 = .ok (.iload_n 0, 1) := by decide +kernel
theorem dX5_hexDigit_1 : decode cX5_hexDigit 1 = .ok (.bipush 15, 2) := by decide +kernel
theorem dX5_hexDigit_3 : decode cX5_hexDigit 3 = .ok (.iand, 1) := by decide +kernel
theorem dX5_hexDigit_4 : decode cX5_hexDigit 4 = .ok (.istore_n 1, 1) := by decide +kernel
theorem dX5_hexDigit_5 : decode cX5_hexDigit 5 = .ok (.iload_n 1, 1) := by decide +kernel
theorem dX5_hexDigit_6 : decode cX5_hexDigit 6 = .ok (.bipush 10, 2) := by decide +kernel
theorem dX5_hexDigit_8 : decode cX5_hexDigit 8 = .ok (.if_icmp .ge 10, 3) := by decide +kernel
theorem dX5_hexDigit_11 : decode cX5_hexDigit 11 = .ok (.bipush 48, 2) := by decide +kernel
theorem dX5_hexDigit_13 : decode cX5_hexDigit 13 = .ok (.iload_n 1, 1) := by decide +kernel
theorem dX5_hexDigit_14 : decode cX5_hexDigit 14 = .ok (.iadd, 1) := by decide +kernel
theorem dX5_hexDigit_15 : decode cX5_hexDigit 15 = .ok (.goto 10, 3) := by decide +kernel
theorem dX5_hexDigit_18 : decode cX5_hexDigit 18 = .ok (.bipush 65, 2) := by decide +kernel
theorem dX5_hexDigit_20 : decode cX5_hexDigit 20 = .ok (.iload_n 1, 1) := by decide +kernel
theorem dX5_hexDigit_21 : decode cX5_hexDigit 21 = .ok (.iadd, 1) := by decide +kernel
theorem dX5_hexDigit_22 : decode cX5_hexDigit 22 = .ok (.bipush 10, 2) := by decide +kernel
theorem dX5_hexDigit_24 : decode cX5_hexDigit 24 = .ok (.isub, 1) := by decide +kernel
theorem dX5_hexDigit_25 : decode cX5_hexDigit 25 = .ok (.ireturn, 1) := by decide +kernel
theorem dX5_sumOf_0 : decode cX5_sumOf 0 = .ok (.iconst 0, 1) := by decide +kernel
theorem dX5_sumOf_1 : decode cX5_sumOf 1 = .ok (.istore_n 2, 1) := by decide +kernel
theorem dX5_sumOf_2 : decode cX5_sumOf 2 = .ok (.iconst 0, 1) := by decide +kernel
theorem dX5_sumOf_3 : decode cX5_sumOf 3 = .ok (.istore_n 3, 1) := by decide +kernel
theorem dX5_sumOf_4 : decode cX5_sumOf 4 = .ok (.iload_n 3, 1) := by decide +kernel
theorem dX5_sumOf_5 : decode cX5_sumOf 5 = .ok (.iload_n 1, 1) := by decide +kernel
theorem dX5_sumOf_6 : decode cX5_sumOf 6 = .ok (.if_icmp .ge 21, 3) := by decide +kernel
theorem dX5_sumOf_9 : decode cX5_sumOf 9 = .ok (.iload_n 3, 1) := by decide +kernel
theorem dX5_sumOf_10 : decode cX5_sumOf 10 = .ok (.aload_n 0, 1) := by decide +kernel
theorem dX5_sumOf_11 : decode cX5_sumOf 11 = .ok (.arraylength, 1) := by decide +kernel
theorem dX5_sumOf_12 : decode cX5_sumOf 12 = .ok (.if_icmp .ge 15, 3) := by decide +kernel
theorem dX5_sumOf_15 : decode cX5_sumOf 15 = .ok (.iload_n 2, 1) := by decide +kernel
theorem dX5_sumOf_16 : decode cX5_sumOf 16 = .ok (.aload_n 0, 1) := by decide +kernel
theorem dX5_sumOf_17 : decode cX5_sumOf 17 = .ok (.iload_n 3, 1) := by decide +kernel
theorem dX5_sumOf_18 : decode cX5_sumOf 18 = .ok (.iaload, 1) := by decide +kernel
theorem dX5_sumOf_19 : decode cX5_sumOf 19 = .ok (.iadd, 1) := by decide +kernel
theorem dX5_sumOf_20 : decode cX5_sumOf 20 = .ok (.istore_n 2, 1) := by decide +kernel
theorem dX5_sumOf_21 : decode cX5_sumOf 21 = .ok (.iinc 3 1, 3) := by decide +kernel
theorem dX5_sumOf_24 : decode cX5_sumOf 24 = .ok (.goto (-20), 3) := by decide +kernel
theorem dX5_sumOf_27 : decode cX5_sumOf 27 = .ok (.iload_n 2, 1) := by decide +kernel
theorem dX5_sumOf_28 : decode cX5_sumOf 28 = .ok (.sipush 255, 3) := by decide +kernel
theorem dX5_sumOf_31 : decode cX5_sumOf 31 = .ok (.iand, 1) := by decide +kernel
theorem dX5_sumOf_32 : decode cX5_sumOf 32 = .ok (.ireturn, 1) := by decide +kernel
theorem dX2_init_0 : decode cX2_init 0 = .ok (.aload_n 0, 1) := by decide +kernel
theorem dX2_init_1 : decode cX2_init 1 = .ok (.invokespecial 3, 3) := by decide +kernel
theorem dX2_init_4 : decode cX2_init 4 = .ok (.aload_n 0, 1) := by decide +kernel
theorem dX2_init_5 : decode cX2_init 5 = .ok (.bipush 60, 2) := by decide +kernel
theorem dX2_init_7 : decode cX2_init 7 = .ok (.newarray .int, 2) := by decide +kernel
theorem dX2_init_9 : decode cX2_init 9 = .ok (.putfield 9, 3) := by decide +kernel
theorem dX2_init_12 : decode cX2_init 12 = .ok (.aload_n 0, 1) := by decide +kernel
theorem dX2_init_13 : decode cX2_init 13 = .ok (.iconst 0, 1) := by decide +kernel
theorem dX2_init_14 : decode cX2_init 14 = .ok (.putfield 15, 3) := by decide +kernel
theorem dX2_init_17 : decode cX2_init 17 = .ok (.aload_n 0, 1) := by decide +kernel
theorem dX2_init_18 : decode cX2_init 18 = .ok (.iconst 0, 1) := by decide +kernel
theorem dX2_init_19 : decode cX2_init 19 = .ok (.putfield 19, 3) := by decide +kernel
theorem dX2_init_22 : decode cX2_init 22 = .ok (.aload_n 0, 1) := by decide +kernel
theorem dX2_init_23 : decode cX2_init 23 = .ok (.iconst 0, 1) := by decide +kernel
theorem dX2_init_24 : decode cX2_init 24 = .ok (.putfield 23, 3) := by decide +kernel
theorem dX2_init_27 : decode cX2_init 27 = .ok (.aload_n 0, 1) := by decide +kernel
theorem dX2_init_28 : decode cX2_init 28 = .ok (.iconst (-1), 1) := by decide +kernel
theorem dX2_init_29 : decode cX2_init 29 = .ok (.putfield 26, 3) := by decide +kernel
theorem dX2_init_32 : decode cX2_init 32 = .ok (.aload_n 0, 1) := by decide +kernel
theorem dX2_init_33 : decode cX2_init 33 = .ok (.iconst 0, 1) := by decide +kernel
theorem dX2_init_34 : decode cX2_init 34 = .ok (.putfield 29, 3) := by decide +kernel
theorem dX2_init_37 : decode cX2_init 37 = .ok (.aload_n 0, 1) := by decide +kernel
theorem dX2_init_38 : decode cX2_init 38 = .ok (.new 32, 3) := by decide +kernel
theorem dX2_init_41 : decode cX2_init 41 = .ok (.dup, 1) := by decide +kernel
theorem dX2_init_42 : decode cX2_init 42 = .ok (.invokespecial 34, 3) := by decide +kernel
theorem dX2_init_45 : decode cX2_init 45 = .ok (.putfield 35, 3) := by decide +kernel
theorem dX2_init_48 : decode cX2_init 48 = .ok (.aload_n 0, 1) := by decide +kernel
theorem dX2_init_49 : decode cX2_init 49 = .ok (.new 32, 3) := by decide +kernel
theorem dX2_init_52 : decode cX2_init 52 = .ok (.dup, 1) := by decide +kernel
theorem dX2_init_53 : decode cX2_init 53 = .ok (.invokespecial 34, 3) := by decide +kernel
theorem dX2_init_56 : decode cX2_init 56 = .ok (.putfield 39, 3) := by decide +kernel
theorem dX2_init_59 : decode cX2_init 59 = .ok (.aload_n 0, 1) := by decide +kernel
theorem dX2_init_60 : decode cX2_init 60 = .ok (.bipush 20, 2) := by decide +kernel
theorem dX2_init_62 : decode cX2_init 62 = .ok (.newarray .int, 2) := by decide +kernel
theorem dX2_init_64 : decode cX2_init 64 = .ok (.putfield 42, 3) := by decide +kernel
theorem dX2_init_67 : decode cX2_init 67 = .ok (.aload_n 0, 1) := by decide +kernel
theorem dX2_init_68 : decode cX2_init 68 = .ok (.bipush 20, 2) := by decide +kernel
theorem dX2_init_70 : decode cX2_init 70 = .ok (.newarray .int, 2) := by decide +kernel
theorem dX2_init_72 : decode cX2_init 72 = .ok (.putfield 45, 3) := by decide +kernel
theorem dX2_init_75 : decode cX2_init 75 = .ok (.aload_n 0, 1) := by decide +kernel
theorem dX2_init_76 : decode cX2_init 76 = .ok (.bipush 20, 2) := by decide +kernel
theorem dX2_init_78 : decode cX2_init 78 = .ok (.newarray .int, 2) := by decide +kernel
theorem dX2_init_80 : decode cX2_init 80 = .ok (.putfield 48, 3) := by decide +kernel
theorem dX2_init_83 : decode cX2_init 83 = .ok (.aload_n 0, 1) := by decide +kernel
theorem dX2_init_84 : decode cX2_init 84 = .ok (.iconst 0, 1) := by decide +kernel
theorem dX2_init_85 : decode cX2_init 85 = .ok (.putfield 51, 3) := by decide +kernel
theorem dX2_init_88 : decode cX2_init 88 = .ok (.return_, 1) := by decide +kernel
theorem dX2_take_0 : decode cX2_take 0 = .ok (.aload_n 0, 1) := by decide +kernel
theorem dX2_take_1 : decode cX2_take 1 = .ok (.getfield 19, 3) := by decide +kernel
theorem dX2_take_4 : decode cX2_take 4 = .ok (.ifCond .eq 6, 3) := by decide +kernel
theorem dX2_take_7 : decode cX2_take 7 = .ok (.bipush (-2), 2) := by decide +kernel
theorem dX2_take_9 : decode cX2_take 9 = .ok (.ireturn, 1) := by decide +kernel
theorem dX2_take_10 : decode cX2_take 10 = .ok (.aload_n 0, 1) := by decide +kernel
theorem dX2_take_11 : decode cX2_take 11 = .ok (.getfield 15, 3) := by decide +kernel
theorem dX2_take_14 : decode cX2_take 14 = .ok (.bipush 60, 2) := by decide +kernel
theorem dX2_take_16 : decode cX2_take 16 = .ok (.invokestatic 54, 3) := by decide +kernel
theorem dX2_take_19 : decode cX2_take 19 = .ok (.ifCond .eq 28, 3) := by decide +kernel
theorem dX2_take_22 : decode cX2_take 22 = .ok (.aload_n 0, 1) := by decide +kernel
theorem dX2_take_23 : decode cX2_take 23 = .ok (.getfield 9, 3) := by decide +kernel
theorem dX2_take_26 : decode cX2_take 26 = .ok (.aload_n 0, 1) := by decide +kernel
theorem dX2_take_27 : decode cX2_take 27 = .ok (.getfield 15, 3) := by decide +kernel
theorem dX2_take_30 : decode cX2_take 30 = .ok (.iload_n 1, 1) := by decide +kernel
theorem dX2_take_31 : decode cX2_take 31 = .ok (.iastore, 1) := by decide +kernel
theorem dX2_take_32 : decode cX2_take 32 = .ok (.aload_n 0, 1) := by decide +kernel
theorem dX2_take_33 : decode cX2_take 33 = .ok (.dup, 1) := by decide +kernel
theorem dX2_take_34 : decode cX2_take 34 = .ok (.getfield 15, 3) := by decide +kernel
theorem dX2_take_37 : decode cX2_take 37 = .ok (.iconst 1, 1) := by decide +kernel
theorem dX2_take_38 : decode cX2_take 38 = .ok (.iadd, 1) := by decide +kernel
theorem dX2_take_39 : decode cX2_take 39 = .ok (.putfield 15, 3) := by decide +kernel
theorem dX2_take_42 : decode cX2_take 42 = .ok (.aload_n 0, 1) := by decide +kernel
theorem dX2_take_43 : decode cX2_take 43 = .ok (.getfield 15, 3) := by decide +kernel
theorem dX2_take_46 : decode cX2_take 46 = .ok (.ireturn, 1) := by decide +kernel
theorem dX2_take_47 : decode cX2_take 47 = .ok (.aload_n 0, 1) := by decide +kernel
theorem dX2_take_48 : decode cX2_take 48 = .ok (.dup, 1) := by decide +kernel
theorem dX2_take_49 : decode cX2_take 49 = .ok (.getfield 15, 3) := by decide +kernel
theorem dX2_take_52 : decode cX2_take 52 = .ok (.iconst 1, 1) := by decide +kernel
theorem dX2_take_53 : decode cX2_take 53 = .ok (.iadd, 1) := by decide +kernel
theorem dX2_take_54 : decode cX2_take 54 = .ok (.putfield 15, 3) := by decide +kernel
theorem dX2_take_57 : decode cX2_take 57 = .ok (.aload_n 0, 1) := by decide +kernel
theorem dX2_take_58 : decode cX2_take 58 = .ok (.iconst 1, 1) := by decide +kernel
theorem dX2_take_59 : decode cX2_take 59 = .ok (.putfield 19, 3) := by decide +kernel
theorem dX2_take_62 : decode cX2_take 62 = .ok (.bipush (-2), 2) := by decide +kernel
theorem dX2_take_64 : decode cX2_take 64 = .ok (.ireturn, 1) := by decide +kernel
theorem dX2_clear_0 : decode cX2_clear 0 = .ok (.aload_n 0, 1) := by decide +kernel
theorem dX2_clear_1 : decode cX2_clear 1 = .ok (.iconst 0, 1) := by decide +kernel
theorem dX2_clear_2 : decode cX2_clear 2 = .ok (.putfield 15, 3) := by decide +kernel
theorem dX2_clear_5 : decode cX2_clear 5 = .ok (.aload_n 0, 1) := by decide +kernel
theorem dX2_clear_6 : decode cX2_clear 6 = .ok (.iconst 0, 1) := by decide +kernel
theorem dX2_clear_7 : decode cX2_clear 7 = .ok (.putfield 19, 3) := by decide +kernel
theorem dX2_clear_10 : decode cX2_clear 10 = .ok (.aload_n 0, 1) := by decide +kernel
theorem dX2_clear_11 : decode cX2_clear 11 = .ok (.iconst 0, 1) := by decide +kernel
theorem dX2_clear_12 : decode cX2_clear 12 = .ok (.putfield 23, 3) := by decide +kernel
theorem dX2_clear_15 : decode cX2_clear 15 = .ok (.aload_n 0, 1) := by decide +kernel
theorem dX2_clear_16 : decode cX2_clear 16 = .ok (.iconst (-1), 1) := by decide +kernel
theorem dX2_clear_17 : decode cX2_clear 17 = .ok (.putfield 26, 3) := by decide +kernel
theorem dX2_clear_20 : decode cX2_clear 20 = .ok (.aload_n 0, 1) := by decide +kernel
theorem dX2_clear_21 : decode cX2_clear 21 = .ok (.iconst 0, 1) := by decide +kernel
theorem dX2_clear_22 : decode cX2_clear 22 = .ok (.putfield 29, 3) := by decide +kernel
theorem dX2_clear_25 : decode cX2_clear 25 = .ok (.aload_n 0, 1) := by decide +kernel
theorem dX2_clear_26 : decode cX2_clear 26 = .ok (.getfield 35, 3) := by decide +kernel
theorem dX2_clear_29 : decode cX2_clear 29 = .ok (.iconst 0, 1) := by decide +kernel
theorem dX2_clear_30 : decode cX2_clear 30 = .ok (.putfield 58, 3) := by decide +kernel
theorem dX2_clear_33 : decode cX2_clear 33 = .ok (.aload_n 0, 1) := by decide +kernel
theorem dX2_clear_34 : decode cX2_clear 34 = .ok (.getfield 39, 3) := by decide +kernel
theorem dX2_clear_37 : decode cX2_clear 37 = .ok (.iconst 0, 1) := by decide +kernel
theorem dX2_clear_38 : decode cX2_clear 38 = .ok (.putfield 58, 3) := by decide +kernel
theorem dX2_clear_41 : decode cX2_clear 41 = .ok (.return_, 1) := by decide +kernel
theorem dX2_addRow_0 : decode cX2_addRow 0 = .ok (.aload_n 0, 1) := by decide +kernel
theorem dX2_addRow_1 : decode cX2_addRow 1 = .ok (.getfield 51, 3) := by decide +kernel
theorem dX2_addRow_4 : decode cX2_addRow 4 = .ok (.bipush 20, 2) := by decide +kernel
theorem dX2_addRow_6 : decode cX2_addRow 6 = .ok (.invokestatic 54, 3) := by decide +kernel
theorem dX2_addRow_9 : decode cX2_addRow 9 = .ok (.ifCond .ne 6, 3) := by decide +kernel
theorem dX2_addRow_12 : decode cX2_addRow 12 = .ok (.bipush (-2), 2) := by decide +kernel
theorem dX2_addRow_14 : decode cX2_addRow 14 = .ok (.ireturn, 1) := by decide +kernel
theorem dX2_addRow_15 : decode cX2_addRow 15 = .ok (.aload_n 0, 1) := by decide +kernel
theorem dX2_addRow_16 : decode cX2_addRow 16 = .ok (.getfield 42, 3) := by decide +kernel
theorem dX2_addRow_19 : decode cX2_addRow 19 = .ok (.aload_n 0, 1) := by decide +kernel
theorem dX2_addRow_20 : decode cX2_addRow 20 = .ok (.getfield 51, 3) := by decide +kernel
theorem dX2_addRow_23 : decode cX2_addRow 23 = .ok (.iload_n 1, 1) := by decide +kernel
theorem dX2_addRow_24 : decode cX2_addRow 24 = .ok (.iastore, 1) := by decide +kernel
theorem dX2_addRow_25 : decode cX2_addRow 25 = .ok (.aload_n 0, 1) := by decide +kernel
theorem dX2_addRow_26 : decode cX2_addRow 26 = .ok (.getfield 45, 3) := by decide +kernel
theorem dX2_addRow_29 : decode cX2_addRow 29 = .ok (.aload_n 0, 1) := by decide +kernel
theorem dX2_addRow_30 : decode cX2_addRow 30 = .ok (.getfield 51, 3) := by decide +kernel
theorem dX2_addRow_33 : decode cX2_addRow 33 = .ok (.iload_n 2, 1) := by decide +kernel
theorem dX2_addRow_34 : decode cX2_addRow 34 = .ok (.iastore, 1) := by decide +kernel
theorem dX2_addRow_35 : decode cX2_addRow 35 = .ok (.aload_n 0, 1) := by decide +kernel
theorem dX2_addRow_36 : decode cX2_addRow 36 = .ok (.getfield 48, 3) := by decide +kernel
theorem dX2_addRow_39 : decode cX2_addRow 39 = .ok (.aload_n 0, 1) := by decide +kernel
theorem dX2_addRow_40 : decode cX2_addRow 40 = .ok (.getfield 51, 3) := by decide +kernel
theorem dX2_addRow_43 : decode cX2_addRow 43 = .ok (.iload_n 3, 1) := by decide +kernel
theorem dX2_addRow_44 : decode cX2_addRow 44 = .ok (.iastore, 1) := by decide +kernel
theorem dX2_addRow_45 : decode cX2_addRow 45 = .ok (.aload_n 0, 1) := by decide +kernel
theorem dX2_addRow_46 : decode cX2_addRow 46 = .ok (.dup, 1) := by decide +kernel
theorem dX2_addRow_47 : decode cX2_addRow 47 = .ok (.getfield 51, 3) := by decide +kernel
theorem dX2_addRow_50 : decode cX2_addRow 50 = .ok (.iconst 1, 1) := by decide +kernel
theorem dX2_addRow_51 : decode cX2_addRow 51 = .ok (.iadd, 1) := by decide +kernel
theorem dX2_addRow_52 : decode cX2_addRow 52 = .ok (.putfield 51, 3) := by decide +kernel
theorem dX2_addRow_55 : decode cX2_addRow 55 = .ok (.aload_n 0, 1) := by decide +kernel
theorem dX2_addRow_56 : decode cX2_addRow 56 = .ok (.getfield 51, 3) := by decide +kernel
theorem dX2_addRow_59 : decode cX2_addRow 59 = .ok (.ireturn, 1) := by decide +kernel
theorem dX3_init_0 : decode cX3_init 0 = .ok (.aload_n 0, 1) := by decide +kernel
theorem dX3_init_1 : decode cX3_init 1 = .ok (.invokespecial 3, 3) := by decide +kernel
theorem dX3_init_4 : decode cX3_init 4 = .ok (.aload_n 0, 1) := by decide +kernel
theorem dX3_init_5 : decode cX3_init 5 = .ok (.iconst 0, 1) := by decide +kernel
theorem dX3_init_6 : decode cX3_init 6 = .ok (.putfield 9, 3) := by decide +kernel
theorem dX3_init_9 : decode cX3_init 9 = .ok (.aload_n 0, 1) := by decide +kernel
theorem dX3_init_10 : decode cX3_init 10 = .ok (.iconst (-1), 1) := by decide +kernel
theorem dX3_init_11 : decode cX3_init 11 = .ok (.putfield 15, 3) := by decide +kernel
theorem dX3_init_14 : decode cX3_init 14 = .ok (.aload_n 0, 1) := by decide +kernel
theorem dX3_init_15 : decode cX3_init 15 = .ok (.iconst (-1), 1) := by decide +kernel
theorem dX3_init_16 : decode cX3_init 16 = .ok (.putfield 18, 3) := by decide +kernel
theorem dX3_init_19 : decode cX3_init 19 = .ok (.aload_n 0, 1) := by decide +kernel
theorem dX3_init_20 : decode cX3_init 20 = .ok (.iconst (-1), 1) := by decide +kernel
theorem dX3_init_21 : decode cX3_init 21 = .ok (.putfield 21, 3) := by decide +kernel
theorem dX3_init_24 : decode cX3_init 24 = .ok (.aload_n 0, 1) := by decide +kernel
theorem dX3_init_25 : decode cX3_init 25 = .ok (.iconst (-1), 1) := by decide +kernel
theorem dX3_init_26 : decode cX3_init 26 = .ok (.putfield 24, 3) := by decide +kernel
theorem dX3_init_29 : decode cX3_init 29 = .ok (.return_, 1) := by decide +kernel
theorem dX3_read_0 : decode cX3_read 0 = .ok (.aload_n 0, 1) := by decide +kernel
theorem dX3_read_1 : decode cX3_read 1 = .ok (.invokevirtual 27, 3) := by decide +kernel
theorem dX3_read_4 : decode cX3_read 4 = .ok (.iload_n 2, 1) := by decide +kernel
theorem dX3_read_5 : decode cX3_read 5 = .ok (.iconst 2, 1) := by decide +kernel
theorem dX3_read_6 : decode cX3_read 6 = .ok (.if_icmp .lt 9, 3) := by decide +kernel
theorem dX3_read_9 : decode cX3_read 9 = .ok (.iload_n 2, 1) := by decide +kernel
theorem dX3_read_10 : decode cX3_read 10 = .ok (.aload_n 1, 1) := by decide +kernel
theorem dX3_read_11 : decode cX3_read 11 = .ok (.arraylength, 1) := by decide +kernel
theorem dX3_read_12 : decode cX3_read 12 = .ok (.if_icmp .le 5, 3) := by decide +kernel
theorem dX3_read_15 : decode cX3_read 15 = .ok (.iconst 0, 1) := by decide +kernel
theorem dX3_read_16 : decode cX3_read 16 = .ok (.ireturn, 1) := by decide +kernel
theorem dX3_read_17 : decode cX3_read 17 = .ok (.aload_n 1, 1) := by decide +kernel
theorem dX3_read_18 : decode cX3_read 18 = .ok (.iconst 0, 1) := by decide +kernel
theorem dX3_read_19 : decode cX3_read 19 = .ok (.iaload, 1) := by decide +kernel
theorem dX3_read_20 : decode cX3_read 20 = .ok (.invokestatic 30, 3) := by decide +kernel
theorem dX3_read_23 : decode cX3_read 23 = .ok (.astore_n 3, 1) := by decide +kernel
theorem dX3_read_24 : decode cX3_read 24 = .ok (.aload_n 3, 1) := by decide +kernel
theorem dX3_read_25 : decode cX3_read 25 = .ok (.ifnull 12, 3) := by decide +kernel
theorem dX3_read_28 : decode cX3_read 28 = .ok (.aload_n 1, 1) := by decide +kernel
theorem dX3_read_29 : decode cX3_read 29 = .ok (.iconst 1, 1) := by decide +kernel
theorem dX3_read_30 : decode cX3_read 30 = .ok (.iaload, 1) := by decide +kernel
theorem dX3_read_31 : decode cX3_read 31 = .ok (.invokestatic 34, 3) := by decide +kernel
theorem dX3_read_34 : decode cX3_read 34 = .ok (.ifCond .ne 5, 3) := by decide +kernel
theorem dX3_read_37 : decode cX3_read 37 = .ok (.iconst 0, 1) := by decide +kernel
theorem dX3_read_38 : decode cX3_read 38 = .ok (.ireturn, 1) := by decide +kernel
theorem dX3_read_39 : decode cX3_read 39 = .ok (.aload_n 0, 1) := by decide +kernel
theorem dX3_read_40 : decode cX3_read 40 = .ok (.aload_n 1, 1) := by decide +kernel
theorem dX3_read_41 : decode cX3_read 41 = .ok (.iconst 0, 1) := by decide +kernel
theorem dX3_read_42 : decode cX3_read 42 = .ok (.iaload, 1) := by decide +kernel
theorem dX3_read_43 : decode cX3_read 43 = .ok (.putfield 9, 3) := by decide +kernel
theorem dX3_read_46 : decode cX3_read 46 = .ok (.aload_n 0, 1) := by decide +kernel
theorem dX3_read_47 : decode cX3_read 47 = .ok (.aload_n 1, 1) := by decide +kernel
theorem dX3_read_48 : decode cX3_read 48 = .ok (.iconst 1, 1) := by decide +kernel
theorem dX3_read_49 : decode cX3_read 49 = .ok (.iaload, 1) := by decide +kernel
theorem dX3_read_50 : decode cX3_read 50 = .ok (.bipush 48, 2) := by decide +kernel
theorem dX3_read_52 : decode cX3_read 52 = .ok (.isub, 1) := by decide +kernel
theorem dX3_read_53 : decode cX3_read 53 = .ok (.putfield 15, 3) := by decide +kernel
theorem dX3_read_56 : decode cX3_read 56 = .ok (.iconst 2, 1) := by decide +kernel
theorem dX3_read_57 : decode cX3_read 57 = .ok (.istore 4, 2) := by decide +kernel
theorem dX3_read_59 : decode cX3_read 59 = .ok (.iconst 0, 1) := by decide +kernel
theorem dX3_read_60 : decode cX3_read 60 = .ok (.istore 5, 2) := by decide +kernel
theorem dX3_read_62 : decode cX3_read 62 = .ok (.iload 5, 2) := by decide +kernel
theorem dX3_read_64 : decode cX3_read 64 = .ok (.aload_n 3, 1) := by decide +kernel
theorem dX3_read_65 : decode cX3_read 65 = .ok (.invokevirtual 38, 3) := by decide +kernel
theorem dX3_read_68 : decode cX3_read 68 = .ok (.if_icmp .ge 33, 3) := by decide +kernel
theorem dX3_read_71 : decode cX3_read 71 = .ok (.aload_n 0, 1) := by decide +kernel
theorem dX3_read_72 : decode cX3_read 72 = .ok (.aload_n 3, 1) := by decide +kernel
theorem dX3_read_73 : decode cX3_read 73 = .ok (.iload 5, 2) := by decide +kernel
theorem dX3_read_75 : decode cX3_read 75 = .ok (.invokevirtual 44, 3) := by decide +kernel
theorem dX3_read_78 : decode cX3_read 78 = .ok (.aload_n 1, 1) := by decide +kernel
theorem dX3_read_79 : decode cX3_read 79 = .ok (.iload_n 2, 1) := by decide +kernel
theorem dX3_read_80 : decode cX3_read 80 = .ok (.iload 4, 2) := by decide +kernel
theorem dX3_read_82 : decode cX3_read 82 = .ok (.invokevirtual 48, 3) := by decide +kernel
theorem dX3_read_85 : decode cX3_read 85 = .ok (.istore 4, 2) := by decide +kernel
theorem dX3_read_87 : decode cX3_read 87 = .ok (.iload 4, 2) := by decide +kernel
theorem dX3_read_89 : decode cX3_read 89 = .ok (.iconst (-1), 1) := by decide +kernel
theorem dX3_read_90 : decode cX3_read 90 = .ok (.if_icmp .ne 5, 3) := by decide +kernel
theorem dX3_read_93 : decode cX3_read 93 = .ok (.iconst 0, 1) := by decide +kernel
theorem dX3_read_94 : decode cX3_read 94 = .ok (.ireturn, 1) := by decide +kernel
theorem dX3_read_95 : decode cX3_read 95 = .ok (.iinc 5 1, 3) := by decide +kernel
theorem dX3_read_98 : decode cX3_read 98 = .ok (.goto (-36), 3) := by decide +kernel
theorem dX3_read_101 : decode cX3_read 101 = .ok (.aload_n 1, 1) := by decide +kernel
theorem dX3_read_102 : decode cX3_read 102 = .ok (.iload_n 2, 1) := by decide +kernel
theorem dX3_read_103 : decode cX3_read 103 = .ok (.iload 4, 2) := by decide +kernel
theorem dX3_read_105 : decode cX3_read 105 = .ok (.invokestatic 52, 3) := by decide +kernel
theorem dX3_read_108 : decode cX3_read 108 = .ok (.ireturn, 1) := by decide +kernel
theorem dX3_forget_0 : decode cX3_forget 0 = .ok (.aload_n 0, 1) := by decide +kernel
theorem dX3_forget_1 : decode cX3_forget 1 = .ok (.iconst 0, 1) := by decide +kernel
theorem dX3_forget_2 : decode cX3_forget 2 = .ok (.putfield 9, 3) := by decide +kernel
theorem dX3_forget_5 : decode cX3_forget 5 = .ok (.aload_n 0, 1) := by decide +kernel
theorem dX3_forget_6 : decode cX3_forget 6 = .ok (.iconst (-1), 1) := by decide +kernel
theorem dX3_forget_7 : decode cX3_forget 7 = .ok (.putfield 15, 3) := by decide +kernel
theorem dX3_forget_10 : decode cX3_forget 10 = .ok (.aload_n 0, 1) := by decide +kernel
theorem dX3_forget_11 : decode cX3_forget 11 = .ok (.iconst (-1), 1) := by decide +kernel
theorem dX3_forget_12 : decode cX3_forget 12 = .ok (.putfield 18, 3) := by decide +kernel
theorem dX3_forget_15 : decode cX3_forget 15 = .ok (.aload_n 0, 1) := by decide +kernel
theorem dX3_forget_16 : decode cX3_forget 16 = .ok (.iconst (-1), 1) := by decide +kernel
theorem dX3_forget_17 : decode cX3_forget 17 = .ok (.putfield 21, 3) := by decide +kernel
theorem dX3_forget_20 : decode cX3_forget 20 = .ok (.aload_n 0, 1) := by decide +kernel
theorem dX3_forget_21 : decode cX3_forget 21 = .ok (.iconst (-1), 1) := by decide +kernel
theorem dX3_forget_22 : decode cX3_forget 22 = .ok (.putfield 24, 3) := by decide +kernel
theorem dX3_forget_25 : decode cX3_forget 25 = .ok (.return_, 1) := by decide +kernel
theorem dX4_init_0 : decode cX4_init 0 = .ok (.aload_n 0, 1) := by decide +kernel
theorem dX4_init_1 : decode cX4_init 1 = .ok (.invokespecial 3, 3) := by decide +kernel
theorem dX4_init_4 : decode cX4_init 4 = .ok (.aload_n 0, 1) := by decide +kernel
theorem dX4_init_5 : decode cX4_init 5 = .ok (.bipush 13, 2) := by decide +kernel
theorem dX4_init_7 : decode cX4_init 7 = .ok (.newarray .int, 2) := by decide +kernel
theorem dX4_init_9 : decode cX4_init 9 = .ok (.putfield 11, 3) := by decide +kernel
theorem dX4_init_12 : decode cX4_init 12 = .ok (.aload_n 0, 1) := by decide +kernel
theorem dX4_init_13 : decode cX4_init 13 = .ok (.iconst 0, 1) := by decide +kernel
theorem dX4_init_14 : decode cX4_init 14 = .ok (.putfield 15, 3) := by decide +kernel
theorem dX4_init_17 : decode cX4_init 17 = .ok (.return_, 1) := by decide +kernel
theorem dX4_writeWrong_0 : decode cX4_writeWrong 0 = .ok (.aload_n 0, 1) := by decide +kernel
theorem dX4_writeWrong_1 : decode cX4_writeWrong 1 = .ok (.iconst 0, 1) := by decide +kernel
theorem dX4_writeWrong_2 : decode cX4_writeWrong 2 = .ok (.putfield 15, 3) := by decide +kernel
theorem dX4_writeWrong_5 : decode cX4_writeWrong 5 = .ok (.aload_n 0, 1) := by decide +kernel
theorem dX4_writeWrong_6 : decode cX4_writeWrong 6 = .ok (.bipush 78, 2) := by decide +kernel
theorem dX4_writeWrong_8 : decode cX4_writeWrong 8 = .ok (.invokevirtual 19, 3) := by decide +kernel
theorem dX4_writeWrong_11 : decode cX4_writeWrong 11 = .ok (.aload_n 0, 1) := by decide +kernel
theorem dX4_writeWrong_12 : decode cX4_writeWrong 12 = .ok (.invokevirtual 23, 3) := by decide +kernel
theorem dX4_writeWrong_15 : decode cX4_writeWrong 15 = .ok (.return_, 1) := by decide +kernel
theorem dX4_addSumAndEnd_0 : decode cX4_addSumAndEnd 0 = .ok (.aload_n 0, 1) := by decide +kernel
theorem dX4_addSumAndEnd_1 : decode cX4_addSumAndEnd 1 = .ok (.getfield 11, 3) := by decide +kernel
theorem dX4_addSumAndEnd_4 : decode cX4_addSumAndEnd 4 = .ok (.aload_n 0, 1) := by decide +kernel
theorem dX4_addSumAndEnd_5 : decode cX4_addSumAndEnd 5 = .ok (.getfield 15, 3) := by decide +kernel
theorem dX4_addSumAndEnd_8 : decode cX4_addSumAndEnd 8 = .ok (.invokestatic 47, 3) := by decide +kernel
theorem dX4_addSumAndEnd_11 : decode cX4_addSumAndEnd 11 = .ok (.istore_n 1, 1) := by decide +kernel
theorem dX4_addSumAndEnd_12 : decode cX4_addSumAndEnd 12 = .ok (.aload_n 0, 1) := by decide +kernel
theorem dX4_addSumAndEnd_13 : decode cX4_addSumAndEnd 13 = .ok (.bipush 90, 2) := by decide +kernel
theorem dX4_addSumAndEnd_15 : decode cX4_addSumAndEnd 15 = .ok (.invokevirtual 19, 3) := by decide +kernel
theorem dX4_addSumAndEnd_18 : decode cX4_addSumAndEnd 18 = .ok (.aload_n 0, 1) := by decide +kernel
theorem dX4_addSumAndEnd_19 : decode cX4_addSumAndEnd 19 = .ok (.iload_n 1, 1) := by decide +kernel
theorem dX4_addSumAndEnd_20 : decode cX4_addSumAndEnd 20 = .ok (.iconst 4, 1) := by decide +kernel
theorem dX4_addSumAndEnd_21 : decode cX4_addSumAndEnd 21 = .ok (.ishr, 1) := by decide +kernel
theorem dX4_addSumAndEnd_22 : decode cX4_addSumAndEnd 22 = .ok (.invokestatic 51, 3) := by decide +kernel
theorem dX4_addSumAndEnd_25 : decode cX4_addSumAndEnd 25 = .ok (.invokevirtual 19, 3) := by decide +kernel
theorem dX4_addSumAndEnd_28 : decode cX4_addSumAndEnd 28 = .ok (.aload_n 0, 1) := by decide +kernel
theorem dX4_addSumAndEnd_29 : decode cX4_addSumAndEnd 29 = .ok (.iload_n 1, 1) := by decide +kernel
theorem dX4_addSumAndEnd_30 : decode cX4_addSumAndEnd 30 = .ok (.invokestatic 51, 3) := by decide +kernel
theorem dX4_addSumAndEnd_33 : decode cX4_addSumAndEnd 33 = .ok (.invokevirtual 19, 3) := by decide +kernel
theorem dX4_addSumAndEnd_36 : decode cX4_addSumAndEnd 36 = .ok (.aload_n 0, 1) := by decide +kernel
theorem dX4_addSumAndEnd_37 : decode cX4_addSumAndEnd 37 = .ok (.bipush 13, 2) := by decide +kernel
theorem dX4_addSumAndEnd_39 : decode cX4_addSumAndEnd 39 = .ok (.invokevirtual 19, 3) := by decide +kernel
theorem dX4_addSumAndEnd_42 : decode cX4_addSumAndEnd 42 = .ok (.return_, 1) := by decide +kernel
theorem dX4_add_0 : decode cX4_add 0 = .ok (.aload_n 0, 1) := by decide +kernel
theorem dX4_add_1 : decode cX4_add 1 = .ok (.getfield 15, 3) := by decide +kernel
theorem dX4_add_4 : decode cX4_add 4 = .ok (.ifCond .lt 32, 3) := by decide +kernel
theorem dX4_add_7 : decode cX4_add 7 = .ok (.aload_n 0, 1) := by decide +kernel
theorem dX4_add_8 : decode cX4_add 8 = .ok (.getfield 15, 3) := by decide +kernel
theorem dX4_add_11 : decode cX4_add 11 = .ok (.bipush 13, 2) := by decide +kernel
theorem dX4_add_13 : decode cX4_add 13 = .ok (.if_icmp .ge 23, 3) := by decide +kernel
theorem dX4_add_16 : decode cX4_add 16 = .ok (.aload_n 0, 1) := by decide +kernel
theorem dX4_add_17 : decode cX4_add 17 = .ok (.getfield 11, 3) := by decide +kernel
theorem dX4_add_20 : decode cX4_add 20 = .ok (.aload_n 0, 1) := by decide +kernel
theorem dX4_add_21 : decode cX4_add 21 = .ok (.getfield 15, 3) := by decide +kernel
theorem dX4_add_24 : decode cX4_add 24 = .ok (.iload_n 1, 1) := by decide +kernel
theorem dX4_add_25 : decode cX4_add 25 = .ok (.iastore, 1) := by decide +kernel
theorem dX4_add_26 : decode cX4_add 26 = .ok (.aload_n 0, 1) := by decide +kernel
theorem dX4_add_27 : decode cX4_add 27 = .ok (.dup, 1) := by decide +kernel
theorem dX4_add_28 : decode cX4_add 28 = .ok (.getfield 15, 3) := by decide +kernel
theorem dX4_add_31 : decode cX4_add 31 = .ok (.iconst 1, 1) := by decide +kernel
theorem dX4_add_32 : decode cX4_add 32 = .ok (.iadd, 1) := by decide +kernel
theorem dX4_add_33 : decode cX4_add 33 = .ok (.putfield 15, 3) := by decide +kernel
theorem dX4_add_36 : decode cX4_add 36 = .ok (.return_, 1) := by decide +kernel
theorem dX0_init_0 : decode cX0_init 0 = .ok (.aload_n 0, 1) := by decide +kernel
theorem dX0_init_1 : decode cX0_init 1 = .ok (.invokespecial 3, 3) := by decide +kernel
theorem dX0_init_4 : decode cX0_init 4 = .ok (.aload_n 0, 1) := by decide +kernel
theorem dX0_init_5 : decode cX0_init 5 = .ok (.bipush 30, 2) := by decide +kernel
theorem dX0_init_7 : decode cX0_init 7 = .ok (.newarray .int, 2) := by decide +kernel
theorem dX0_init_9 : decode cX0_init 9 = .ok (.putfield 9, 3) := by decide +kernel
theorem dX0_init_12 : decode cX0_init 12 = .ok (.aload_n 0, 1) := by decide +kernel
theorem dX0_init_13 : decode cX0_init 13 = .ok (.bipush 30, 2) := by decide +kernel
theorem dX0_init_15 : decode cX0_init 15 = .ok (.newarray .int, 2) := by decide +kernel
theorem dX0_init_17 : decode cX0_init 17 = .ok (.putfield 15, 3) := by decide +kernel
theorem dX0_init_20 : decode cX0_init 20 = .ok (.aload_n 0, 1) := by decide +kernel
theorem dX0_init_21 : decode cX0_init 21 = .ok (.bipush 30, 2) := by decide +kernel
theorem dX0_init_23 : decode cX0_init 23 = .ok (.newarray .int, 2) := by decide +kernel
theorem dX0_init_25 : decode cX0_init 25 = .ok (.putfield 18, 3) := by decide +kernel
theorem dX0_init_28 : decode cX0_init 28 = .ok (.aload_n 0, 1) := by decide +kernel
theorem dX0_init_29 : decode cX0_init 29 = .ok (.bipush 30, 2) := by decide +kernel
theorem dX0_init_31 : decode cX0_init 31 = .ok (.bipush 30, 2) := by decide +kernel
theorem dX0_init_33 : decode cX0_init 33 = .ok (.multianewarray 21 2, 4) := by decide +kernel
theorem dX0_init_37 : decode cX0_init 37 = .ok (.putfield 23, 3) := by decide +kernel
theorem dX0_init_40 : decode cX0_init 40 = .ok (.aload_n 0, 1) := by decide +kernel
theorem dX0_init_41 : decode cX0_init 41 = .ok (.bipush 30, 2) := by decide +kernel
theorem dX0_init_43 : decode cX0_init 43 = .ok (.newarray .int, 2) := by decide +kernel
theorem dX0_init_45 : decode cX0_init 45 = .ok (.putfield 26, 3) := by decide +kernel
theorem dX0_init_48 : decode cX0_init 48 = .ok (.iconst 0, 1) := by decide +kernel
theorem dX0_init_49 : decode cX0_init 49 = .ok (.istore_n 1, 1) := by decide +kernel
theorem dX0_init_50 : decode cX0_init 50 = .ok (.iload_n 1, 1) := by decide +kernel
theorem dX0_init_51 : decode cX0_init 51 = .ok (.bipush 30, 2) := by decide +kernel
theorem dX0_init_53 : decode cX0_init 53 = .ok (.if_icmp .ge 16, 3) := by decide +kernel
theorem dX0_init_56 : decode cX0_init 56 = .ok (.aload_n 0, 1) := by decide +kernel
theorem dX0_init_57 : decode cX0_init 57 = .ok (.getfield 15, 3) := by decide +kernel
theorem dX0_init_60 : decode cX0_init 60 = .ok (.iload_n 1, 1) := by decide +kernel
theorem dX0_init_61 : decode cX0_init 61 = .ok (.iconst (-1), 1) := by decide +kernel
theorem dX0_init_62 : decode cX0_init 62 = .ok (.iastore, 1) := by decide +kernel
theorem dX0_init_63 : decode cX0_init 63 = .ok (.iinc 1 1, 3) := by decide +kernel
theorem dX0_init_66 : decode cX0_init 66 = .ok (.goto (-16), 3) := by decide +kernel
theorem dX0_init_69 : decode cX0_init 69 = .ok (.return_, 1) := by decide +kernel
theorem dX1_init_0 : decode cX1_init 0 = .ok (.aload_n 0, 1) := by decide +kernel
theorem dX1_init_1 : decode cX1_init 1 = .ok (.invokespecial 3, 3) := by decide +kernel
theorem dX1_init_4 : decode cX1_init 4 = .ok (.aload_n 0, 1) := by decide +kernel
theorem dX1_init_5 : decode cX1_init 5 = .ok (.sipush 5000, 3) := by decide +kernel
theorem dX1_init_8 : decode cX1_init 8 = .ok (.newarray .int, 2) := by decide +kernel
theorem dX1_init_10 : decode cX1_init 10 = .ok (.putfield 11, 3) := by decide +kernel
theorem dX1_init_13 : decode cX1_init 13 = .ok (.aload_n 0, 1) := by decide +kernel
theorem dX1_init_14 : decode cX1_init 14 = .ok (.iconst 0, 1) := by decide +kernel
theorem dX1_init_15 : decode cX1_init 15 = .ok (.putfield 15, 3) := by decide +kernel
theorem dX1_init_18 : decode cX1_init 18 = .ok (.return_, 1) := by decide +kernel
theorem dX1_tell_0 : decode cX1_tell 0 = .ok (.iload_n 1, 1) := by decide +kernel
theorem dX1_tell_1 : decode cX1_tell 1 = .ok (.aload_n 0, 1) := by decide +kernel
theorem dX1_tell_2 : decode cX1_tell 2 = .ok (.getfield 15, 3) := by decide +kernel
theorem dX1_tell_5 : decode cX1_tell 5 = .ok (.sipush 1000, 3) := by decide +kernel
theorem dX1_tell_8 : decode cX1_tell 8 = .ok (.invokestatic 37, 3) := by decide +kernel
theorem dX1_tell_11 : decode cX1_tell 11 = .ok (.invokestatic 19, 3) := by decide +kernel
theorem dX1_tell_14 : decode cX1_tell 14 = .ok (.ifCond .eq 11, 3) := by decide +kernel
theorem dX1_tell_17 : decode cX1_tell 17 = .ok (.iload_n 2, 1) := by decide +kernel
theorem dX1_tell_18 : decode cX1_tell 18 = .ok (.iconst 5, 1) := by decide +kernel
theorem dX1_tell_19 : decode cX1_tell 19 = .ok (.invokestatic 19, 3) := by decide +kernel
theorem dX1_tell_22 : decode cX1_tell 22 = .ok (.ifCond .ne 5, 3) := by decide +kernel
theorem dX1_tell_25 : decode cX1_tell 25 = .ok (.iconst (-1), 1) := by decide +kernel
theorem dX1_tell_26 : decode cX1_tell 26 = .ok (.ireturn, 1) := by decide +kernel
theorem dX1_tell_27 : decode cX1_tell 27 = .ok (.aload_n 0, 1) := by decide +kernel
theorem dX1_tell_28 : decode cX1_tell 28 = .ok (.getfield 11, 3) := by decide +kernel
theorem dX1_tell_31 : decode cX1_tell 31 = .ok (.iload_n 1, 1) := by decide +kernel
theorem dX1_tell_32 : decode cX1_tell 32 = .ok (.iconst 5, 1) := by decide +kernel
theorem dX1_tell_33 : decode cX1_tell 33 = .ok (.imul, 1) := by decide +kernel
theorem dX1_tell_34 : decode cX1_tell 34 = .ok (.iload_n 2, 1) := by decide +kernel
theorem dX1_tell_35 : decode cX1_tell 35 = .ok (.iadd, 1) := by decide +kernel
theorem dX1_tell_36 : decode cX1_tell 36 = .ok (.iaload, 1) := by decide +kernel
theorem dX1_tell_37 : decode cX1_tell 37 = .ok (.ireturn, 1) := by decide +kernel
