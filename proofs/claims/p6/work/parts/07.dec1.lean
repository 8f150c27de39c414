theorem dX0_init_0 : decode cX0_init 0 = .ok (.aload_n 0, 1) := by decide +kernel
theorem dX0_init_1 : decode cX0_init 1 = .ok (.invokespecial 3, 3) := by decide +kernel
theorem dX0_init_4 : decode cX0_init 4 = .ok (.aload_n 0, 1) := by decide +kernel
theorem dX0_init_5 : decode cX0_init 5 = .ok (.bipush 30, 2) := by decide +kernel
theorem dX0_init_7 : decode cX0_init 7 = .ok (.newarray .int, 2) := by decide +kernel
theorem dX0_init_9 : decode cX0_init 9 = .ok (.putfield 9, 3) := by decide +kernel
theorem dX0_init_12 : decode cX0_init 12 = .ok (.aload_n 0, 1) := by decide +kernel
theorem dX0_init_13 : decode cX0_init 13 = .ok (.bipush 30, 2) := by decide +kernel
theorem dX0_init_15 : decode cX0_init 15 = .ok (.newarray .int, 2) := by decide +kernel
theorem dX0_init_17 : decode cX0_init 17 = .ok (.putfield 15, 3) := by decide +kernel
theorem dX0_init_20 : decode cX0_init 20 = .ok (.aload_n 0, 1) := by decide +kernel
theorem dX0_init_21 : decode cX0_init 21 = .ok (.bipush 30, 2) := by decide +kernel
theorem dX0_init_23 : decode cX0_init 23 = .ok (.newarray .int, 2) := by decide +kernel
theorem dX0_init_25 : decode cX0_init 25 = .ok (.putfield 18, 3) := by decide +kernel
theorem dX0_init_28 : decode cX0_init 28 = .ok (.aload_n 0, 1) := by decide +kernel
theorem dX0_init_29 : decode cX0_init 29 = .ok (.bipush 30, 2) := by decide +kernel
theorem dX0_init_31 : decode cX0_init 31 = .ok (.bipush 30, 2) := by decide +kernel
theorem dX0_init_33 : decode cX0_init 33 = .ok (.multianewarray 21 2, 4) := by decide +kernel
theorem dX0_init_37 : decode cX0_init 37 = .ok (.putfield 23, 3) := by decide +kernel
theorem dX0_init_40 : decode cX0_init 40 = .ok (.aload_n 0, 1) := by decide +kernel
theorem dX0_init_41 : decode cX0_init 41 = .ok (.bipush 30, 2) := by decide +kernel
theorem dX0_init_43 : decode cX0_init 43 = .ok (.newarray .int, 2) := by decide +kernel
theorem dX0_init_45 : decode cX0_init 45 = .ok (.putfield 26, 3) := by decide +kernel
theorem dX0_init_48 : decode cX0_init 48 = .ok (.iconst 0, 1) := by decide +kernel
theorem dX0_init_49 : decode cX0_init 49 = .ok (.istore_n 1, 1) := by decide +kernel
theorem dX0_init_50 : decode cX0_init 50 = .ok (.iload_n 1, 1) := by decide +kernel
theorem dX0_init_51 : decode cX0_init 51 = .ok (.bipush 30, 2) := by decide +kernel
theorem dX0_init_53 : decode cX0_init 53 = .ok (.if_icmp .ge 16, 3) := by decide +kernel
theorem dX0_init_56 : decode cX0_init 56 = .ok (.aload_n 0, 1) := by decide +kernel
theorem dX0_init_57 : decode cX0_init 57 = .ok (.getfield 15, 3) := by decide +kernel
theorem dX0_init_60 : decode cX0_init 60 = .ok (.iload_n 1, 1) := by decide +kernel
theorem dX0_init_61 : decode cX0_init 61 = .ok (.iconst (-1), 1) := by decide +kernel
theorem dX0_init_62 : decode cX0_init 62 = .ok (.iastore, 1) := by decide +kernel
theorem dX0_init_63 : decode cX0_init 63 = .ok (.iinc 1 1, 3) := by decide +kernel
theorem dX0_init_66 : decode cX0_init 66 = .ok (.goto (-16), 3) := by decide +kernel
theorem dX0_init_69 : decode cX0_init 69 = .ok (.return_, 1) := by decide +kernel
theorem dX0_decide_0 : decode cX0_decide 0 = .ok (.aload_n 1, 1) := by decide +kernel
theorem dX0_decide_1 : decode cX0_decide 1 = .ok (.getfield 29, 3) := by decide +kernel
theorem dX0_decide_4 : decode cX0_decide 4 = .ok (.lookupswitch 113 #[(66, 65), (67, 52), (70, 74), (72, 87), (82, 100)], 52) := by decide +kernel
theorem dX0_decide_56 : decode cX0_decide 56 = .ok (.aload_n 0, 1) := by decide +kernel
theorem dX0_decide_57 : decode cX0_decide 57 = .ok (.aload_n 1, 1) := by decide +kernel
theorem dX0_decide_58 : decode cX0_decide 58 = .ok (.getfield 35, 3) := by decide +kernel
theorem dX0_decide_61 : decode cX0_decide 61 = .ok (.aload_n 1, 1) := by decide +kernel
theorem dX0_decide_62 : decode cX0_decide 62 = .ok (.getfield 38, 3) := by decide +kernel
theorem dX0_decide_65 : decode cX0_decide 65 = .ok (.invokevirtual 41, 3) := by decide +kernel
theorem dX0_decide_68 : decode cX0_decide 68 = .ok (.ireturn, 1) := by decide +kernel
theorem dX0_decide_69 : decode cX0_decide 69 = .ok (.aload_n 0, 1) := by decide +kernel
theorem dX0_decide_70 : decode cX0_decide 70 = .ok (.aload_n 1, 1) := by decide +kernel
theorem dX0_decide_71 : decode cX0_decide 71 = .ok (.getfield 38, 3) := by decide +kernel
theorem dX0_decide_74 : decode cX0_decide 74 = .ok (.invokevirtual 45, 3) := by decide +kernel
theorem dX0_decide_77 : decode cX0_decide 77 = .ok (.ireturn, 1) := by decide +kernel
theorem dX0_decide_78 : decode cX0_decide 78 = .ok (.aload_n 0, 1) := by decide +kernel
theorem dX0_decide_79 : decode cX0_decide 79 = .ok (.aload_n 1, 1) := by decide +kernel
theorem dX0_decide_80 : decode cX0_decide 80 = .ok (.getfield 35, 3) := by decide +kernel
theorem dX0_decide_83 : decode cX0_decide 83 = .ok (.aload_n 1, 1) := by decide +kernel
theorem dX0_decide_84 : decode cX0_decide 84 = .ok (.getfield 49, 3) := by decide +kernel
theorem dX0_decide_87 : decode cX0_decide 87 = .ok (.invokevirtual 52, 3) := by decide +kernel
theorem dX0_decide_90 : decode cX0_decide 90 = .ok (.ireturn, 1) := by decide +kernel
theorem dX0_decide_91 : decode cX0_decide 91 = .ok (.aload_n 0, 1) := by decide +kernel
theorem dX0_decide_92 : decode cX0_decide 92 = .ok (.aload_n 1, 1) := by decide +kernel
theorem dX0_decide_93 : decode cX0_decide 93 = .ok (.getfield 35, 3) := by decide +kernel
theorem dX0_decide_96 : decode cX0_decide 96 = .ok (.aload_n 1, 1) := by decide +kernel
theorem dX0_decide_97 : decode cX0_decide 97 = .ok (.getfield 38, 3) := by decide +kernel
theorem dX0_decide_100 : decode cX0_decide 100 = .ok (.invokevirtual 55, 3) := by decide +kernel
theorem dX0_decide_103 : decode cX0_decide 103 = .ok (.ireturn, 1) := by decide +kernel
theorem dX0_decide_104 : decode cX0_decide 104 = .ok (.aload_n 0, 1) := by decide +kernel
theorem dX0_decide_105 : decode cX0_decide 105 = .ok (.aload_n 1, 1) := by decide +kernel
theorem dX0_decide_106 : decode cX0_decide 106 = .ok (.getfield 35, 3) := by decide +kernel
theorem dX0_decide_109 : decode cX0_decide 109 = .ok (.aload_n 1, 1) := by decide +kernel
theorem dX0_decide_110 : decode cX0_decide 110 = .ok (.getfield 38, 3) := by decide +kernel
theorem dX0_decide_113 : decode cX0_decide 113 = .ok (.invokevirtual 58, 3) := by decide +kernel
theorem dX0_decide_116 : decode cX0_decide 116 = .ok (.ireturn, 1) := by decide +kernel
theorem dX0_decide_117 : decode cX0_decide 117 = .ok (.iconst 1, 1) := by decide +kernel
theorem dX0_decide_118 : decode cX0_decide 118 = .ok (.ireturn, 1) := by decide +kernel
theorem dX0_figureFor_0 : decode cX0_figureFor 0 = .ok (.aload_n 1, 1) := by decide +kernel
theorem dX0_figureFor_1 : decode cX0_figureFor 1 = .ok (.getfield 29, 3) := by decide +kernel
theorem dX0_figureFor_4 : decode cX0_figureFor 4 = .ok (.tableswitch 152 66 82 #[93, 84, 152, 152, 103, 152, 93, 113, 152, 152, 152, 152, 152, 152, 103, 152, 142], 84) := by decide +kernel
theorem dX0_figureFor_88 : decode cX0_figureFor 88 = .ok (.aload_n 0, 1) := by decide +kernel
theorem dX0_figureFor_89 : decode cX0_figureFor 89 = .ok (.aload_n 1, 1) := by decide +kernel
theorem dX0_figureFor_90 : decode cX0_figureFor 90 = .ok (.getfield 35, 3) := by decide +kernel
theorem dX0_figureFor_93 : decode cX0_figureFor 93 = .ok (.invokevirtual 61, 3) := by decide +kernel
theorem dX0_figureFor_96 : decode cX0_figureFor 96 = .ok (.ireturn, 1) := by decide +kernel
theorem dX0_figureFor_97 : decode cX0_figureFor 97 = .ok (.aload_n 0, 1) := by decide +kernel
theorem dX0_figureFor_98 : decode cX0_figureFor 98 = .ok (.getfield 26, 3) := by decide +kernel
theorem dX0_figureFor_101 : decode cX0_figureFor 101 = .ok (.aload_n 1, 1) := by decide +kernel
theorem dX0_figureFor_102 : decode cX0_figureFor 102 = .ok (.getfield 38, 3) := by decide +kernel
theorem dX0_figureFor_105 : decode cX0_figureFor 105 = .ok (.iaload, 1) := by decide +kernel
theorem dX0_figureFor_106 : decode cX0_figureFor 106 = .ok (.ireturn, 1) := by decide +kernel
theorem dX0_figureFor_107 : decode cX0_figureFor 107 = .ok (.aload_n 0, 1) := by decide +kernel
theorem dX0_figureFor_108 : decode cX0_figureFor 108 = .ok (.getfield 9, 3) := by decide +kernel
theorem dX0_figureFor_111 : decode cX0_figureFor 111 = .ok (.aload_n 1, 1) := by decide +kernel
theorem dX0_figureFor_112 : decode cX0_figureFor 112 = .ok (.getfield 35, 3) := by decide +kernel
theorem dX0_figureFor_115 : decode cX0_figureFor 115 = .ok (.iaload, 1) := by decide +kernel
theorem dX0_figureFor_116 : decode cX0_figureFor 116 = .ok (.ireturn, 1) := by decide +kernel
theorem dX0_figureFor_117 : decode cX0_figureFor 117 = .ok (.aload_n 0, 1) := by decide +kernel
theorem dX0_figureFor_118 : decode cX0_figureFor 118 = .ok (.getfield 15, 3) := by decide +kernel
theorem dX0_figureFor_121 : decode cX0_figureFor 121 = .ok (.aload_n 1, 1) := by decide +kernel
theorem dX0_figureFor_122 : decode cX0_figureFor 122 = .ok (.getfield 38, 3) := by decide +kernel
theorem dX0_figureFor_125 : decode cX0_figureFor 125 = .ok (.iaload, 1) := by decide +kernel
theorem dX0_figureFor_126 : decode cX0_figureFor 126 = .ok (.iconst (-1), 1) := by decide +kernel
theorem dX0_figureFor_127 : decode cX0_figureFor 127 = .ok (.if_icmp .ne 7, 3) := by decide +kernel
theorem dX0_figureFor_130 : decode cX0_figureFor 130 = .ok (.iconst 0, 1) := by decide +kernel
theorem dX0_figureFor_131 : decode cX0_figureFor 131 = .ok (.goto 14, 3) := by decide +kernel
theorem dX0_figureFor_134 : decode cX0_figureFor 134 = .ok (.aload_n 0, 1) := by decide +kernel
theorem dX0_figureFor_135 : decode cX0_figureFor 135 = .ok (.getfield 15, 3) := by decide +kernel
theorem dX0_figureFor_138 : decode cX0_figureFor 138 = .ok (.aload_n 1, 1) := by decide +kernel
theorem dX0_figureFor_139 : decode cX0_figureFor 139 = .ok (.getfield 38, 3) := by decide +kernel
theorem dX0_figureFor_142 : decode cX0_figureFor 142 = .ok (.iaload, 1) := by decide +kernel
theorem dX0_figureFor_143 : decode cX0_figureFor 143 = .ok (.iconst 1, 1) := by decide +kernel
theorem dX0_figureFor_144 : decode cX0_figureFor 144 = .ok (.iadd, 1) := by decide +kernel
theorem dX0_figureFor_145 : decode cX0_figureFor 145 = .ok (.ireturn, 1) := by decide +kernel
theorem dX0_figureFor_146 : decode cX0_figureFor 146 = .ok (.aload_n 0, 1) := by decide +kernel
theorem dX0_figureFor_147 : decode cX0_figureFor 147 = .ok (.getfield 18, 3) := by decide +kernel
theorem dX0_figureFor_150 : decode cX0_figureFor 150 = .ok (.aload_n 1, 1) := by decide +kernel
theorem dX0_figureFor_151 : decode cX0_figureFor 151 = .ok (.getfield 38, 3) := by decide +kernel
theorem dX0_figureFor_154 : decode cX0_figureFor 154 = .ok (.iaload, 1) := by decide +kernel
theorem dX0_figureFor_155 : decode cX0_figureFor 155 = .ok (.ireturn, 1) := by decide +kernel
theorem dX0_figureFor_156 : decode cX0_figureFor 156 = .ok (.iconst 0, 1) := by decide +kernel
theorem dX0_figureFor_157 : decode cX0_figureFor 157 = .ok (.ireturn, 1) := by decide +kernel
theorem dX0_lend_0 : decode cX0_lend 0 = .ok (.aload_n 0, 1) := by decide +kernel
theorem dX0_lend_1 : decode cX0_lend 1 = .ok (.getfield 26, 3) := by decide +kernel
theorem dX0_lend_4 : decode cX0_lend 4 = .ok (.iload_n 2, 1) := by decide +kernel
theorem dX0_lend_5 : decode cX0_lend 5 = .ok (.iaload, 1) := by decide +kernel
theorem dX0_lend_6 : decode cX0_lend 6 = .ok (.ifCond .eq 15, 3) := by decide +kernel
theorem dX0_lend_9 : decode cX0_lend 9 = .ok (.aload_n 0, 1) := by decide +kernel
theorem dX0_lend_10 : decode cX0_lend 10 = .ok (.getfield 23, 3) := by decide +kernel
theorem dX0_lend_13 : decode cX0_lend 13 = .ok (.iload_n 2, 1) := by decide +kernel
theorem dX0_lend_14 : decode cX0_lend 14 = .ok (.aaload, 1) := by decide +kernel
theorem dX0_lend_15 : decode cX0_lend 15 = .ok (.iconst 0, 1) := by decide +kernel
theorem dX0_lend_16 : decode cX0_lend 16 = .ok (.iaload, 1) := by decide +kernel
theorem dX0_lend_17 : decode cX0_lend 17 = .ok (.iload_n 1, 1) := by decide +kernel
theorem dX0_lend_18 : decode cX0_lend 18 = .ok (.if_icmp .ne 7, 3) := by decide +kernel
theorem dX0_lend_21 : decode cX0_lend 21 = .ok (.iconst 1, 1) := by decide +kernel
theorem dX0_lend_22 : decode cX0_lend 22 = .ok (.goto 4, 3) := by decide +kernel
theorem dX0_lend_25 : decode cX0_lend 25 = .ok (.iconst 0, 1) := by decide +kernel
theorem dX0_lend_26 : decode cX0_lend 26 = .ok (.istore_n 3, 1) := by decide +kernel
theorem dX0_lend_27 : decode cX0_lend 27 = .ok (.aload_n 0, 1) := by decide +kernel
theorem dX0_lend_28 : decode cX0_lend 28 = .ok (.getfield 15, 3) := by decide +kernel
theorem dX0_lend_31 : decode cX0_lend 31 = .ok (.iload_n 2, 1) := by decide +kernel
theorem dX0_lend_32 : decode cX0_lend 32 = .ok (.iaload, 1) := by decide +kernel
theorem dX0_lend_33 : decode cX0_lend 33 = .ok (.iconst (-1), 1) := by decide +kernel
theorem dX0_lend_34 : decode cX0_lend 34 = .ok (.if_icmp .ne 19, 3) := by decide +kernel
theorem dX0_lend_37 : decode cX0_lend 37 = .ok (.iload_n 3, 1) := by decide +kernel
theorem dX0_lend_38 : decode cX0_lend 38 = .ok (.ifCond .eq 15, 3) := by decide +kernel
theorem dX0_lend_41 : decode cX0_lend 41 = .ok (.aload_n 0, 1) := by decide +kernel
theorem dX0_lend_42 : decode cX0_lend 42 = .ok (.getfield 9, 3) := by decide +kernel
theorem dX0_lend_45 : decode cX0_lend 45 = .ok (.iload_n 1, 1) := by decide +kernel
theorem dX0_lend_46 : decode cX0_lend 46 = .ok (.iaload, 1) := by decide +kernel
theorem dX0_lend_47 : decode cX0_lend 47 = .ok (.sipush 500, 3) := by decide +kernel
theorem dX0_lend_50 : decode cX0_lend 50 = .ok (.if_icmp .le 5, 3) := by decide +kernel
theorem dX0_lend_53 : decode cX0_lend 53 = .ok (.iconst 0, 1) := by decide +kernel
theorem dX0_lend_54 : decode cX0_lend 54 = .ok (.ireturn, 1) := by decide +kernel
theorem dX0_lend_55 : decode cX0_lend 55 = .ok (.aload_n 0, 1) := by decide +kernel
theorem dX0_lend_56 : decode cX0_lend 56 = .ok (.iload_n 2, 1) := by decide +kernel
theorem dX0_lend_57 : decode cX0_lend 57 = .ok (.invokevirtual 65, 3) := by decide +kernel
theorem dX0_lend_60 : decode cX0_lend 60 = .ok (.aload_n 0, 1) := by decide +kernel
theorem dX0_lend_61 : decode cX0_lend 61 = .ok (.getfield 15, 3) := by decide +kernel
theorem dX0_lend_64 : decode cX0_lend 64 = .ok (.iload_n 2, 1) := by decide +kernel
theorem dX0_lend_65 : decode cX0_lend 65 = .ok (.iload_n 1, 1) := by decide +kernel
theorem dX0_lend_66 : decode cX0_lend 66 = .ok (.iastore, 1) := by decide +kernel
theorem dX0_lend_67 : decode cX0_lend 67 = .ok (.aload_n 0, 1) := by decide +kernel
theorem dX0_lend_68 : decode cX0_lend 68 = .ok (.getfield 18, 3) := by decide +kernel
theorem dX0_lend_71 : decode cX0_lend 71 = .ok (.iload_n 2, 1) := by decide +kernel
theorem dX0_lend_72 : decode cX0_lend 72 = .ok (.iconst 0, 1) := by decide +kernel
theorem dX0_lend_73 : decode cX0_lend 73 = .ok (.iastore, 1) := by decide +kernel
theorem dX0_lend_74 : decode cX0_lend 74 = .ok (.iconst 1, 1) := by decide +kernel
theorem dX0_lend_75 : decode cX0_lend 75 = .ok (.ireturn, 1) := by decide +kernel
theorem dX0_bringBack_0 : decode cX0_bringBack 0 = .ok (.aload_n 0, 1) := by decide +kernel
theorem dX0_bringBack_1 : decode cX0_bringBack 1 = .ok (.getfield 15, 3) := by decide +kernel
theorem dX0_bringBack_4 : decode cX0_bringBack 4 = .ok (.iload_n 1, 1) := by decide +kernel
theorem dX0_bringBack_5 : decode cX0_bringBack 5 = .ok (.iaload, 1) := by decide +kernel
theorem dX0_bringBack_6 : decode cX0_bringBack 6 = .ok (.iconst (-1), 1) := by decide +kernel
theorem dX0_bringBack_7 : decode cX0_bringBack 7 = .ok (.if_icmp .ne 5, 3) := by decide +kernel
theorem dX0_bringBack_10 : decode cX0_bringBack 10 = .ok (.iconst 0, 1) := by decide +kernel
theorem dX0_bringBack_11 : decode cX0_bringBack 11 = .ok (.ireturn, 1) := by decide +kernel
theorem dX0_bringBack_12 : decode cX0_bringBack 12 = .ok (.aload_n 0, 1) := by decide +kernel
theorem dX0_bringBack_13 : decode cX0_bringBack 13 = .ok (.getfield 15, 3) := by decide +kernel
theorem dX0_bringBack_16 : decode cX0_bringBack 16 = .ok (.iload_n 1, 1) := by decide +kernel
theorem dX0_bringBack_17 : decode cX0_bringBack 17 = .ok (.iconst (-1), 1) := by decide +kernel
theorem dX0_bringBack_18 : decode cX0_bringBack 18 = .ok (.iastore, 1) := by decide +kernel
theorem dX0_bringBack_19 : decode cX0_bringBack 19 = .ok (.iconst 1, 1) := by decide +kernel
theorem dX0_bringBack_20 : decode cX0_bringBack 20 = .ok (.ireturn, 1) := by decide +kernel
theorem dX0_pay_0 : decode cX0_pay 0 = .ok (.iload_n 2, 1) := by decide +kernel
theorem dX0_pay_1 : decode cX0_pay 1 = .ok (.aload_n 0, 1) := by decide +kernel
theorem dX0_pay_2 : decode cX0_pay 2 = .ok (.getfield 9, 3) := by decide +kernel
theorem dX0_pay_5 : decode cX0_pay 5 = .ok (.iload_n 1, 1) := by decide +kernel
theorem dX0_pay_6 : decode cX0_pay 6 = .ok (.iaload, 1) := by decide +kernel
theorem dX0_pay_7 : decode cX0_pay 7 = .ok (.if_icmp .le 5, 3) := by decide +kernel
theorem dX0_pay_10 : decode cX0_pay 10 = .ok (.iconst 0, 1) := by decide +kernel
theorem dX0_pay_11 : decode cX0_pay 11 = .ok (.ireturn, 1) := by decide +kernel
theorem dX0_pay_12 : decode cX0_pay 12 = .ok (.aload_n 0, 1) := by decide +kernel
theorem dX0_pay_13 : decode cX0_pay 13 = .ok (.getfield 9, 3) := by decide +kernel
theorem dX0_pay_16 : decode cX0_pay 16 = .ok (.iload_n 1, 1) := by decide +kernel
theorem dX0_pay_17 : decode cX0_pay 17 = .ok (.dup2, 1) := by decide +kernel
theorem dX0_pay_18 : decode cX0_pay 18 = .ok (.iaload, 1) := by decide +kernel
theorem dX0_pay_19 : decode cX0_pay 19 = .ok (.iload_n 2, 1) := by decide +kernel
theorem dX0_pay_20 : decode cX0_pay 20 = .ok (.isub, 1) := by decide +kernel
theorem dX0_pay_21 : decode cX0_pay 21 = .ok (.iastore, 1) := by decide +kernel
theorem dX0_pay_22 : decode cX0_pay 22 = .ok (.iconst 1, 1) := by decide +kernel
theorem dX0_pay_23 : decode cX0_pay 23 = .ok (.ireturn, 1) := by decide +kernel
theorem dX0_queueUp_0 : decode cX0_queueUp 0 = .ok (.aload_n 0, 1) := by decide +kernel
theorem dX0_queueUp_1 : decode cX0_queueUp 1 = .ok (.getfield 15, 3) := by decide +kernel
theorem dX0_queueUp_4 : decode cX0_queueUp 4 = .ok (.iload_n 2, 1) := by decide +kernel
theorem dX0_queueUp_5 : decode cX0_queueUp 5 = .ok (.iaload, 1) := by decide +kernel
theorem dX0_queueUp_6 : decode cX0_queueUp 6 = .ok (.iconst (-1), 1) := by decide +kernel
theorem dX0_queueUp_7 : decode cX0_queueUp 7 = .ok (.if_icmp .eq 17, 3) := by decide +kernel
theorem dX0_queueUp_10 : decode cX0_queueUp 10 = .ok (.aload_n 0, 1) := by decide +kernel
theorem dX0_queueUp_11 : decode cX0_queueUp 11 = .ok (.getfield 15, 3) := by decide +kernel
theorem dX0_queueUp_14 : decode cX0_queueUp 14 = .ok (.iload_n 2, 1) := by decide +kernel
theorem dX0_queueUp_15 : decode cX0_queueUp 15 = .ok (.iaload, 1) := by decide +kernel
theorem dX0_queueUp_16 : decode cX0_queueUp 16 = .ok (.iload_n 1, 1) := by decide +kernel
theorem dX0_queueUp_17 : decode cX0_queueUp 17 = .ok (.if_icmp .eq 7, 3) := by decide +kernel
theorem dX0_queueUp_20 : decode cX0_queueUp 20 = .ok (.iconst 1, 1) := by decide +kernel
theorem dX0_queueUp_21 : decode cX0_queueUp 21 = .ok (.goto 4, 3) := by decide +kernel
theorem dX0_queueUp_24 : decode cX0_queueUp 24 = .ok (.iconst 0, 1) := by decide +kernel
theorem dX0_queueUp_25 : decode cX0_queueUp 25 = .ok (.istore_n 3, 1) := by decide +kernel
theorem dX0_queueUp_26 : decode cX0_queueUp 26 = .ok (.aload_n 0, 1) := by decide +kernel
theorem dX0_queueUp_27 : decode cX0_queueUp 27 = .ok (.getfield 26, 3) := by decide +kernel
theorem dX0_queueUp_30 : decode cX0_queueUp 30 = .ok (.iload_n 2, 1) := by decide +kernel
theorem dX0_queueUp_31 : decode cX0_queueUp 31 = .ok (.iaload, 1) := by decide +kernel
theorem dX0_queueUp_32 : decode cX0_queueUp 32 = .ok (.istore 4, 2) := by decide +kernel
theorem dX0_queueUp_34 : decode cX0_queueUp 34 = .ok (.iload_n 3, 1) := by decide +kernel
theorem dX0_queueUp_35 : decode cX0_queueUp 35 = .ok (.ifCond .eq 22, 3) := by decide +kernel
theorem dX0_queueUp_38 : decode cX0_queueUp 38 = .ok (.aload_n 0, 1) := by decide +kernel
theorem dX0_queueUp_39 : decode cX0_queueUp 39 = .ok (.iload_n 1, 1) := by decide +kernel
theorem dX0_queueUp_40 : decode cX0_queueUp 40 = .ok (.iload_n 2, 1) := by decide +kernel
theorem dX0_queueUp_41 : decode cX0_queueUp 41 = .ok (.invokevirtual 69, 3) := by decide +kernel
theorem dX0_queueUp_44 : decode cX0_queueUp 44 = .ok (.ifCond .ne 13, 3) := by decide +kernel
theorem dX0_queueUp_47 : decode cX0_queueUp 47 = .ok (.iload 4, 2) := by decide +kernel
theorem dX0_queueUp_49 : decode cX0_queueUp 49 = .ok (.bipush 30, 2) := by decide +kernel
theorem dX0_queueUp_51 : decode cX0_queueUp 51 = .ok (.invokestatic 72, 3) := by decide +kernel
theorem dX0_queueUp_54 : decode cX0_queueUp 54 = .ok (.ifCond .ne 5, 3) := by decide +kernel
theorem dX0_queueUp_57 : decode cX0_queueUp 57 = .ok (.iconst 0, 1) := by decide +kernel
theorem dX0_queueUp_58 : decode cX0_queueUp 58 = .ok (.ireturn, 1) := by decide +kernel
theorem dX0_queueUp_59 : decode cX0_queueUp 59 = .ok (.aload_n 0, 1) := by decide +kernel
theorem dX0_queueUp_60 : decode cX0_queueUp 60 = .ok (.getfield 23, 3) := by decide +kernel
theorem dX0_queueUp_63 : decode cX0_queueUp 63 = .ok (.iload_n 2, 1) := by decide +kernel
theorem dX0_queueUp_64 : decode cX0_queueUp 64 = .ok (.aaload, 1) := by decide +kernel
theorem dX0_queueUp_65 : decode cX0_queueUp 65 = .ok (.iload 4, 2) := by decide +kernel
theorem dX0_queueUp_67 : decode cX0_queueUp 67 = .ok (.iload_n 1, 1) := by decide +kernel
theorem dX0_queueUp_68 : decode cX0_queueUp 68 = .ok (.iastore, 1) := by decide +kernel
theorem dX0_queueUp_69 : decode cX0_queueUp 69 = .ok (.aload_n 0, 1) := by decide +kernel
theorem dX0_queueUp_70 : decode cX0_queueUp 70 = .ok (.getfield 26, 3) := by decide +kernel
theorem dX0_queueUp_73 : decode cX0_queueUp 73 = .ok (.iload_n 2, 1) := by decide +kernel
theorem dX0_queueUp_74 : decode cX0_queueUp 74 = .ok (.iload 4, 2) := by decide +kernel
theorem dX0_queueUp_76 : decode cX0_queueUp 76 = .ok (.iconst 1, 1) := by decide +kernel
theorem dX0_queueUp_77 : decode cX0_queueUp 77 = .ok (.iadd, 1) := by decide +kernel
theorem dX0_queueUp_78 : decode cX0_queueUp 78 = .ok (.iastore, 1) := by decide +kernel
theorem dX0_queueUp_79 : decode cX0_queueUp 79 = .ok (.iconst 1, 1) := by decide +kernel
theorem dX0_queueUp_80 : decode cX0_queueUp 80 = .ok (.ireturn, 1) := by decide +kernel
theorem dX0_renew_0 : decode cX0_renew 0 = .ok (.aload_n 0, 1) := by decide +kernel
theorem dX0_renew_1 : decode cX0_renew 1 = .ok (.getfield 15, 3) := by decide +kernel
theorem dX0_renew_4 : decode cX0_renew 4 = .ok (.iload_n 2, 1) := by decide +kernel
theorem dX0_renew_5 : decode cX0_renew 5 = .ok (.iaload, 1) := by decide +kernel
theorem dX0_renew_6 : decode cX0_renew 6 = .ok (.iload_n 1, 1) := by decide +kernel
theorem dX0_renew_7 : decode cX0_renew 7 = .ok (.if_icmp .ne 7, 3) := by decide +kernel
theorem dX0_renew_10 : decode cX0_renew 10 = .ok (.iconst 1, 1) := by decide +kernel
theorem dX0_renew_11 : decode cX0_renew 11 = .ok (.goto 4, 3) := by decide +kernel
theorem dX0_renew_14 : decode cX0_renew 14 = .ok (.iconst 0, 1) := by decide +kernel
theorem dX0_renew_15 : decode cX0_renew 15 = .ok (.istore_n 3, 1) := by decide +kernel
theorem dX0_renew_16 : decode cX0_renew 16 = .ok (.iload_n 3, 1) := by decide +kernel
theorem dX0_renew_17 : decode cX0_renew 17 = .ok (.ifCond .eq 22, 3) := by decide +kernel
theorem dX0_renew_20 : decode cX0_renew 20 = .ok (.aload_n 0, 1) := by decide +kernel
theorem dX0_renew_21 : decode cX0_renew 21 = .ok (.getfield 26, 3) := by decide +kernel
theorem dX0_renew_24 : decode cX0_renew 24 = .ok (.iload_n 2, 1) := by decide +kernel
theorem dX0_renew_25 : decode cX0_renew 25 = .ok (.iaload, 1) := by decide +kernel
theorem dX0_renew_26 : decode cX0_renew 26 = .ok (.ifCond .gt 13, 3) := by decide +kernel
theorem dX0_renew_29 : decode cX0_renew 29 = .ok (.aload_n 0, 1) := by decide +kernel
theorem dX0_renew_30 : decode cX0_renew 30 = .ok (.getfield 18, 3) := by decide +kernel
theorem dX0_renew_33 : decode cX0_renew 33 = .ok (.iload_n 2, 1) := by decide +kernel
theorem dX0_renew_34 : decode cX0_renew 34 = .ok (.iaload, 1) := by decide +kernel
theorem dX0_renew_35 : decode cX0_renew 35 = .ok (.iconst 2, 1) := by decide +kernel
theorem dX0_renew_36 : decode cX0_renew 36 = .ok (.if_icmp .lt 5, 3) := by decide +kernel
theorem dX0_renew_39 : decode cX0_renew 39 = .ok (.iconst 0, 1) := by decide +kernel
theorem dX0_renew_40 : decode cX0_renew 40 = .ok (.ireturn, 1) := by decide +kernel
theorem dX0_renew_41 : decode cX0_renew 41 = .ok (.aload_n 0, 1) := by decide +kernel
theorem dX0_renew_42 : decode cX0_renew 42 = .ok (.getfield 18, 3) := by decide +kernel
theorem dX0_renew_45 : decode cX0_renew 45 = .ok (.iload_n 2, 1) := by decide +kernel
theorem dX0_renew_46 : decode cX0_renew 46 = .ok (.dup2, 1) := by decide +kernel
theorem dX0_renew_47 : decode cX0_renew 47 = .ok (.iaload, 1) := by decide +kernel
theorem dX0_renew_48 : decode cX0_renew 48 = .ok (.iconst 1, 1) := by decide +kernel
theorem dX0_renew_49 : decode cX0_renew 49 = .ok (.iadd, 1) := by decide +kernel
theorem dX0_renew_50 : decode cX0_renew 50 = .ok (.iastore, 1) := by decide +kernel
theorem dX0_renew_51 : decode cX0_renew 51 = .ok (.iconst 1, 1) := by decide +kernel
theorem dX0_renew_52 : decode cX0_renew 52 = .ok (.ireturn, 1) := by decide +kernel
theorem dX0_itemsOf_0 : decode cX0_itemsOf 0 = .ok (.iconst 0, 1) := by decide +kernel
theorem dX0_itemsOf_1 : decode cX0_itemsOf 1 = .ok (.istore_n 2, 1) := by decide +kernel
theorem dX0_itemsOf_2 : decode cX0_itemsOf 2 = .ok (.iconst 0, 1) := by decide +kernel
theorem dX0_itemsOf_3 : decode cX0_itemsOf 3 = .ok (.istore_n 3, 1) := by decide +kernel
theorem dX0_itemsOf_4 : decode cX0_itemsOf 4 = .ok (.iload_n 3, 1) := by decide +kernel
theorem dX0_itemsOf_5 : decode cX0_itemsOf 5 = .ok (.bipush 30, 2) := by decide +kernel
theorem dX0_itemsOf_7 : decode cX0_itemsOf 7 = .ok (.if_icmp .ge 22, 3) := by decide +kernel
theorem dX0_itemsOf_10 : decode cX0_itemsOf 10 = .ok (.aload_n 0, 1) := by decide +kernel
theorem dX0_itemsOf_11 : decode cX0_itemsOf 11 = .ok (.getfield 15, 3) := by decide +kernel
theorem dX0_itemsOf_14 : decode cX0_itemsOf 14 = .ok (.iload_n 3, 1) := by decide +kernel
theorem dX0_itemsOf_15 : decode cX0_itemsOf 15 = .ok (.iaload, 1) := by decide +kernel
theorem dX0_itemsOf_16 : decode cX0_itemsOf 16 = .ok (.iload_n 1, 1) := by decide +kernel
theorem dX0_itemsOf_17 : decode cX0_itemsOf 17 = .ok (.if_icmp .ne 6, 3) := by decide +kernel
theorem dX0_itemsOf_20 : decode cX0_itemsOf 20 = .ok (.iinc 2 1, 3) := by decide +kernel
theorem dX0_itemsOf_23 : decode cX0_itemsOf 23 = .ok (.iinc 3 1, 3) := by decide +kernel
theorem dX0_itemsOf_26 : decode cX0_itemsOf 26 = .ok (.goto (-22), 3) := by decide +kernel
theorem dX0_itemsOf_29 : decode cX0_itemsOf 29 = .ok (.iload_n 2, 1) := by decide +kernel
theorem dX0_itemsOf_30 : decode cX0_itemsOf 30 = .ok (.ireturn, 1) := by decide +kernel
theorem dX0_isInQueue_0 : decode cX0_isInQueue 0 = .ok (.iconst 0, 1) := by decide +kernel
theorem dX0_isInQueue_1 : decode cX0_isInQueue 1 = .ok (.istore_n 3, 1) := by decide +kernel
theorem dX0_isInQueue_2 : decode cX0_isInQueue 2 = .ok (.iload_n 3, 1) := by decide +kernel
theorem dX0_isInQueue_3 : decode cX0_isInQueue 3 = .ok (.aload_n 0, 1) := by decide +kernel
theorem dX0_isInQueue_4 : decode cX0_isInQueue 4 = .ok (.getfield 26, 3) := by decide +kernel
theorem dX0_isInQueue_7 : decode cX0_isInQueue 7 = .ok (.iload_n 2, 1) := by decide +kernel
theorem dX0_isInQueue_8 : decode cX0_isInQueue 8 = .ok (.iaload, 1) := by decide +kernel
theorem dX0_isInQueue_9 : decode cX0_isInQueue 9 = .ok (.if_icmp .ge 23, 3) := by decide +kernel
theorem dX0_isInQueue_12 : decode cX0_isInQueue 12 = .ok (.aload_n 0, 1) := by decide +kernel
theorem dX0_isInQueue_13 : decode cX0_isInQueue 13 = .ok (.getfield 23, 3) := by decide +kernel
theorem dX0_isInQueue_16 : decode cX0_isInQueue 16 = .ok (.iload_n 2, 1) := by decide +kernel
theorem dX0_isInQueue_17 : decode cX0_isInQueue 17 = .ok (.aaload, 1) := by decide +kernel
theorem dX0_isInQueue_18 : decode cX0_isInQueue 18 = .ok (.iload_n 3, 1) := by decide +kernel
theorem dX0_isInQueue_19 : decode cX0_isInQueue 19 = .ok (.iaload, 1) := by decide +kernel
theorem dX0_isInQueue_20 : decode cX0_isInQueue 20 = .ok (.iload_n 1, 1) := by decide +kernel
theorem dX0_isInQueue_21 : decode cX0_isInQueue 21 = .ok (.if_icmp .ne 5, 3) := by decide +kernel
theorem dX0_isInQueue_24 : decode cX0_isInQueue 24 = .ok (.iconst 1, 1) := by decide +kernel
theorem dX0_isInQueue_25 : decode cX0_isInQueue 25 = .ok (.ireturn, 1) := by decide +kernel
theorem dX0_isInQueue_26 : decode cX0_isInQueue 26 = .ok (.iinc 3 1, 3) := by decide +kernel
theorem dX0_isInQueue_29 : decode cX0_isInQueue 29 = .ok (.goto (-27), 3) := by decide +kernel
theorem dX0_isInQueue_32 : decode cX0_isInQueue 32 = .ok (.iconst 0, 1) := by decide +kernel
theorem dX0_isInQueue_33 : decode cX0_isInQueue 33 = .ok (.ireturn, 1) := by decide +kernel
theorem dX0_dropFirst_0 : decode cX0_dropFirst 0 = .ok (.aload_n 0, 1) := by decide +kernel
theorem dX0_dropFirst_1 : decode cX0_dropFirst 1 = .ok (.getfield 26, 3) := by decide +kernel
theorem dX0_dropFirst_4 : decode cX0_dropFirst 4 = .ok (.iload_n 1, 1) := by decide +kernel
theorem dX0_dropFirst_5 : decode cX0_dropFirst 5 = .ok (.iaload, 1) := by decide +kernel
theorem dX0_dropFirst_6 : decode cX0_dropFirst 6 = .ok (.ifCond .ne 4, 3) := by decide +kernel
theorem dX0_dropFirst_9 : decode cX0_dropFirst 9 = .ok (.return_, 1) := by decide +kernel
theorem dX0_dropFirst_10 : decode cX0_dropFirst 10 = .ok (.iconst 1, 1) := by decide +kernel
theorem dX0_dropFirst_11 : decode cX0_dropFirst 11 = .ok (.istore_n 2, 1) := by decide +kernel
theorem dX0_dropFirst_12 : decode cX0_dropFirst 12 = .ok (.iload_n 2, 1) := by decide +kernel
theorem dX0_dropFirst_13 : decode cX0_dropFirst 13 = .ok (.aload_n 0, 1) := by decide +kernel
theorem dX0_dropFirst_14 : decode cX0_dropFirst 14 = .ok (.getfield 26, 3) := by decide +kernel
theorem dX0_dropFirst_17 : decode cX0_dropFirst 17 = .ok (.iload_n 1, 1) := by decide +kernel
theorem dX0_dropFirst_18 : decode cX0_dropFirst 18 = .ok (.iaload, 1) := by decide +kernel
theorem dX0_dropFirst_19 : decode cX0_dropFirst 19 = .ok (.if_icmp .ge 27, 3) := by decide +kernel
theorem dX0_dropFirst_22 : decode cX0_dropFirst 22 = .ok (.aload_n 0, 1) := by decide +kernel
theorem dX0_dropFirst_23 : decode cX0_dropFirst 23 = .ok (.getfield 23, 3) := by decide +kernel
theorem dX0_dropFirst_26 : decode cX0_dropFirst 26 = .ok (.iload_n 1, 1) := by decide +kernel
theorem dX0_dropFirst_27 : decode cX0_dropFirst 27 = .ok (.aaload, 1) := by decide +kernel
theorem dX0_dropFirst_28 : decode cX0_dropFirst 28 = .ok (.iload_n 2, 1) := by decide +kernel
theorem dX0_dropFirst_29 : decode cX0_dropFirst 29 = .ok (.iconst 1, 1) := by decide +kernel
theorem dX0_dropFirst_30 : decode cX0_dropFirst 30 = .ok (.isub, 1) := by decide +kernel
theorem dX0_dropFirst_31 : decode cX0_dropFirst 31 = .ok (.aload_n 0, 1) := by decide +kernel
theorem dX0_dropFirst_32 : decode cX0_dropFirst 32 = .ok (.getfield 23, 3) := by decide +kernel
theorem dX0_dropFirst_35 : decode cX0_dropFirst 35 = .ok (.iload_n 1, 1) := by decide +kernel
theorem dX0_dropFirst_36 : decode cX0_dropFirst 36 = .ok (.aaload, 1) := by decide +kernel
theorem dX0_dropFirst_37 : decode cX0_dropFirst 37 = .ok (.iload_n 2, 1) := by decide +kernel
theorem dX0_dropFirst_38 : decode cX0_dropFirst 38 = .ok (.iaload, 1) := by decide +kernel
theorem dX0_dropFirst_39 : decode cX0_dropFirst 39 = .ok (.iastore, 1) := by decide +kernel
theorem dX0_dropFirst_40 : decode cX0_dropFirst 40 = .ok (.iinc 2 1, 3) := by decide +kernel
theorem dX0_dropFirst_43 : decode cX0_dropFirst 43 = .ok (.goto (-31), 3) := by decide +kernel
theorem dX0_dropFirst_46 : decode cX0_dropFirst 46 = .ok (.aload_n 0, 1) := by decide +kernel
theorem dX0_dropFirst_47 : decode cX0_dropFirst 47 = .ok (.getfield 26, 3) := by decide +kernel
theorem dX0_dropFirst_50 : decode cX0_dropFirst 50 = .ok (.iload_n 1, 1) := by decide +kernel
theorem dX0_dropFirst_51 : decode cX0_dropFirst 51 = .ok (.dup2, 1) := by decide +kernel
theorem dX0_dropFirst_52 : decode cX0_dropFirst 52 = .ok (.iaload, 1) := by decide +kernel
theorem dX0_dropFirst_53 : decode cX0_dropFirst 53 = .ok (.iconst 1, 1) := by decide +kernel
theorem dX0_dropFirst_54 : decode cX0_dropFirst 54 = .ok (.isub, 1) := by decide +kernel
theorem dX0_dropFirst_55 : decode cX0_dropFirst 55 = .ok (.iastore, 1) := by decide +kernel
theorem dX0_dropFirst_56 : decode cX0_dropFirst 56 = .ok (.return_, 1) := by decide +kernel
theorem dX1_init_0 : decode cX1_init 0 = .ok (.aload_n 0, 1) := by decide +kernel
theorem dX1_init_1 : decode cX1_init 1 = .ok (.invokespecial 3, 3) := by decide +kernel
theorem dX1_init_4 : decode cX1_init 4 = .ok (.aload_n 0, 1) := by decide +kernel
theorem dX1_init_5 : decode cX1_init 5 = .ok (.sipush 5000, 3) := by decide +kernel
theorem dX1_init_8 : decode cX1_init 8 = .ok (.newarray .int, 2) := by decide +kernel
theorem dX1_init_10 : decode cX1_init 10 = .ok (.putfield 11, 3) := by decide +kernel
theorem dX1_init_13 : decode cX1_init 13 = .ok (.aload_n 0, 1) := by decide +kernel
theorem dX1_init_14 : decode cX1_init 14 = .ok (.iconst 0, 1) := by decide +kernel
theorem dX1_init_15 : decode cX1_init 15 = .ok (.putfield 15, 3) := by decide +kernel
theorem dX1_init_18 : decode cX1_init 18 = .ok (.return_, 1) := by decide +kernel
theorem dX1_add_0 : decode cX1_add 0 = .ok (.aload_n 0, 1) := by decide +kernel
theorem dX1_add_1 : decode cX1_add 1 = .ok (.getfield 15, 3) := by decide +kernel
theorem dX1_add_4 : decode cX1_add 4 = .ok (.sipush 1000, 3) := by decide +kernel
theorem dX1_add_7 : decode cX1_add 7 = .ok (.invokestatic 19, 3) := by decide +kernel
theorem dX1_add_10 : decode cX1_add 10 = .ok (.ifCond .eq 65, 3) := by decide +kernel
theorem dX1_add_13 : decode cX1_add 13 = .ok (.aload_n 0, 1) := by decide +kernel
theorem dX1_add_14 : decode cX1_add 14 = .ok (.getfield 15, 3) := by decide +kernel
theorem dX1_add_17 : decode cX1_add 17 = .ok (.iconst 5, 1) := by decide +kernel
theorem dX1_add_18 : decode cX1_add 18 = .ok (.imul, 1) := by decide +kernel
theorem dX1_add_19 : decode cX1_add 19 = .ok (.istore_n 3, 1) := by decide +kernel
theorem dX1_add_20 : decode cX1_add 20 = .ok (.aload_n 0, 1) := by decide +kernel
theorem dX1_add_21 : decode cX1_add 21 = .ok (.getfield 11, 3) := by decide +kernel
theorem dX1_add_24 : decode cX1_add 24 = .ok (.iload_n 3, 1) := by decide +kernel
theorem dX1_add_25 : decode cX1_add 25 = .ok (.iload_n 1, 1) := by decide +kernel
theorem dX1_add_26 : decode cX1_add 26 = .ok (.iastore, 1) := by decide +kernel
theorem dX1_add_27 : decode cX1_add 27 = .ok (.aload_n 0, 1) := by decide +kernel
theorem dX1_add_28 : decode cX1_add 28 = .ok (.getfield 11, 3) := by decide +kernel
theorem dX1_add_31 : decode cX1_add 31 = .ok (.iload_n 3, 1) := by decide +kernel
theorem dX1_add_32 : decode cX1_add 32 = .ok (.iconst 1, 1) := by decide +kernel
theorem dX1_add_33 : decode cX1_add 33 = .ok (.iadd, 1) := by decide +kernel
theorem dX1_add_34 : decode cX1_add 34 = .ok (.aload_n 2, 1) := by decide +kernel
theorem dX1_add_35 : decode cX1_add 35 = .ok (.getfield 23, 3) := by decide +kernel
theorem dX1_add_38 : decode cX1_add 38 = .ok (.iastore, 1) := by decide +kernel
theorem dX1_add_39 : decode cX1_add 39 = .ok (.aload_n 0, 1) := by decide +kernel
theorem dX1_add_40 : decode cX1_add 40 = .ok (.getfield 11, 3) := by decide +kernel
theorem dX1_add_43 : decode cX1_add 43 = .ok (.iload_n 3, 1) := by decide +kernel
theorem dX1_add_44 : decode cX1_add 44 = .ok (.iconst 2, 1) := by decide +kernel
theorem dX1_add_45 : decode cX1_add 45 = .ok (.iadd, 1) := by decide +kernel
theorem dX1_add_46 : decode cX1_add 46 = .ok (.aload_n 2, 1) := by decide +kernel
theorem dX1_add_47 : decode cX1_add 47 = .ok (.getfield 28, 3) := by decide +kernel
theorem dX1_add_50 : decode cX1_add 50 = .ok (.iastore, 1) := by decide +kernel
theorem dX1_add_51 : decode cX1_add 51 = .ok (.aload_n 0, 1) := by decide +kernel
theorem dX1_add_52 : decode cX1_add 52 = .ok (.getfield 11, 3) := by decide +kernel
theorem dX1_add_55 : decode cX1_add 55 = .ok (.iload_n 3, 1) := by decide +kernel
theorem dX1_add_56 : decode cX1_add 56 = .ok (.iconst 3, 1) := by decide +kernel
theorem dX1_add_57 : decode cX1_add 57 = .ok (.iadd, 1) := by decide +kernel
theorem dX1_add_58 : decode cX1_add 58 = .ok (.aload_n 2, 1) := by decide +kernel
theorem dX1_add_59 : decode cX1_add 59 = .ok (.getfield 31, 3) := by decide +kernel
theorem dX1_add_62 : decode cX1_add 62 = .ok (.iastore, 1) := by decide +kernel
theorem dX1_add_63 : decode cX1_add 63 = .ok (.aload_n 0, 1) := by decide +kernel
theorem dX1_add_64 : decode cX1_add 64 = .ok (.getfield 11, 3) := by decide +kernel
theorem dX1_add_67 : decode cX1_add 67 = .ok (.iload_n 3, 1) := by decide +kernel
theorem dX1_add_68 : decode cX1_add 68 = .ok (.iconst 4, 1) := by decide +kernel
theorem dX1_add_69 : decode cX1_add 69 = .ok (.iadd, 1) := by decide +kernel
theorem dX1_add_70 : decode cX1_add 70 = .ok (.aload_n 2, 1) := by decide +kernel
theorem dX1_add_71 : decode cX1_add 71 = .ok (.getfield 34, 3) := by decide +kernel
theorem dX1_add_74 : decode cX1_add 74 = .ok (.iastore, 1) := by decide +kernel
theorem dX1_add_75 : decode cX1_add 75 = .ok (.aload_n 0, 1) := by decide +kernel
theorem dX1_add_76 : decode cX1_add 76 = .ok (.dup, 1) := by decide +kernel
theorem dX1_add_77 : decode cX1_add 77 = .ok (.getfield 15, 3) := by decide +kernel
theorem dX1_add_80 : decode cX1_add 80 = .ok (.iconst 1, 1) := by decide +kernel
theorem dX1_add_81 : decode cX1_add 81 = .ok (.iadd, 1) := by decide +kernel
theorem dX1_add_82 : decode cX1_add 82 = .ok (.putfield 15, 3) := by decide +kernel
theorem dX1_add_85 : decode cX1_add 85 = .ok (.return_, 1) := by decide +kernel
theorem dX1_tell_0 : decode cX1_tell 0 = .ok (.iload_n 1, 1) := by decide +kernel
theorem dX1_tell_1 : decode cX1_tell 1 = .ok (.aload_n 0, 1) := by decide +kernel
theorem dX1_tell_2 : decode cX1_tell 2 = .ok (.getfield 15, 3) := by decide +kernel
theorem dX1_tell_5 : decode cX1_tell 5 = .ok (.sipush 1000, 3) := by decide +kernel
theorem dX1_tell_8 : decode cX1_tell 8 = .ok (.invokestatic 37, 3) := by decide +kernel
theorem dX1_tell_11 : decode cX1_tell 11 = .ok (.invokestatic 19, 3) := by decide +kernel
theorem dX1_tell_14 : decode cX1_tell 14 = .ok (.ifCond .eq 11, 3) := by decide +kernel
theorem dX1_tell_17 : decode cX1_tell 17 = .ok (.iload_n 2, 1) := by decide +kernel
theorem dX1_tell_18 : decode cX1_tell 18 = .ok (.iconst 5, 1) := by decide +kernel
theorem dX1_tell_19 : decode cX1_tell 19 = .ok (.invokestatic 19, 3) := by decide +kernel
theorem dX1_tell_22 : decode cX1_tell 22 = .ok (.ifCond .ne 5, 3) := by decide +kernel
theorem dX1_tell_25 : decode cX1_tell 25 = .ok (.iconst (-1), 1) := by decide +kernel
theorem dX1_tell_26 : decode cX1_tell 26 = .ok (.ireturn, 1) := by decide +kernel
theorem dX1_tell_27 : decode cX1_tell 27 = .ok (.aload_n 0, 1) := by decide +kernel
theorem dX1_tell_28 : decode cX1_tell 28 = .ok (.getfield 11, 3) := by decide +kernel
theorem dX1_tell_31 : decode cX1_tell 31 = .ok (.iload_n 1, 1) := by decide +kernel
theorem dX1_tell_32 : decode cX1_tell 32 = .ok (.iconst 5, 1) := by decide +kernel
theorem dX1_tell_33 : decode cX1_tell 33 = .ok (.imul, 1) := by decide +kernel
theorem dX1_tell_34 : decode cX1_tell 34 = .ok (.iload_n 2, 1) := by decide +kernel
theorem dX1_tell_35 : decode cX1_tell 35 = .ok (.iadd, 1) := by decide +kernel
theorem dX1_tell_36 : decode cX1_tell 36 = .ok (.iaload, 1) := by decide +kernel
theorem dX1_tell_37 : decode cX1_tell 37 = .ok (.ireturn, 1) := by decide +kernel
theorem dX2_init_0 : decode cX2_init 0 = .ok (.aload_n 0, 1) := by decide +kernel
theorem dX2_init_1 : decode cX2_init 1 = .ok (.invokespecial 3, 3) := by decide +kernel
theorem dX2_init_4 : decode cX2_init 4 = .ok (.aload_n 0, 1) := by decide +kernel
theorem dX2_init_5 : decode cX2_init 5 = .ok (.bipush 60, 2) := by decide +kernel
theorem dX2_init_7 : decode cX2_init 7 = .ok (.newarray .int, 2) := by decide +kernel
theorem dX2_init_9 : decode cX2_init 9 = .ok (.putfield 9, 3) := by decide +kernel
theorem dX2_init_12 : decode cX2_init 12 = .ok (.aload_n 0, 1) := by decide +kernel
theorem dX2_init_13 : decode cX2_init 13 = .ok (.iconst 0, 1) := by decide +kernel
theorem dX2_init_14 : decode cX2_init 14 = .ok (.putfield 15, 3) := by decide +kernel
theorem dX2_init_17 : decode cX2_init 17 = .ok (.aload_n 0, 1) := by decide +kernel
theorem dX2_init_18 : decode cX2_init 18 = .ok (.iconst 0, 1) := by decide +kernel
theorem dX2_init_19 : decode cX2_init 19 = .ok (.putfield 19, 3) := by decide +kernel
theorem dX2_init_22 : decode cX2_init 22 = .ok (.aload_n 0, 1) := by decide +kernel
theorem dX2_init_23 : decode cX2_init 23 = .ok (.iconst 0, 1) := by decide +kernel
theorem dX2_init_24 : decode cX2_init 24 = .ok (.putfield 23, 3) := by decide +kernel
theorem dX2_init_27 : decode cX2_init 27 = .ok (.aload_n 0, 1) := by decide +kernel
theorem dX2_init_28 : decode cX2_init 28 = .ok (.iconst (-1), 1) := by decide +kernel
theorem dX2_init_29 : decode cX2_init 29 = .ok (.putfield 26, 3) := by decide +kernel
theorem dX2_init_32 : decode cX2_init 32 = .ok (.aload_n 0, 1) := by decide +kernel
theorem dX2_init_33 : decode cX2_init 33 = .ok (.iconst 0, 1) := by decide +kernel
theorem dX2_init_34 : decode cX2_init 34 = .ok (.putfield 29, 3) := by decide +kernel
theorem dX2_init_37 : decode cX2_init 37 = .ok (.aload_n 0, 1) := by decide +kernel
theorem dX2_init_38 : decode cX2_init 38 = .ok (.new 32, 3) := by decide +kernel
theorem dX2_init_41 : decode cX2_init 41 = .ok (.dup, 1) := by decide +kernel
theorem dX2_init_42 : decode cX2_init 42 = .ok (.invokespecial 34, 3) := by decide +kernel
theorem dX2_init_45 : decode cX2_init 45 = .ok (.putfield 35, 3) := by decide +kernel
theorem dX2_init_48 : decode cX2_init 48 = .ok (.aload_n 0, 1) := by decide +kernel
theorem dX2_init_49 : decode cX2_init 49 = .ok (.new 32, 3) := by decide +kernel
theorem dX2_init_52 : decode cX2_init 52 = .ok (.dup, 1) := by decide +kernel
theorem dX2_init_53 : decode cX2_init 53 = .ok (.invokespecial 34, 3) := by decide +kernel
theorem dX2_init_56 : decode cX2_init 56 = .ok (.putfield 39, 3) := by decide +kernel
theorem dX2_init_59 : decode cX2_init 59 = .ok (.aload_n 0, 1) := by decide +kernel
theorem dX2_init_60 : decode cX2_init 60 = .ok (.bipush 20, 2) := by decide +kernel
theorem dX2_init_62 : decode cX2_init 62 = .ok (.newarray .int, 2) := by decide +kernel
theorem dX2_init_64 : decode cX2_init 64 = .ok (.putfield 42, 3) := by decide +kernel
theorem dX2_init_67 : decode cX2_init 67 = .ok (.aload_n 0, 1) := by decide +kernel
theorem dX2_init_68 : decode cX2_init 68 = .ok (.bipush 20, 2) := by decide +kernel
theorem dX2_init_70 : decode cX2_init 70 = .ok (.newarray .int, 2) := by decide +kernel
theorem dX2_init_72 : decode cX2_init 72 = .ok (.putfield 45, 3) := by decide +kernel
theorem dX2_init_75 : decode cX2_init 75 = .ok (.aload_n 0, 1) := by decide +kernel
theorem dX2_init_76 : decode cX2_init 76 = .ok (.bipush 20, 2) := by decide +kernel
theorem dX2_init_78 : decode cX2_init 78 = .ok (.newarray .int, 2) := by decide +kernel
theorem dX2_init_80 : decode cX2_init 80 = .ok (.putfield 48, 3) := by decide +kernel
theorem dX2_init_83 : decode cX2_init 83 = .ok (.aload_n 0, 1) := by decide +kernel
theorem dX2_init_84 : decode cX2_init 84 = .ok (.iconst 0, 1) := by decide +kernel
theorem dX2_init_85 : decode cX2_init 85 = .ok (.putfield 51, 3) := by decide +kernel
theorem dX2_init_88 : decode cX2_init 88 = .ok (.return_, 1) := by decide +kernel
theorem dX2_take_0 : decode cX2_take 0 = .ok (.aload_n 0, 1) := by decide +kernel
theorem dX2_take_1 : decode cX2_take 1 = .ok (.getfield 19, 3) := by decide +kernel
theorem dX2_take_4 : decode cX2_take 4 = .ok (.ifCond .eq 6, 3) := by decide +kernel
theorem dX2_take_7 : decode cX2_take 7 = .ok (.bipush (-2), 2) := by decide +kernel
theorem dX2_take_9 : decode cX2_take 9 = .ok (.ireturn, 1) := by decide +kernel
theorem dX2_take_10 : decode cX2_take 10 = .ok (.aload_n 0, 1) := by decide +kernel
theorem dX2_take_11 : decode cX2_take 11 = .ok (.getfield 15, 3) := by decide +kernel
theorem dX2_take_14 : decode cX2_take 14 = .ok (.bipush 60, 2) := by decide +kernel
theorem dX2_take_16 : decode cX2_take 16 = .ok (.invokestatic 54, 3) := by decide +kernel
theorem dX2_take_19 : decode cX2_take 19 = .ok (.ifCond .eq 28, 3) := by decide +kernel
theorem dX2_take_22 : decode cX2_take 22 = .ok (.aload_n 0, 1) := by decide +kernel
theorem dX2_take_23 : decode cX2_take 23 = .ok (.getfield 9, 3) := by decide +kernel
theorem dX2_take_26 : decode cX2_take 26 = .ok (.aload_n 0, 1) := by decide +kernel
theorem dX2_take_27 : decode cX2_take 27 = .ok (.getfield 15, 3) := by decide +kernel
theorem dX2_take_30 : decode cX2_take 30 = .ok (.iload_n 1, 1) := by decide +kernel
theorem dX2_take_31 : decode cX2_take 31 = .ok (.iastore, 1) := by decide +kernel
theorem dX2_take_32 : decode cX2_take 32 = .ok (.aload_n 0, 1) := by decide +kernel
theorem dX2_take_33 : decode cX2_take 33 = .ok (.dup, 1) := by decide +kernel
theorem dX2_take_34 : decode cX2_take 34 = .ok (.getfield 15, 3) := by decide +kernel
theorem dX2_take_37 : decode cX2_take 37 = .ok (.iconst 1, 1) := by decide +kernel
theorem dX2_take_38 : decode cX2_take 38 = .ok (.iadd, 1) := by decide +kernel
theorem dX2_take_39 : decode cX2_take 39 = .ok (.putfield 15, 3) := by decide +kernel
theorem dX2_take_42 : decode cX2_take 42 = .ok (.aload_n 0, 1) := by decide +kernel
theorem dX2_take_43 : decode cX2_take 43 = .ok (.getfield 15, 3) := by decide +kernel
theorem dX2_take_46 : decode cX2_take 46 = .ok (.ireturn, 1) := by decide +kernel
theorem dX2_take_47 : decode cX2_take 47 = .ok (.aload_n 0, 1) := by decide +kernel
theorem dX2_take_48 : decode cX2_take 48 = .ok (.dup, 1) := by decide +kernel
theorem dX2_take_49 : decode cX2_take 49 = .ok (.getfield 15, 3) := by decide +kernel
theorem dX2_take_52 : decode cX2_take 52 = .ok (.iconst 1, 1) := by decide +kernel
theorem dX2_take_53 : decode cX2_take 53 = .ok (.iadd, 1) := by decide +kernel
theorem dX2_take_54 : decode cX2_take 54 = .ok (.putfield 15, 3) := by decide +kernel
theorem dX2_take_57 : decode cX2_take 57 = .ok (.aload_n 0, 1) := by decide +kernel
theorem dX2_take_58 : decode cX2_take 58 = .ok (.iconst 1, 1) := by decide +kernel
theorem dX2_take_59 : decode cX2_take 59 = .ok (.putfield 19, 3) := by decide +kernel
theorem dX2_take_62 : decode cX2_take 62 = .ok (.bipush (-2), 2) := by decide +kernel
theorem dX2_take_64 : decode cX2_take 64 = .ok (.ireturn, 1) := by decide +kernel
theorem dX2_clear_0 : decode cX2_clear 0 = .ok (.aload_n 0, 1) := by decide +kernel
theorem dX2_clear_1 : decode cX2_clear 1 = .ok (.iconst 0, 1) := by decide +kernel
theorem dX2_clear_2 : decode cX2_clear 2 = .ok (.putfield 15, 3) := by decide +kernel
theorem dX2_clear_5 : decode cX2_clear 5 = .ok (.aload_n 0, 1) := by decide +kernel
theorem dX2_clear_6 : decode cX2_clear 6 = .ok (.iconst 0, 1) := by decide +kernel
theorem dX2_clear_7 : decode cX2_clear 7 = .ok (.putfield 19, 3) := by decide +kernel
theorem dX2_clear_10 : decode cX2_clear 10 = .ok (.aload_n 0, 1) := by decide +kernel
theorem dX2_clear_11 : decode cX2_clear 11 = .ok (.iconst 0, 1) := by decide +kernel
theorem dX2_clear_12 : decode cX2_clear 12 = .ok (.putfield 23, 3) := by decide +kernel
theorem dX2_clear_15 : decode cX2_clear 15 = .ok (.aload_n 0, 1) := by decide +kernel
theorem dX2_clear_16 : decode cX2_clear 16 = .ok (.iconst (-1), 1) := by decide +kernel
theorem dX2_clear_17 : decode cX2_clear 17 = .ok (.putfield 26, 3) := by decide +kernel
theorem dX2_clear_20 : decode cX2_clear 20 = .ok (.aload_n 0, 1) := by decide +kernel
theorem dX2_clear_21 : decode cX2_clear 21 = .ok (.iconst 0, 1) := by decide +kernel
theorem dX2_clear_22 : decode cX2_clear 22 = .ok (.putfield 29, 3) := by decide +kernel
theorem dX2_clear_25 : decode cX2_clear 25 = .ok (.aload_n 0, 1) := by decide +kernel
theorem dX2_clear_26 : decode cX2_clear 26 = .ok (.getfield 35, 3) := by decide +kernel
theorem dX2_clear_29 : decode cX2_clear 29 = .ok (.iconst 0, 1) := by decide +kernel
theorem dX2_clear_30 : decode cX2_clear 30 = .ok (.putfield 58, 3) := by decide +kernel
theorem dX2_clear_33 : decode cX2_clear 33 = .ok (.aload_n 0, 1) := by decide +kernel
theorem dX2_clear_34 : decode cX2_clear 34 = .ok (.getfield 39, 3) := by decide +kernel
theorem dX2_clear_37 : decode cX2_clear 37 = .ok (.iconst 0, 1) := by decide +kernel
theorem dX2_clear_38 : decode cX2_clear 38 = .ok (.putfield 58, 3) := by decide +kernel
theorem dX2_clear_41 : decode cX2_clear 41 = .ok (.return_, 1) := by decide +kernel
theorem dX2_addRow_0 : decode cX2_addRow 0 = .ok (.aload_n 0, 1) := by decide +kernel
theorem dX2_addRow_1 : decode cX2_addRow 1 = .ok (.getfield 51, 3) := by decide +kernel
theorem dX2_addRow_4 : decode cX2_addRow 4 = .ok (.bipush 20, 2) := by decide +kernel
theorem dX2_addRow_6 : decode cX2_addRow 6 = .ok (.invokestatic 54, 3) := by decide +kernel
theorem dX2_addRow_9 : decode cX2_addRow 9 = .ok (.ifCond .ne 6, 3) := by decide +kernel
theorem dX2_addRow_12 : decode cX2_addRow 12 = .ok (.bipush (-2), 2) := by decide +kernel
theorem dX2_addRow_14 : decode cX2_addRow 14 = .ok (.ireturn, 1) := by decide +kernel
theorem dX2_addRow_15 : decode cX2_addRow 15 = .ok (.aload_n 0, 1) := by decide +kernel
theorem dX2_addRow_16 : decode cX2_addRow 16 = .ok (.getfield 42, 3) := by decide +kernel
theorem dX2_addRow_19 : decode cX2_addRow 19 = .ok (.aload_n 0, 1) := by decide +kernel
theorem dX2_addRow_20 : decode cX2_addRow 20 = .ok (.getfield 51, 3) := by decide +kernel
theorem dX2_addRow_23 : decode cX2_addRow 23 = .ok (.iload_n 1, 1) := by decide +kernel
theorem dX2_addRow_24 : decode cX2_addRow 24 = .ok (.iastore, 1) := by decide +kernel
theorem dX2_addRow_25 : decode cX2_addRow 25 = .ok (.aload_n 0, 1) := by decide +kernel
theorem dX2_addRow_26 : decode cX2_addRow 26 = .ok (.getfield 45, 3) := by decide +kernel
theorem dX2_addRow_29 : decode cX2_addRow 29 = .ok (.aload_n 0, 1) := by decide +kernel
theorem dX2_addRow_30 : decode cX2_addRow 30 = .ok (.getfield 51, 3) := by decide +kernel
theorem dX2_addRow_33 : decode cX2_addRow 33 = .ok (.iload_n 2, 1) := by decide +kernel
theorem dX2_addRow_34 : decode cX2_addRow 34 = .ok (.iastore, 1) := by decide +kernel
theorem dX2_addRow_35 : decode cX2_addRow 35 = .ok (.aload_n 0, 1) := by decide +kernel
theorem dX2_addRow_36 : decode cX2_addRow 36 = .ok (.getfield 48, 3) := by decide +kernel
theorem dX2_addRow_39 : decode cX2_addRow 39 = .ok (.aload_n 0, 1) := by decide +kernel
theorem dX2_addRow_40 : decode cX2_addRow 40 = .ok (.getfield 51, 3) := by decide +kernel
theorem dX2_addRow_43 : decode cX2_addRow 43 = .ok (.iload_n 3, 1) := by decide +kernel
theorem dX2_addRow_44 : decode cX2_addRow 44 = .ok (.iastore, 1) := by decide +kernel
theorem dX2_addRow_45 : decode cX2_addRow 45 = .ok (.aload_n 0, 1) := by decide +kernel
theorem dX2_addRow_46 : decode cX2_addRow 46 = .ok (.dup, 1) := by decide +kernel
theorem dX2_addRow_47 : decode cX2_addRow 47 = .ok (.getfield 51, 3) := by decide +kernel
theorem dX2_addRow_50 : decode cX2_addRow 50 = .ok (.iconst 1, 1) := by decide +kernel
theorem dX2_addRow_51 : decode cX2_addRow 51 = .ok (.iadd, 1) := by decide +kernel
theorem dX2_addRow_52 : decode cX2_addRow 52 = .ok (.putfield 51, 3) := by decide +kernel
theorem dX2_addRow_55 : decode cX2_addRow 55 = .ok (.aload_n 0, 1) := by decide +kernel
theorem dX2_addRow_56 : decode cX2_addRow 56 = .ok (.getfield 51, 3) := by decide +kernel
theorem dX2_addRow_59 : decode cX2_addRow 59 = .ok (.ireturn, 1) := by decide +kernel
theorem dX3_init_0 : decode cX3_init 0 = .ok (.aload_n 0, 1) := by decide +kernel
theorem dX3_init_1 : decode cX3_init 1 = .ok (.invokespecial 3, 3) := by decide +kernel
theorem dX3_init_4 : decode cX3_init 4 = .ok (.aload_n 0, 1) := by decide +kernel
theorem dX3_init_5 : decode cX3_init 5 = .ok (.iconst 0, 1) := by decide +kernel
theorem dX3_init_6 : decode cX3_init 6 = .ok (.putfield 9, 3) := by decide +kernel
theorem dX3_init_9 : decode cX3_init 9 = .ok (.aload_n 0, 1) := by decide +kernel
theorem dX3_init_10 : decode cX3_init 10 = .ok (.iconst (-1), 1) := by decide +kernel
theorem dX3_init_11 : decode cX3_init 11 = .ok (.putfield 15, 3) := by decide +kernel
theorem dX3_init_14 : decode cX3_init 14 = .ok (.aload_n 0, 1) := by decide +kernel
theorem dX3_init_15 : decode cX3_init 15 = .ok (.iconst (-1), 1) := by decide +kernel
theorem dX3_init_16 : decode cX3_init 16 = .ok (.putfield 18, 3) := by decide +kernel
theorem dX3_init_19 : decode cX3_init 19 = .ok (.aload_n 0, 1) := by decide +kernel
theorem dX3_init_20 : decode cX3_init 20 = .ok (.iconst (-1), 1) := by decide +kernel
theorem dX3_init_21 : decode cX3_init 21 = .ok (.putfield 21, 3) := by decide +kernel
theorem dX3_init_24 : decode cX3_init 24 = .ok (.aload_n 0, 1) := by decide +kernel
theorem dX3_init_25 : decode cX3_init 25 = .ok (.iconst (-1), 1) := by decide +kernel
theorem dX3_init_26 : decode cX3_init 26 = .ok (.putfield 24, 3) := by decide +kernel
theorem dX3_init_29 : decode cX3_init 29 = .ok (.return_, 1) := by decide +kernel
theorem dX3_fillFromRow_0 : decode cX3_fillFromRow 0 = .ok (.aload_n 0, 1) := by decide +kernel
theorem dX3_fillFromRow_1 : decode cX3_fillFromRow 1 = .ok (.invokevirtual 27, 3) := by decide +kernel
theorem dX3_fillFromRow_4 : decode cX3_fillFromRow 4 = .ok (.aload_n 0, 1) := by decide +kernel
theorem dX3_fillFromRow_5 : decode cX3_fillFromRow 5 = .ok (.iload_n 1, 1) := by decide +kernel
theorem dX3_fillFromRow_6 : decode cX3_fillFromRow 6 = .ok (.putfield 9, 3) := by decide +kernel
theorem dX3_fillFromRow_9 : decode cX3_fillFromRow 9 = .ok (.aload_n 0, 1) := by decide +kernel
theorem dX3_fillFromRow_10 : decode cX3_fillFromRow 10 = .ok (.iload_n 2, 1) := by decide +kernel
theorem dX3_fillFromRow_11 : decode cX3_fillFromRow 11 = .ok (.putfield 21, 3) := by decide +kernel
theorem dX3_fillFromRow_14 : decode cX3_fillFromRow 14 = .ok (.aload_n 0, 1) := by decide +kernel
theorem dX3_fillFromRow_15 : decode cX3_fillFromRow 15 = .ok (.iload_n 3, 1) := by decide +kernel
theorem dX3_fillFromRow_16 : decode cX3_fillFromRow 16 = .ok (.putfield 18, 3) := by decide +kernel
theorem dX3_fillFromRow_19 : decode cX3_fillFromRow 19 = .ok (.return_, 1) := by decide +kernel
theorem dX3_read_0 : decode cX3_read 0 = .ok (.aload_n 0, 1) := by decide +kernel
theorem dX3_read_1 : decode cX3_read 1 = .ok (.invokevirtual 27, 3) := by decide +kernel
theorem dX3_read_4 : decode cX3_read 4 = .ok (.iload_n 2, 1) := by decide +kernel
theorem dX3_read_5 : decode cX3_read 5 = .ok (.iconst 2, 1) := by decide +kernel
theorem dX3_read_6 : decode cX3_read 6 = .ok (.if_icmp .lt 9, 3) := by decide +kernel
theorem dX3_read_9 : decode cX3_read 9 = .ok (.iload_n 2, 1) := by decide +kernel
theorem dX3_read_10 : decode cX3_read 10 = .ok (.aload_n 1, 1) := by decide +kernel
theorem dX3_read_11 : decode cX3_read 11 = .ok (.arraylength, 1) := by decide +kernel
theorem dX3_read_12 : decode cX3_read 12 = .ok (.if_icmp .le 5, 3) := by decide +kernel
theorem dX3_read_15 : decode cX3_read 15 = .ok (.iconst 0, 1) := by decide +kernel
theorem dX3_read_16 : decode cX3_read 16 = .ok (.ireturn, 1) := by decide +kernel
theorem dX3_read_17 : decode cX3_read 17 = .ok (.aload_n 1, 1) := by decide +kernel
theorem dX3_read_18 : decode cX3_read 18 = .ok (.iconst 0, 1) := by decide +kernel
theorem dX3_read_19 : decode cX3_read 19 = .ok (.iaload, 1) := by decide +kernel
theorem dX3_read_20 : decode cX3_read 20 = .ok (.invokestatic 30, 3) := by decide +kernel
theorem dX3_read_23 : decode cX3_read 23 = .ok (.astore_n 3, 1) := by decide +kernel
theorem dX3_read_24 : decode cX3_read 24 = .ok (.aload_n 3, 1) := by decide +kernel
theorem dX3_read_25 : decode cX3_read 25 = .ok (.ifnull 12, 3) := by decide +kernel
theorem dX3_read_28 : decode cX3_read 28 = .ok (.aload_n 1, 1) := by decide +kernel
theorem dX3_read_29 : decode cX3_read 29 = .ok (.iconst 1, 1) := by decide +kernel
theorem dX3_read_30 : decode cX3_read 30 = .ok (.iaload, 1) := by decide +kernel
theorem dX3_read_31 : decode cX3_read 31 = .ok (.invokestatic 34, 3) := by decide +kernel
theorem dX3_read_34 : decode cX3_read 34 = .ok (.ifCond .ne 5, 3) := by decide +kernel
theorem dX3_read_37 : decode cX3_read 37 = .ok (.iconst 0, 1) := by decide +kernel
theorem dX3_read_38 : decode cX3_read 38 = .ok (.ireturn, 1) := by decide +kernel
theorem dX3_read_39 : decode cX3_read 39 = .ok (.aload_n 0, 1) := by decide +kernel
theorem dX3_read_40 : decode cX3_read 40 = .ok (.aload_n 1, 1) := by decide +kernel
theorem dX3_read_41 : decode cX3_read 41 = .ok (.iconst 0, 1) := by decide +kernel
theorem dX3_read_42 : decode cX3_read 42 = .ok (.iaload, 1) := by decide +kernel
theorem dX3_read_43 : decode cX3_read 43 = .ok (.putfield 9, 3) := by decide +kernel
theorem dX3_read_46 : decode cX3_read 46 = .ok (.aload_n 0, 1) := by decide +kernel
theorem dX3_read_47 : decode cX3_read 47 = .ok (.aload_n 1, 1) := by decide +kernel
theorem dX3_read_48 : decode cX3_read 48 = .ok (.iconst 1, 1) := by decide +kernel
theorem dX3_read_49 : decode cX3_read 49 = .ok (.iaload, 1) := by decide +kernel
theorem dX3_read_50 : decode cX3_read 50 = .ok (.bipush 48, 2) := by decide +kernel
theorem dX3_read_52 : decode cX3_read 52 = .ok (.isub, 1) := by decide +kernel
theorem dX3_read_53 : decode cX3_read 53 = .ok (.putfield 15, 3) := by decide +kernel
theorem dX3_read_56 : decode cX3_read 56 = .ok (.iconst 2, 1) := by decide +kernel
theorem dX3_read_57 : decode cX3_read 57 = .ok (.istore 4, 2) := by decide +kernel
theorem dX3_read_59 : decode cX3_read 59 = .ok (.iconst 0, 1) := by decide +kernel
theorem dX3_read_60 : decode cX3_read 60 = .ok (.istore 5, 2) := by decide +kernel
theorem dX3_read_62 : decode cX3_read 62 = .ok (.iload 5, 2) := by decide +kernel
theorem dX3_read_64 : decode cX3_read 64 = .ok (.aload_n 3, 1) := by decide +kernel
theorem dX3_read_65 : decode cX3_read 65 = .ok (.invokevirtual 38, 3) := by decide +kernel
theorem dX3_read_68 : decode cX3_read 68 = .ok (.if_icmp .ge 33, 3) := by decide +kernel
theorem dX3_read_71 : decode cX3_read 71 = .ok (.aload_n 0, 1) := by decide +kernel
theorem dX3_read_72 : decode cX3_read 72 = .ok (.aload_n 3, 1) := by decide +kernel
theorem dX3_read_73 : decode cX3_read 73 = .ok (.iload 5, 2) := by decide +kernel
theorem dX3_read_75 : decode cX3_read 75 = .ok (.invokevirtual 44, 3) := by decide +kernel
theorem dX3_read_78 : decode cX3_read 78 = .ok (.aload_n 1, 1) := by decide +kernel
theorem dX3_read_79 : decode cX3_read 79 = .ok (.iload_n 2, 1) := by decide +kernel
theorem dX3_read_80 : decode cX3_read 80 = .ok (.iload 4, 2) := by decide +kernel
theorem dX3_read_82 : decode cX3_read 82 = .ok (.invokevirtual 48, 3) := by decide +kernel
theorem dX3_read_85 : decode cX3_read 85 = .ok (.istore 4, 2) := by decide +kernel
theorem dX3_read_87 : decode cX3_read 87 = .ok (.iload 4, 2) := by decide +kernel
theorem dX3_read_89 : decode cX3_read 89 = .ok (.iconst (-1), 1) := by decide +kernel
theorem dX3_read_90 : decode cX3_read 90 = .ok (.if_icmp .ne 5, 3) := by decide +kernel
theorem dX3_read_93 : decode cX3_read 93 = .ok (.iconst 0, 1) := by decide +kernel
theorem dX3_read_94 : decode cX3_read 94 = .ok (.ireturn, 1) := by decide +kernel
theorem dX3_read_95 : decode cX3_read 95 = .ok (.iinc 5 1, 3) := by decide +kernel
theorem dX3_read_98 : decode cX3_read 98 = .ok (.goto (-36), 3) := by decide +kernel
theorem dX3_read_101 : decode cX3_read 101 = .ok (.aload_n 1, 1) := by decide +kernel
theorem dX3_read_102 : decode cX3_read 102 = .ok (.iload_n 2, 1) := by decide +kernel
theorem dX3_read_103 : decode cX3_read 103 = .ok (.iload 4, 2) := by decide +kernel
theorem dX3_read_105 : decode cX3_read 105 = .ok (.invokestatic 52, 3) := by decide +kernel
theorem dX3_read_108 : decode cX3_read 108 = .ok (.ireturn, 1) := by decide +kernel
theorem dX3_firstBadField_0 : decode cX3_firstBadField 0 = .ok (.aload_n 0, 1) := by decide +kernel
theorem dX3_firstBadField_1 : decode cX3_firstBadField 1 = .ok (.getfield 9, 3) := by decide +kernel
theorem dX3_firstBadField_4 : decode cX3_firstBadField 4 = .ok (.invokestatic 30, 3) := by decide +kernel
theorem dX3_firstBadField_7 : decode cX3_firstBadField 7 = .ok (.astore_n 1, 1) := by decide +kernel
theorem dX3_firstBadField_8 : decode cX3_firstBadField 8 = .ok (.aload_n 1, 1) := by decide +kernel
theorem dX3_firstBadField_9 : decode cX3_firstBadField 9 = .ok (.ifnonnull 5, 3) := by decide +kernel
theorem dX3_firstBadField_12 : decode cX3_firstBadField 12 = .ok (.iconst (-1), 1) := by decide +kernel
theorem dX3_firstBadField_13 : decode cX3_firstBadField 13 = .ok (.ireturn, 1) := by decide +kernel
theorem dX3_firstBadField_14 : decode cX3_firstBadField 14 = .ok (.iconst 0, 1) := by decide +kernel
theorem dX3_firstBadField_15 : decode cX3_firstBadField 15 = .ok (.istore_n 2, 1) := by decide +kernel
theorem dX3_firstBadField_16 : decode cX3_firstBadField 16 = .ok (.iload_n 2, 1) := by decide +kernel
theorem dX3_firstBadField_17 : decode cX3_firstBadField 17 = .ok (.aload_n 1, 1) := by decide +kernel
theorem dX3_firstBadField_18 : decode cX3_firstBadField 18 = .ok (.invokevirtual 38, 3) := by decide +kernel
theorem dX3_firstBadField_21 : decode cX3_firstBadField 21 = .ok (.if_icmp .ge 27, 3) := by decide +kernel
theorem dX3_firstBadField_24 : decode cX3_firstBadField 24 = .ok (.aload_n 0, 1) := by decide +kernel
theorem dX3_firstBadField_25 : decode cX3_firstBadField 25 = .ok (.aload_n 1, 1) := by decide +kernel
theorem dX3_firstBadField_26 : decode cX3_firstBadField 26 = .ok (.iload_n 2, 1) := by decide +kernel
theorem dX3_firstBadField_27 : decode cX3_firstBadField 27 = .ok (.invokevirtual 44, 3) := by decide +kernel
theorem dX3_firstBadField_30 : decode cX3_firstBadField 30 = .ok (.invokevirtual 56, 3) := by decide +kernel
theorem dX3_firstBadField_33 : decode cX3_firstBadField 33 = .ok (.ifCond .ne 9, 3) := by decide +kernel
theorem dX3_firstBadField_36 : decode cX3_firstBadField 36 = .ok (.aload_n 1, 1) := by decide +kernel
theorem dX3_firstBadField_37 : decode cX3_firstBadField 37 = .ok (.iload_n 2, 1) := by decide +kernel
theorem dX3_firstBadField_38 : decode cX3_firstBadField 38 = .ok (.invokevirtual 44, 3) := by decide +kernel
theorem dX3_firstBadField_41 : decode cX3_firstBadField 41 = .ok (.ireturn, 1) := by decide +kernel
theorem dX3_firstBadField_42 : decode cX3_firstBadField 42 = .ok (.iinc 2 1, 3) := by decide +kernel
theorem dX3_firstBadField_45 : decode cX3_firstBadField 45 = .ok (.goto (-29), 3) := by decide +kernel
theorem dX3_firstBadField_48 : decode cX3_firstBadField 48 = .ok (.iconst (-1), 1) := by decide +kernel
theorem dX3_firstBadField_49 : decode cX3_firstBadField 49 = .ok (.ireturn, 1) := by decide +kernel
theorem dX3_changesTheHouse_0 : decode cX3_changesTheHouse 0 = .ok (.aload_n 0, 1) := by decide +kernel
theorem dX3_changesTheHouse_1 : decode cX3_changesTheHouse 1 = .ok (.getfield 9, 3) := by decide +kernel
theorem dX3_changesTheHouse_4 : decode cX3_changesTheHouse 4 = .ok (.bipush 67, 2) := by decide +kernel
theorem dX3_changesTheHouse_6 : decode cX3_changesTheHouse 6 = .ok (.if_icmp .eq 39, 3) := by decide +kernel
theorem dX3_changesTheHouse_9 : decode cX3_changesTheHouse 9 = .ok (.aload_n 0, 1) := by decide +kernel
theorem dX3_changesTheHouse_10 : decode cX3_changesTheHouse 10 = .ok (.getfield 9, 3) := by decide +kernel
theorem dX3_changesTheHouse_13 : decode cX3_changesTheHouse 13 = .ok (.bipush 66, 2) := by decide +kernel
theorem dX3_changesTheHouse_15 : decode cX3_changesTheHouse 15 = .ok (.if_icmp .eq 30, 3) := by decide +kernel
theorem dX3_changesTheHouse_18 : decode cX3_changesTheHouse 18 = .ok (.aload_n 0, 1) := by decide +kernel
theorem dX3_changesTheHouse_19 : decode cX3_changesTheHouse 19 = .ok (.getfield 9, 3) := by decide +kernel
theorem dX3_changesTheHouse_22 : decode cX3_changesTheHouse 22 = .ok (.bipush 70, 2) := by decide +kernel
theorem dX3_changesTheHouse_24 : decode cX3_changesTheHouse 24 = .ok (.if_icmp .eq 21, 3) := by decide +kernel
theorem dX3_changesTheHouse_27 : decode cX3_changesTheHouse 27 = .ok (.aload_n 0, 1) := by decide +kernel
theorem dX3_changesTheHouse_28 : decode cX3_changesTheHouse 28 = .ok (.getfield 9, 3) := by decide +kernel
theorem dX3_changesTheHouse_31 : decode cX3_changesTheHouse 31 = .ok (.bipush 72, 2) := by decide +kernel
theorem dX3_changesTheHouse_33 : decode cX3_changesTheHouse 33 = .ok (.if_icmp .eq 12, 3) := by decide +kernel
theorem dX3_changesTheHouse_36 : decode cX3_changesTheHouse 36 = .ok (.aload_n 0, 1) := by decide +kernel
theorem dX3_changesTheHouse_37 : decode cX3_changesTheHouse 37 = .ok (.getfield 9, 3) := by decide +kernel
theorem dX3_changesTheHouse_40 : decode cX3_changesTheHouse 40 = .ok (.bipush 82, 2) := by decide +kernel
theorem dX3_changesTheHouse_42 : decode cX3_changesTheHouse 42 = .ok (.if_icmp .ne 7, 3) := by decide +kernel
theorem dX3_changesTheHouse_45 : decode cX3_changesTheHouse 45 = .ok (.iconst 1, 1) := by decide +kernel
theorem dX3_changesTheHouse_46 : decode cX3_changesTheHouse 46 = .ok (.goto 4, 3) := by decide +kernel
theorem dX3_changesTheHouse_49 : decode cX3_changesTheHouse 49 = .ok (.iconst 0, 1) := by decide +kernel
theorem dX3_changesTheHouse_50 : decode cX3_changesTheHouse 50 = .ok (.ireturn, 1) := by decide +kernel
theorem dX3_forget_0 : decode cX3_forget 0 = .ok (.aload_n 0, 1) := by decide +kernel
theorem dX3_forget_1 : decode cX3_forget 1 = .ok (.iconst 0, 1) := by decide +kernel
theorem dX3_forget_2 : decode cX3_forget 2 = .ok (.putfield 9, 3) := by decide +kernel
theorem dX3_forget_5 : decode cX3_forget 5 = .ok (.aload_n 0, 1) := by decide +kernel
theorem dX3_forget_6 : decode cX3_forget 6 = .ok (.iconst (-1), 1) := by decide +kernel
theorem dX3_forget_7 : decode cX3_forget 7 = .ok (.putfield 15, 3) := by decide +kernel
theorem dX3_forget_10 : decode cX3_forget 10 = .ok (.aload_n 0, 1) := by decide +kernel
theorem dX3_forget_11 : decode cX3_forget 11 = .ok (.iconst (-1), 1) := by decide +kernel
theorem dX3_forget_12 : decode cX3_forget 12 = .ok (.putfield 18, 3) := by decide +kernel
theorem dX3_forget_15 : decode cX3_forget 15 = .ok (.aload_n 0, 1) := by decide +kernel
theorem dX3_forget_16 : decode cX3_forget 16 = .ok (.iconst (-1), 1) := by decide +kernel
theorem dX3_forget_17 : decode cX3_forget 17 = .ok (.putfield 21, 3) := by decide +kernel
theorem dX3_forget_20 : decode cX3_forget 20 = .ok (.aload_n 0, 1) := by decide +kernel
theorem dX3_forget_21 : decode cX3_forget 21 = .ok (.iconst (-1), 1) := by decide +kernel
theorem dX3_forget_22 : decode cX3_forget 22 = .ok (.putfield 24, 3) := by decide +kernel
theorem dX3_forget_25 : decode cX3_forget 25 = .ok (.return_, 1) := by decide +kernel
theorem dX3_fieldsOf_0 : decode cX3_fieldsOf 0 = .ok (.iload_n 0, 1) := by decide +kernel
theorem dX3_fieldsOf_1 : decode cX3_fieldsOf 1 = .ok (.tableswitch 102 66 83 #[93, 90, 102, 102, 99, 102, 90, 93, 102, 102, 102, 102, 102, 102, 96, 87, 90, 87], 87) := by decide +kernel
theorem dX3_fieldsOf_88 : decode cX3_fieldsOf 88 = .ok (.ldc 59, 2) := by decide +kernel
theorem dX3_fieldsOf_90 : decode cX3_fieldsOf 90 = .ok (.areturn, 1) := by decide +kernel
theorem dX3_fieldsOf_91 : decode cX3_fieldsOf 91 = .ok (.ldc 61, 2) := by decide +kernel
theorem dX3_fieldsOf_93 : decode cX3_fieldsOf 93 = .ok (.areturn, 1) := by decide +kernel
theorem dX3_fieldsOf_94 : decode cX3_fieldsOf 94 = .ok (.ldc 63, 2) := by decide +kernel
theorem dX3_fieldsOf_96 : decode cX3_fieldsOf 96 = .ok (.areturn, 1) := by decide +kernel
theorem dX3_fieldsOf_97 : decode cX3_fieldsOf 97 = .ok (.ldc 65, 2) := by decide +kernel
theorem dX3_fieldsOf_99 : decode cX3_fieldsOf 99 = .ok (.areturn, 1) := by decide +kernel
theorem dX3_fieldsOf_100 : decode cX3_fieldsOf 100 = .ok (.ldc 67, 2) := by decide +kernel
theorem dX3_fieldsOf_102 : decode cX3_fieldsOf 102 = .ok (.areturn, 1) := by decide +kernel
theorem dX3_fieldsOf_103 : decode cX3_fieldsOf 103 = .ok (.aconst_null, 1) := by decide +kernel
theorem dX3_fieldsOf_104 : decode cX3_fieldsOf 104 = .ok (.areturn, 1) := by decide +kernel
theorem dX3_readField_0 : decode cX3_readField 0 = .ok (.iload 4, 2) := by decide +kernel
theorem dX3_readField_2 : decode cX3_readField 2 = .ok (.iload_n 3, 1) := by decide +kernel
theorem dX3_readField_3 : decode cX3_readField 3 = .ok (.if_icmp .ge 11, 3) := by decide +kernel
theorem dX3_readField_6 : decode cX3_readField 6 = .ok (.aload_n 2, 1) := by decide +kernel
theorem dX3_readField_7 : decode cX3_readField 7 = .ok (.iload 4, 2) := by decide +kernel
theorem dX3_readField_9 : decode cX3_readField 9 = .ok (.iaload, 1) := by decide +kernel
theorem dX3_readField_10 : decode cX3_readField 10 = .ok (.iload_n 1, 1) := by decide +kernel
theorem dX3_readField_11 : decode cX3_readField 11 = .ok (.if_icmp .eq 5, 3) := by decide +kernel
theorem dX3_readField_14 : decode cX3_readField 14 = .ok (.iconst (-1), 1) := by decide +kernel
theorem dX3_readField_15 : decode cX3_readField 15 = .ok (.ireturn, 1) := by decide +kernel
theorem dX3_readField_16 : decode cX3_readField 16 = .ok (.iload 4, 2) := by decide +kernel
theorem dX3_readField_18 : decode cX3_readField 18 = .ok (.iconst 1, 1) := by decide +kernel
theorem dX3_readField_19 : decode cX3_readField 19 = .ok (.iadd, 1) := by decide +kernel
theorem dX3_readField_20 : decode cX3_readField 20 = .ok (.istore 5, 2) := by decide +kernel
theorem dX3_readField_22 : decode cX3_readField 22 = .ok (.iload_n 3, 1) := by decide +kernel
theorem dX3_readField_23 : decode cX3_readField 23 = .ok (.iload 5, 2) := by decide +kernel
theorem dX3_readField_25 : decode cX3_readField 25 = .ok (.iconst 5, 1) := by decide +kernel
theorem dX3_readField_26 : decode cX3_readField 26 = .ok (.iadd, 1) := by decide +kernel
theorem dX3_readField_27 : decode cX3_readField 27 = .ok (.invokestatic 69, 3) := by decide +kernel
theorem dX3_readField_30 : decode cX3_readField 30 = .ok (.istore 6, 2) := by decide +kernel
theorem dX3_readField_32 : decode cX3_readField 32 = .ok (.iconst 0, 1) := by decide +kernel
theorem dX3_readField_33 : decode cX3_readField 33 = .ok (.istore 7, 2) := by decide +kernel
theorem dX3_readField_35 : decode cX3_readField 35 = .ok (.iload 5, 2) := by decide +kernel
theorem dX3_readField_37 : decode cX3_readField 37 = .ok (.istore 8, 2) := by decide +kernel
theorem dX3_readField_39 : decode cX3_readField 39 = .ok (.iload 8, 2) := by decide +kernel
theorem dX3_readField_41 : decode cX3_readField 41 = .ok (.iload 6, 2) := by decide +kernel
theorem dX3_readField_43 : decode cX3_readField 43 = .ok (.if_icmp .ge 34, 3) := by decide +kernel
theorem dX3_readField_46 : decode cX3_readField 46 = .ok (.aload_n 2, 1) := by decide +kernel
theorem dX3_readField_47 : decode cX3_readField 47 = .ok (.iload 8, 2) := by decide +kernel
theorem dX3_readField_49 : decode cX3_readField 49 = .ok (.iaload, 1) := by decide +kernel
theorem dX3_readField_50 : decode cX3_readField 50 = .ok (.invokestatic 34, 3) := by decide +kernel
theorem dX3_readField_53 : decode cX3_readField 53 = .ok (.ifCond .eq 24, 3) := by decide +kernel
theorem dX3_readField_56 : decode cX3_readField 56 = .ok (.iload 7, 2) := by decide +kernel
theorem dX3_readField_58 : decode cX3_readField 58 = .ok (.bipush 10, 2) := by decide +kernel
theorem dX3_readField_60 : decode cX3_readField 60 = .ok (.imul, 1) := by decide +kernel
theorem dX3_readField_61 : decode cX3_readField 61 = .ok (.aload_n 2, 1) := by decide +kernel
theorem dX3_readField_62 : decode cX3_readField 62 = .ok (.iload 8, 2) := by decide +kernel
theorem dX3_readField_64 : decode cX3_readField 64 = .ok (.iaload, 1) := by decide +kernel
theorem dX3_readField_65 : decode cX3_readField 65 = .ok (.iadd, 1) := by decide +kernel
theorem dX3_readField_66 : decode cX3_readField 66 = .ok (.bipush 48, 2) := by decide +kernel
theorem dX3_readField_68 : decode cX3_readField 68 = .ok (.isub, 1) := by decide +kernel
theorem dX3_readField_69 : decode cX3_readField 69 = .ok (.istore 7, 2) := by decide +kernel
theorem dX3_readField_71 : decode cX3_readField 71 = .ok (.iinc 8 1, 3) := by decide +kernel
theorem dX3_readField_74 : decode cX3_readField 74 = .ok (.goto (-35), 3) := by decide +kernel
theorem dX3_readField_77 : decode cX3_readField 77 = .ok (.iload 8, 2) := by decide +kernel
theorem dX3_readField_79 : decode cX3_readField 79 = .ok (.iload 5, 2) := by decide +kernel
theorem dX3_readField_81 : decode cX3_readField 81 = .ok (.if_icmp .eq 18, 3) := by decide +kernel
theorem dX3_readField_84 : decode cX3_readField 84 = .ok (.iload 8, 2) := by decide +kernel
theorem dX3_readField_86 : decode cX3_readField 86 = .ok (.iload_n 3, 1) := by decide +kernel
theorem dX3_readField_87 : decode cX3_readField 87 = .ok (.if_icmp .ge 12, 3) := by decide +kernel
theorem dX3_readField_90 : decode cX3_readField 90 = .ok (.aload_n 2, 1) := by decide +kernel
theorem dX3_readField_91 : decode cX3_readField 91 = .ok (.iload 8, 2) := by decide +kernel
theorem dX3_readField_93 : decode cX3_readField 93 = .ok (.iaload, 1) := by decide +kernel
theorem dX3_readField_94 : decode cX3_readField 94 = .ok (.bipush 124, 2) := by decide +kernel
theorem dX3_readField_96 : decode cX3_readField 96 = .ok (.if_icmp .eq 5, 3) := by decide +kernel
theorem dX3_readField_99 : decode cX3_readField 99 = .ok (.iconst (-1), 1) := by decide +kernel
theorem dX3_readField_100 : decode cX3_readField 100 = .ok (.ireturn, 1) := by decide +kernel
theorem dX3_readField_101 : decode cX3_readField 101 = .ok (.aload_n 0, 1) := by decide +kernel
theorem dX3_readField_102 : decode cX3_readField 102 = .ok (.iload_n 1, 1) := by decide +kernel
theorem dX3_readField_103 : decode cX3_readField 103 = .ok (.iload 7, 2) := by decide +kernel
theorem dX3_readField_105 : decode cX3_readField 105 = .ok (.invokevirtual 75, 3) := by decide +kernel
theorem dX3_readField_108 : decode cX3_readField 108 = .ok (.iload 8, 2) := by decide +kernel
theorem dX3_readField_110 : decode cX3_readField 110 = .ok (.iconst 1, 1) := by decide +kernel
theorem dX3_readField_111 : decode cX3_readField 111 = .ok (.iadd, 1) := by decide +kernel
theorem dX3_readField_112 : decode cX3_readField 112 = .ok (.ireturn, 1) := by decide +kernel
theorem dX3_keepField_0 : decode cX3_keepField 0 = .ok (.iload_n 1, 1) := by decide +kernel
theorem dX3_keepField_1 : decode cX3_keepField 1 = .ok (.bipush 97, 2) := by decide +kernel
theorem dX3_keepField_3 : decode cX3_keepField 3 = .ok (.if_icmp .ne 11, 3) := by decide +kernel
theorem dX3_keepField_6 : decode cX3_keepField 6 = .ok (.aload_n 0, 1) := by decide +kernel
theorem dX3_keepField_7 : decode cX3_keepField 7 = .ok (.iload_n 2, 1) := by decide +kernel
theorem dX3_keepField_8 : decode cX3_keepField 8 = .ok (.putfield 18, 3) := by decide +kernel
theorem dX3_keepField_11 : decode cX3_keepField 11 = .ok (.goto 22, 3) := by decide +kernel
theorem dX3_keepField_14 : decode cX3_keepField 14 = .ok (.iload_n 1, 1) := by decide +kernel
theorem dX3_keepField_15 : decode cX3_keepField 15 = .ok (.bipush 98, 2) := by decide +kernel
theorem dX3_keepField_17 : decode cX3_keepField 17 = .ok (.if_icmp .ne 11, 3) := by decide +kernel
theorem dX3_keepField_20 : decode cX3_keepField 20 = .ok (.aload_n 0, 1) := by decide +kernel
theorem dX3_keepField_21 : decode cX3_keepField 21 = .ok (.iload_n 2, 1) := by decide +kernel
theorem dX3_keepField_22 : decode cX3_keepField 22 = .ok (.putfield 21, 3) := by decide +kernel
theorem dX3_keepField_25 : decode cX3_keepField 25 = .ok (.goto 8, 3) := by decide +kernel
theorem dX3_keepField_28 : decode cX3_keepField 28 = .ok (.aload_n 0, 1) := by decide +kernel
theorem dX3_keepField_29 : decode cX3_keepField 29 = .ok (.iload_n 2, 1) := by decide +kernel
theorem dX3_keepField_30 : decode cX3_keepField 30 = .ok (.putfield 24, 3) := by decide +kernel
theorem dX3_keepField_33 : decode cX3_keepField 33 = .ok (.return_, 1) := by decide +kernel
theorem dX3_isGoodField_0 : decode cX3_isGoodField 0 = .ok (.iload_n 1, 1) := by decide +kernel
theorem dX3_isGoodField_1 : decode cX3_isGoodField 1 = .ok (.bipush 97, 2) := by decide +kernel
theorem dX3_isGoodField_3 : decode cX3_isGoodField 3 = .ok (.if_icmp .ne 13, 3) := by decide +kernel
theorem dX3_isGoodField_6 : decode cX3_isGoodField 6 = .ok (.aload_n 0, 1) := by decide +kernel
theorem dX3_isGoodField_7 : decode cX3_isGoodField 7 = .ok (.getfield 18, 3) := by decide +kernel
theorem dX3_isGoodField_10 : decode cX3_isGoodField 10 = .ok (.bipush 30, 2) := by decide +kernel
theorem dX3_isGoodField_12 : decode cX3_isGoodField 12 = .ok (.invokestatic 79, 3) := by decide +kernel
theorem dX3_isGoodField_15 : decode cX3_isGoodField 15 = .ok (.ireturn, 1) := by decide +kernel
theorem dX3_isGoodField_16 : decode cX3_isGoodField 16 = .ok (.iload_n 1, 1) := by decide +kernel
theorem dX3_isGoodField_17 : decode cX3_isGoodField 17 = .ok (.bipush 98, 2) := by decide +kernel
theorem dX3_isGoodField_19 : decode cX3_isGoodField 19 = .ok (.if_icmp .ne 13, 3) := by decide +kernel
theorem dX3_isGoodField_22 : decode cX3_isGoodField 22 = .ok (.aload_n 0, 1) := by decide +kernel
theorem dX3_isGoodField_23 : decode cX3_isGoodField 23 = .ok (.getfield 21, 3) := by decide +kernel
theorem dX3_isGoodField_26 : decode cX3_isGoodField 26 = .ok (.bipush 30, 2) := by decide +kernel
theorem dX3_isGoodField_28 : decode cX3_isGoodField 28 = .ok (.invokestatic 79, 3) := by decide +kernel
theorem dX3_isGoodField_31 : decode cX3_isGoodField 31 = .ok (.ireturn, 1) := by decide +kernel
theorem dX3_isGoodField_32 : decode cX3_isGoodField 32 = .ok (.aload_n 0, 1) := by decide +kernel
theorem dX3_isGoodField_33 : decode cX3_isGoodField 33 = .ok (.getfield 24, 3) := by decide +kernel
theorem dX3_isGoodField_36 : decode cX3_isGoodField 36 = .ok (.ifCond .lt 16, 3) := by decide +kernel
theorem dX3_isGoodField_39 : decode cX3_isGoodField 39 = .ok (.aload_n 0, 1) := by decide +kernel
theorem dX3_isGoodField_40 : decode cX3_isGoodField 40 = .ok (.getfield 24, 3) := by decide +kernel
theorem dX3_isGoodField_43 : decode cX3_isGoodField 43 = .ok (.ldc 83, 2) := by decide +kernel
theorem dX3_isGoodField_45 : decode cX3_isGoodField 45 = .ok (.if_icmp .gt 7, 3) := by decide +kernel
theorem dX3_isGoodField_48 : decode cX3_isGoodField 48 = .ok (.iconst 1, 1) := by decide +kernel
theorem dX3_isGoodField_49 : decode cX3_isGoodField 49 = .ok (.goto 4, 3) := by decide +kernel
theorem dX3_isGoodField_52 : decode cX3_isGoodField 52 = .ok (.iconst 0, 1) := by decide +kernel
theorem dX3_isGoodField_53 : decode cX3_isGoodField 53 = .ok (.ireturn, 1) := by decide +kernel
theorem dX3_endsWithSum_0 : decode cX3_endsWithSum 0 = .ok (.iload_n 1, 1) := by decide +kernel
theorem dX3_endsWithSum_1 : decode cX3_endsWithSum 1 = .ok (.iload_n 2, 1) := by decide +kernel
theorem dX3_endsWithSum_2 : decode cX3_endsWithSum 2 = .ok (.iconst 3, 1) := by decide +kernel
theorem dX3_endsWithSum_3 : decode cX3_endsWithSum 3 = .ok (.iadd, 1) := by decide +kernel
theorem dX3_endsWithSum_4 : decode cX3_endsWithSum 4 = .ok (.if_icmp .ne 11, 3) := by decide +kernel
theorem dX3_endsWithSum_7 : decode cX3_endsWithSum 7 = .ok (.aload_n 0, 1) := by decide +kernel
theorem dX3_endsWithSum_8 : decode cX3_endsWithSum 8 = .ok (.iload_n 2, 1) := by decide +kernel
theorem dX3_endsWithSum_9 : decode cX3_endsWithSum 9 = .ok (.iaload, 1) := by decide +kernel
theorem dX3_endsWithSum_10 : decode cX3_endsWithSum 10 = .ok (.bipush 90, 2) := by decide +kernel
theorem dX3_endsWithSum_12 : decode cX3_endsWithSum 12 = .ok (.if_icmp .eq 5, 3) := by decide +kernel
theorem dX3_endsWithSum_15 : decode cX3_endsWithSum 15 = .ok (.iconst 0, 1) := by decide +kernel
theorem dX3_endsWithSum_16 : decode cX3_endsWithSum 16 = .ok (.ireturn, 1) := by decide +kernel
theorem dX3_endsWithSum_17 : decode cX3_endsWithSum 17 = .ok (.aload_n 0, 1) := by decide +kernel
theorem dX3_endsWithSum_18 : decode cX3_endsWithSum 18 = .ok (.iload_n 2, 1) := by decide +kernel
theorem dX3_endsWithSum_19 : decode cX3_endsWithSum 19 = .ok (.invokestatic 84, 3) := by decide +kernel
theorem dX3_endsWithSum_22 : decode cX3_endsWithSum 22 = .ok (.istore_n 3, 1) := by decide +kernel
theorem dX3_endsWithSum_23 : decode cX3_endsWithSum 23 = .ok (.aload_n 0, 1) := by decide +kernel
theorem dX3_endsWithSum_24 : decode cX3_endsWithSum 24 = .ok (.iload_n 2, 1) := by decide +kernel
theorem dX3_endsWithSum_25 : decode cX3_endsWithSum 25 = .ok (.iconst 1, 1) := by decide +kernel
theorem dX3_endsWithSum_26 : decode cX3_endsWithSum 26 = .ok (.iadd, 1) := by decide +kernel
theorem dX3_endsWithSum_27 : decode cX3_endsWithSum 27 = .ok (.iaload, 1) := by decide +kernel
theorem dX3_endsWithSum_28 : decode cX3_endsWithSum 28 = .ok (.iload_n 3, 1) := by decide +kernel
theorem dX3_endsWithSum_29 : decode cX3_endsWithSum 29 = .ok (.iconst 4, 1) := by decide +kernel
theorem dX3_endsWithSum_30 : decode cX3_endsWithSum 30 = .ok (.ishr, 1) := by decide +kernel
theorem dX3_endsWithSum_31 : decode cX3_endsWithSum 31 = .ok (.invokestatic 88, 3) := by decide +kernel
theorem dX3_endsWithSum_34 : decode cX3_endsWithSum 34 = .ok (.if_icmp .ne 19, 3) := by decide +kernel
theorem dX3_endsWithSum_37 : decode cX3_endsWithSum 37 = .ok (.aload_n 0, 1) := by decide +kernel
theorem dX3_endsWithSum_38 : decode cX3_endsWithSum 38 = .ok (.iload_n 2, 1) := by decide +kernel
theorem dX3_endsWithSum_39 : decode cX3_endsWithSum 39 = .ok (.iconst 2, 1) := by decide +kernel
theorem dX3_endsWithSum_40 : decode cX3_endsWithSum 40 = .ok (.iadd, 1) := by decide +kernel
theorem dX3_endsWithSum_41 : decode cX3_endsWithSum 41 = .ok (.iaload, 1) := by decide +kernel
theorem dX3_endsWithSum_42 : decode cX3_endsWithSum 42 = .ok (.iload_n 3, 1) := by decide +kernel
theorem dX3_endsWithSum_43 : decode cX3_endsWithSum 43 = .ok (.invokestatic 88, 3) := by decide +kernel
theorem dX3_endsWithSum_46 : decode cX3_endsWithSum 46 = .ok (.if_icmp .ne 7, 3) := by decide +kernel
theorem dX3_endsWithSum_49 : decode cX3_endsWithSum 49 = .ok (.iconst 1, 1) := by decide +kernel
theorem dX3_endsWithSum_50 : decode cX3_endsWithSum 50 = .ok (.goto 4, 3) := by decide +kernel
theorem dX3_endsWithSum_53 : decode cX3_endsWithSum 53 = .ok (.iconst 0, 1) := by decide +kernel
theorem dX3_endsWithSum_54 : decode cX3_endsWithSum 54 = .ok (.ireturn, 1) := by decide +kernel
theorem dX4_init_0 : decode cX4_init 0 = .ok (.aload_n 0, 1) := by decide +kernel
theorem dX4_init_1 : decode cX4_init 1 = .ok (.invokespecial 3, 3) := by decide +kernel
theorem dX4_init_4 : decode cX4_init 4 = .ok (.aload_n 0, 1) := by decide +kernel
theorem dX4_init_5 : decode cX4_init 5 = .ok (.bipush 13, 2) := by decide +kernel
theorem dX4_init_7 : decode cX4_init 7 = .ok (.newarray .int, 2) := by decide +kernel
theorem dX4_init_9 : decode cX4_init 9 = .ok (.putfield 11, 3) := by decide +kernel
theorem dX4_init_12 : decode cX4_init 12 = .ok (.aload_n 0, 1) := by decide +kernel
theorem dX4_init_13 : decode cX4_init 13 = .ok (.iconst 0, 1) := by decide +kernel
theorem dX4_init_14 : decode cX4_init 14 = .ok (.putfield 15, 3) := by decide +kernel
theorem dX4_init_17 : decode cX4_init 17 = .ok (.return_, 1) := by decide +kernel
theorem dX4_writeWrong_0 : decode cX4_writeWrong 0 = .ok (.aload_n 0, 1) := by decide +kernel
theorem dX4_writeWrong_1 : decode cX4_writeWrong 1 = .ok (.iconst 0, 1) := by decide +kernel
theorem dX4_writeWrong_2 : decode cX4_writeWrong 2 = .ok (.putfield 15, 3) := by decide +kernel
theorem dX4_writeWrong_5 : decode cX4_writeWrong 5 = .ok (.aload_n 0, 1) := by decide +kernel
theorem dX4_writeWrong_6 : decode cX4_writeWrong 6 = .ok (.bipush 78, 2) := by decide +kernel
theorem dX4_writeWrong_8 : decode cX4_writeWrong 8 = .ok (.invokevirtual 19, 3) := by decide +kernel
theorem dX4_writeWrong_11 : decode cX4_writeWrong 11 = .ok (.aload_n 0, 1) := by decide +kernel
theorem dX4_writeWrong_12 : decode cX4_writeWrong 12 = .ok (.invokevirtual 23, 3) := by decide +kernel
theorem dX4_writeWrong_15 : decode cX4_writeWrong 15 = .ok (.return_, 1) := by decide +kernel
theorem dX4_writeNo_0 : decode cX4_writeNo 0 = .ok (.aload_n 0, 1) := by decide +kernel
theorem dX4_writeNo_1 : decode cX4_writeNo 1 = .ok (.iconst 0, 1) := by decide +kernel
theorem dX4_writeNo_2 : decode cX4_writeNo 2 = .ok (.putfield 15, 3) := by decide +kernel
theorem dX4_writeNo_5 : decode cX4_writeNo 5 = .ok (.aload_n 0, 1) := by decide +kernel
theorem dX4_writeNo_6 : decode cX4_writeNo 6 = .ok (.bipush 88, 2) := by decide +kernel
theorem dX4_writeNo_8 : decode cX4_writeNo 8 = .ok (.invokevirtual 19, 3) := by decide +kernel
theorem dX4_writeNo_11 : decode cX4_writeNo 11 = .ok (.aload_n 0, 1) := by decide +kernel
theorem dX4_writeNo_12 : decode cX4_writeNo 12 = .ok (.aload_n 1, 1) := by decide +kernel
theorem dX4_writeNo_13 : decode cX4_writeNo 13 = .ok (.invokevirtual 26, 3) := by decide +kernel
theorem dX4_writeNo_16 : decode cX4_writeNo 16 = .ok (.return_, 1) := by decide +kernel
theorem dX4_writeError_0 : decode cX4_writeError 0 = .ok (.aload_n 0, 1) := by decide +kernel
theorem dX4_writeError_1 : decode cX4_writeError 1 = .ok (.iconst 0, 1) := by decide +kernel
theorem dX4_writeError_2 : decode cX4_writeError 2 = .ok (.putfield 15, 3) := by decide +kernel
theorem dX4_writeError_5 : decode cX4_writeError 5 = .ok (.aload_n 0, 1) := by decide +kernel
theorem dX4_writeError_6 : decode cX4_writeError 6 = .ok (.bipush 69, 2) := by decide +kernel
theorem dX4_writeError_8 : decode cX4_writeError 8 = .ok (.invokevirtual 19, 3) := by decide +kernel
theorem dX4_writeError_11 : decode cX4_writeError 11 = .ok (.aload_n 0, 1) := by decide +kernel
theorem dX4_writeError_12 : decode cX4_writeError 12 = .ok (.iload_n 2, 1) := by decide +kernel
theorem dX4_writeError_13 : decode cX4_writeError 13 = .ok (.invokevirtual 19, 3) := by decide +kernel
theorem dX4_writeError_16 : decode cX4_writeError 16 = .ok (.aload_n 0, 1) := by decide +kernel
theorem dX4_writeError_17 : decode cX4_writeError 17 = .ok (.aload_n 1, 1) := by decide +kernel
theorem dX4_writeError_18 : decode cX4_writeError 18 = .ok (.invokevirtual 26, 3) := by decide +kernel
theorem dX4_writeError_21 : decode cX4_writeError 21 = .ok (.return_, 1) := by decide +kernel
theorem dX4_writeVerdict_0 : decode cX4_writeVerdict 0 = .ok (.aload_n 0, 1) := by decide +kernel
theorem dX4_writeVerdict_1 : decode cX4_writeVerdict 1 = .ok (.iconst 0, 1) := by decide +kernel
theorem dX4_writeVerdict_2 : decode cX4_writeVerdict 2 = .ok (.putfield 15, 3) := by decide +kernel
theorem dX4_writeVerdict_5 : decode cX4_writeVerdict 5 = .ok (.aload_n 0, 1) := by decide +kernel
theorem dX4_writeVerdict_6 : decode cX4_writeVerdict 6 = .ok (.iload_n 2, 1) := by decide +kernel
theorem dX4_writeVerdict_7 : decode cX4_writeVerdict 7 = .ok (.ifCond .eq 8, 3) := by decide +kernel
theorem dX4_writeVerdict_10 : decode cX4_writeVerdict 10 = .ok (.bipush 89, 2) := by decide +kernel
theorem dX4_writeVerdict_12 : decode cX4_writeVerdict 12 = .ok (.goto 5, 3) := by decide +kernel
theorem dX4_writeVerdict_15 : decode cX4_writeVerdict 15 = .ok (.bipush 88, 2) := by decide +kernel
theorem dX4_writeVerdict_17 : decode cX4_writeVerdict 17 = .ok (.invokevirtual 19, 3) := by decide +kernel
theorem dX4_writeVerdict_20 : decode cX4_writeVerdict 20 = .ok (.aload_n 0, 1) := by decide +kernel
theorem dX4_writeVerdict_21 : decode cX4_writeVerdict 21 = .ok (.iload_n 3, 1) := by decide +kernel
theorem dX4_writeVerdict_22 : decode cX4_writeVerdict 22 = .ok (.invokevirtual 30, 3) := by decide +kernel
theorem dX4_writeVerdict_25 : decode cX4_writeVerdict 25 = .ok (.aload_n 0, 1) := by decide +kernel
theorem dX4_writeVerdict_26 : decode cX4_writeVerdict 26 = .ok (.aload_n 1, 1) := by decide +kernel
theorem dX4_writeVerdict_27 : decode cX4_writeVerdict 27 = .ok (.invokevirtual 26, 3) := by decide +kernel
theorem dX4_writeVerdict_30 : decode cX4_writeVerdict 30 = .ok (.return_, 1) := by decide +kernel
theorem dX4_copy_0 : decode cX4_copy 0 = .ok (.aload_n 1, 1) := by decide +kernel
theorem dX4_copy_1 : decode cX4_copy 1 = .ok (.getfield 11, 3) := by decide +kernel
theorem dX4_copy_4 : decode cX4_copy 4 = .ok (.iconst 0, 1) := by decide +kernel
theorem dX4_copy_5 : decode cX4_copy 5 = .ok (.aload_n 0, 1) := by decide +kernel
theorem dX4_copy_6 : decode cX4_copy 6 = .ok (.getfield 11, 3) := by decide +kernel
theorem dX4_copy_9 : decode cX4_copy 9 = .ok (.iconst 0, 1) := by decide +kernel
theorem dX4_copy_10 : decode cX4_copy 10 = .ok (.bipush 13, 2) := by decide +kernel
theorem dX4_copy_12 : decode cX4_copy 12 = .ok (.invokestatic 33, 3) := by decide +kernel
theorem dX4_copy_15 : decode cX4_copy 15 = .ok (.aload_n 0, 1) := by decide +kernel
theorem dX4_copy_16 : decode cX4_copy 16 = .ok (.aload_n 1, 1) := by decide +kernel
theorem dX4_copy_17 : decode cX4_copy 17 = .ok (.getfield 15, 3) := by decide +kernel
theorem dX4_copy_20 : decode cX4_copy 20 = .ok (.putfield 15, 3) := by decide +kernel
theorem dX4_copy_23 : decode cX4_copy 23 = .ok (.return_, 1) := by decide +kernel
theorem dX4_addSource_0 : decode cX4_addSource 0 = .ok (.aload_n 0, 1) := by decide +kernel
theorem dX4_addSource_1 : decode cX4_addSource 1 = .ok (.aload_n 1, 1) := by decide +kernel
theorem dX4_addSource_2 : decode cX4_addSource 2 = .ok (.getfield 39, 3) := by decide +kernel
theorem dX4_addSource_5 : decode cX4_addSource 5 = .ok (.invokevirtual 19, 3) := by decide +kernel
theorem dX4_addSource_8 : decode cX4_addSource 8 = .ok (.aload_n 0, 1) := by decide +kernel
theorem dX4_addSource_9 : decode cX4_addSource 9 = .ok (.bipush 48, 2) := by decide +kernel
theorem dX4_addSource_11 : decode cX4_addSource 11 = .ok (.aload_n 1, 1) := by decide +kernel
theorem dX4_addSource_12 : decode cX4_addSource 12 = .ok (.getfield 44, 3) := by decide +kernel
theorem dX4_addSource_15 : decode cX4_addSource 15 = .ok (.iadd, 1) := by decide +kernel
theorem dX4_addSource_16 : decode cX4_addSource 16 = .ok (.invokevirtual 19, 3) := by decide +kernel
theorem dX4_addSource_19 : decode cX4_addSource 19 = .ok (.aload_n 0, 1) := by decide +kernel
theorem dX4_addSource_20 : decode cX4_addSource 20 = .ok (.invokevirtual 23, 3) := by decide +kernel
theorem dX4_addSource_23 : decode cX4_addSource 23 = .ok (.return_, 1) := by decide +kernel
theorem dX4_addSumAndEnd_0 : decode cX4_addSumAndEnd 0 = .ok (.aload_n 0, 1) := by decide +kernel
theorem dX4_addSumAndEnd_1 : decode cX4_addSumAndEnd 1 = .ok (.getfield 11, 3) := by decide +kernel
theorem dX4_addSumAndEnd_4 : decode cX4_addSumAndEnd 4 = .ok (.aload_n 0, 1) := by decide +kernel
theorem dX4_addSumAndEnd_5 : decode cX4_addSumAndEnd 5 = .ok (.getfield 15, 3) := by decide +kernel
theorem dX4_addSumAndEnd_8 : decode cX4_addSumAndEnd 8 = .ok (.invokestatic 47, 3) := by decide +kernel
theorem dX4_addSumAndEnd_11 : decode cX4_addSumAndEnd 11 = .ok (.istore_n 1, 1) := by decide +kernel
theorem dX4_addSumAndEnd_12 : decode cX4_addSumAndEnd 12 = .ok (.aload_n 0, 1) := by decide +kernel
theorem dX4_addSumAndEnd_13 : decode cX4_addSumAndEnd 13 = .ok (.bipush 90, 2) := by decide +kernel
theorem dX4_addSumAndEnd_15 : decode cX4_addSumAndEnd 15 = .ok (.invokevirtual 19, 3) := by decide +kernel
theorem dX4_addSumAndEnd_18 : decode cX4_addSumAndEnd 18 = .ok (.aload_n 0, 1) := by decide +kernel
theorem dX4_addSumAndEnd_19 : decode cX4_addSumAndEnd 19 = .ok (.iload_n 1, 1) := by decide +kernel
theorem dX4_addSumAndEnd_20 : decode cX4_addSumAndEnd 20 = .ok (.iconst 4, 1) := by decide +kernel
theorem dX4_addSumAndEnd_21 : decode cX4_addSumAndEnd 21 = .ok (.ishr, 1) := by decide +kernel
theorem dX4_addSumAndEnd_22 : decode cX4_addSumAndEnd 22 = .ok (.invokestatic 51, 3) := by decide +kernel
theorem dX4_addSumAndEnd_25 : decode cX4_addSumAndEnd 25 = .ok (.invokevirtual 19, 3) := by decide +kernel
theorem dX4_addSumAndEnd_28 : decode cX4_addSumAndEnd 28 = .ok (.aload_n 0, 1) := by decide +kernel
theorem dX4_addSumAndEnd_29 : decode cX4_addSumAndEnd 29 = .ok (.iload_n 1, 1) := by decide +kernel
theorem dX4_addSumAndEnd_30 : decode cX4_addSumAndEnd 30 = .ok (.invokestatic 51, 3) := by decide +kernel
theorem dX4_addSumAndEnd_33 : decode cX4_addSumAndEnd 33 = .ok (.invokevirtual 19, 3) := by decide +kernel
theorem dX4_addSumAndEnd_36 : decode cX4_addSumAndEnd 36 = .ok (.aload_n 0, 1) := by decide +kernel
theorem dX4_addSumAndEnd_37 : decode cX4_addSumAndEnd 37 = .ok (.bipush 13, 2) := by decide +kernel
theorem dX4_addSumAndEnd_39 : decode cX4_addSumAndEnd 39 = .ok (.invokevirtual 19, 3) := by decide +kernel
theorem dX4_addSumAndEnd_42 : decode cX4_addSumAndEnd 42 = .ok (.return_, 1) := by decide +kernel
theorem dX4_addDigits_0 : decode cX4_addDigits 0 = .ok (.ldc 55, 2) := by decide +kernel
theorem dX4_addDigits_2 : decode cX4_addDigits 2 = .ok (.istore_n 2, 1) := by decide +kernel
theorem dX4_addDigits_3 : decode cX4_addDigits 3 = .ok (.iload_n 2, 1) := by decide +kernel
theorem dX4_addDigits_4 : decode cX4_addDigits 4 = .ok (.ifCond .le 34, 3) := by decide +kernel
theorem dX4_addDigits_7 : decode cX4_addDigits 7 = .ok (.iload_n 1, 1) := by decide +kernel
theorem dX4_addDigits_8 : decode cX4_addDigits 8 = .ok (.iload_n 2, 1) := by decide +kernel
theorem dX4_addDigits_9 : decode cX4_addDigits 9 = .ok (.if_icmp .ge 8, 3) := by decide +kernel
theorem dX4_addDigits_12 : decode cX4_addDigits 12 = .ok (.iload_n 2, 1) := by decide +kernel
theorem dX4_addDigits_13 : decode cX4_addDigits 13 = .ok (.iconst 1, 1) := by decide +kernel
theorem dX4_addDigits_14 : decode cX4_addDigits 14 = .ok (.if_icmp .ne 16, 3) := by decide +kernel
theorem dX4_addDigits_17 : decode cX4_addDigits 17 = .ok (.aload_n 0, 1) := by decide +kernel
theorem dX4_addDigits_18 : decode cX4_addDigits 18 = .ok (.bipush 48, 2) := by decide +kernel
theorem dX4_addDigits_20 : decode cX4_addDigits 20 = .ok (.iload_n 1, 1) := by decide +kernel
theorem dX4_addDigits_21 : decode cX4_addDigits 21 = .ok (.iload_n 2, 1) := by decide +kernel
theorem dX4_addDigits_22 : decode cX4_addDigits 22 = .ok (.idiv, 1) := by decide +kernel
theorem dX4_addDigits_23 : decode cX4_addDigits 23 = .ok (.bipush 10, 2) := by decide +kernel
theorem dX4_addDigits_25 : decode cX4_addDigits 25 = .ok (.irem, 1) := by decide +kernel
theorem dX4_addDigits_26 : decode cX4_addDigits 26 = .ok (.iadd, 1) := by decide +kernel
theorem dX4_addDigits_27 : decode cX4_addDigits 27 = .ok (.invokevirtual 19, 3) := by decide +kernel
theorem dX4_addDigits_30 : decode cX4_addDigits 30 = .ok (.iload_n 2, 1) := by decide +kernel
theorem dX4_addDigits_31 : decode cX4_addDigits 31 = .ok (.bipush 10, 2) := by decide +kernel
theorem dX4_addDigits_33 : decode cX4_addDigits 33 = .ok (.idiv, 1) := by decide +kernel
theorem dX4_addDigits_34 : decode cX4_addDigits 34 = .ok (.istore_n 2, 1) := by decide +kernel
theorem dX4_addDigits_35 : decode cX4_addDigits 35 = .ok (.goto (-32), 3) := by decide +kernel
theorem dX4_addDigits_38 : decode cX4_addDigits 38 = .ok (.return_, 1) := by decide +kernel
theorem dX4_add_0 : decode cX4_add 0 = .ok (.aload_n 0, 1) := by decide +kernel
theorem dX4_add_1 : decode cX4_add 1 = .ok (.getfield 15, 3) := by decide +kernel
theorem dX4_add_4 : decode cX4_add 4 = .ok (.ifCond .lt 32, 3) := by decide +kernel
theorem dX4_add_7 : decode cX4_add 7 = .ok (.aload_n 0, 1) := by decide +kernel
theorem dX4_add_8 : decode cX4_add 8 = .ok (.getfield 15, 3) := by decide +kernel
theorem dX4_add_11 : decode cX4_add 11 = .ok (.bipush 13, 2) := by decide +kernel
theorem dX4_add_13 : decode cX4_add 13 = .ok (.if_icmp .ge 23, 3) := by decide +kernel
theorem dX4_add_16 : decode cX4_add 16 = .ok (.aload_n 0, 1) := by decide +kernel
theorem dX4_add_17 : decode cX4_add 17 = .ok (.getfield 11, 3) := by decide +kernel
theorem dX4_add_20 : decode cX4_add 20 = .ok (.aload_n 0, 1) := by decide +kernel
theorem dX4_add_21 : decode cX4_add 21 = .ok (.getfield 15, 3) := by decide +kernel
theorem dX4_add_24 : decode cX4_add 24 = .ok (.iload_n 1, 1) := by decide +kernel
theorem dX4_add_25 : decode cX4_add 25 = .ok (.iastore, 1) := by decide +kernel
theorem dX4_add_26 : decode cX4_add 26 = .ok (.aload_n 0, 1) := by decide +kernel
theorem dX4_add_27 : decode cX4_add 27 = .ok (.dup, 1) := by decide +kernel
theorem dX4_add_28 : decode cX4_add 28 = .ok (.getfield 15, 3) := by decide +kernel
theorem dX4_add_31 : decode cX4_add 31 = .ok (.iconst 1, 1) := by decide +kernel
theorem dX4_add_32 : decode cX4_add 32 = .ok (.iadd, 1) := by decide +kernel
theorem dX4_add_33 : decode cX4_add 33 = .ok (.putfield 15, 3) := by decide +kernel
theorem dX4_add_36 : decode cX4_add 36 = .ok (.return_, 1) := by decide +kernel
theorem dX5_init_0 : decode cX5_init 0 = .ok (.aload_n 0, 1) := by decide +kernel
theorem dX5_init_1 : decode cX5_init 1 = .ok (.invokespecial 1, 3) := by decide +kernel
theorem dX5_init_4 : decode cX5_init 4 = .ok (.aload_n 0, 1) := by decide +kernel
theorem dX5_init_5 : decode cX5_init 5 = .ok (.bipush 6, 2) := by decide +kernel
theorem dX5_init_7 : decode cX5_init 7 = .ok (.anewarray 9, 3) := by decide +kernel
theorem dX5_init_10 : decode cX5_init 10 = .ok (.putfield 11, 3) := by decide +kernel
theorem dX5_init_13 : decode cX5_init 13 = .ok (.iconst 0, 1) := by decide +kernel
theorem dX5_init_14 : decode cX5_init 14 = .ok (.istore_n 1, 1) := by decide +kernel
theorem dX5_init_15 : decode cX5_init 15 = .ok (.iload_n 1, 1) := by decide +kernel
theorem dX5_init_16 : decode cX5_init 16 = .ok (.bipush 6, 2) := by decide +kernel
theorem dX5_init_18 : decode cX5_init 18 = .ok (.if_icmp .ge 22, 3) := by decide +kernel
theorem dX5_init_21 : decode cX5_init 21 = .ok (.aload_n 0, 1) := by decide +kernel
theorem dX5_init_22 : decode cX5_init 22 = .ok (.getfield 11, 3) := by decide +kernel
theorem dX5_init_25 : decode cX5_init 25 = .ok (.iload_n 1, 1) := by decide +kernel
theorem dX5_init_26 : decode cX5_init 26 = .ok (.new 9, 3) := by decide +kernel
theorem dX5_init_29 : decode cX5_init 29 = .ok (.dup, 1) := by decide +kernel
theorem dX5_init_30 : decode cX5_init 30 = .ok (.invokespecial 15, 3) := by decide +kernel
theorem dX5_init_33 : decode cX5_init 33 = .ok (.aastore, 1) := by decide +kernel
theorem dX5_init_34 : decode cX5_init 34 = .ok (.iinc 1 1, 3) := by decide +kernel
theorem dX5_init_37 : decode cX5_init 37 = .ok (.goto (-22), 3) := by decide +kernel
theorem dX5_init_40 : decode cX5_init 40 = .ok (.aload_n 0, 1) := by decide +kernel
theorem dX5_init_41 : decode cX5_init 41 = .ok (.new 16, 3) := by decide +kernel
theorem dX5_init_44 : decode cX5_init 44 = .ok (.dup, 1) := by decide +kernel
theorem dX5_init_45 : decode cX5_init 45 = .ok (.invokespecial 18, 3) := by decide +kernel
theorem dX5_init_48 : decode cX5_init 48 = .ok (.putfield 19, 3) := by decide +kernel
theorem dX5_init_51 : decode cX5_init 51 = .ok (.aload_n 0, 1) := by decide +kernel
theorem dX5_init_52 : decode cX5_init 52 = .ok (.new 23, 3) := by decide +kernel
theorem dX5_init_55 : decode cX5_init 55 = .ok (.dup, 1) := by decide +kernel
theorem dX5_init_56 : decode cX5_init 56 = .ok (.invokespecial 25, 3) := by decide +kernel
theorem dX5_init_59 : decode cX5_init 59 = .ok (.putfield 26, 3) := by decide +kernel
theorem dX5_init_62 : decode cX5_init 62 = .ok (.aload_n 0, 1) := by decide +kernel
theorem dX5_init_63 : decode cX5_init 63 = .ok (.new 30, 3) := by decide +kernel
theorem dX5_init_66 : decode cX5_init 66 = .ok (.dup, 1) := by decide +kernel
theorem dX5_init_67 : decode cX5_init 67 = .ok (.invokespecial 32, 3) := by decide +kernel
theorem dX5_init_70 : decode cX5_init 70 = .ok (.putfield 33, 3) := by decide +kernel
theorem dX5_init_73 : decode cX5_init 73 = .ok (.aload_n 0, 1) := by decide +kernel
theorem dX5_init_74 : decode cX5_init 74 = .ok (.iconst 0, 1) := by decide +kernel
theorem dX5_init_75 : decode cX5_init 75 = .ok (.putfield 37, 3) := by decide +kernel
theorem dX5_init_78 : decode cX5_init 78 = .ok (.return_, 1) := by decide +kernel
theorem dX5_octet_0 : decode cX5_octet 0 = .ok (.iload_n 1, 1) := by decide +kernel
theorem dX5_octet_1 : decode cX5_octet 1 = .ok (.bipush 6, 2) := by decide +kernel
theorem dX5_octet_3 : decode cX5_octet 3 = .ok (.invokestatic 41, 3) := by decide +kernel
theorem dX5_octet_6 : decode cX5_octet 6 = .ok (.ifCond .ne 5, 3) := by decide +kernel
theorem dX5_octet_9 : decode cX5_octet 9 = .ok (.iconst (-1), 1) := by decide +kernel
theorem dX5_octet_10 : decode cX5_octet 10 = .ok (.ireturn, 1) := by decide +kernel
theorem dX5_octet_11 : decode cX5_octet 11 = .ok (.aload_n 0, 1) := by decide +kernel
theorem dX5_octet_12 : decode cX5_octet 12 = .ok (.getfield 11, 3) := by decide +kernel
theorem dX5_octet_15 : decode cX5_octet 15 = .ok (.iload_n 1, 1) := by decide +kernel
theorem dX5_octet_16 : decode cX5_octet 16 = .ok (.aaload, 1) := by decide +kernel
theorem dX5_octet_17 : decode cX5_octet 17 = .ok (.astore_n 3, 1) := by decide +kernel
theorem dX5_octet_18 : decode cX5_octet 18 = .ok (.iload_n 2, 1) := by decide +kernel
theorem dX5_octet_19 : decode cX5_octet 19 = .ok (.sipush 255, 3) := by decide +kernel
theorem dX5_octet_22 : decode cX5_octet 22 = .ok (.iand, 1) := by decide +kernel
theorem dX5_octet_23 : decode cX5_octet 23 = .ok (.istore 4, 2) := by decide +kernel
theorem dX5_octet_25 : decode cX5_octet 25 = .ok (.aload_n 3, 1) := by decide +kernel
theorem dX5_octet_26 : decode cX5_octet 26 = .ok (.getfield 45, 3) := by decide +kernel
theorem dX5_octet_29 : decode cX5_octet 29 = .ok (.ifCond .ne 10, 3) := by decide +kernel
theorem dX5_octet_32 : decode cX5_octet 32 = .ok (.iload 4, 2) := by decide +kernel
theorem dX5_octet_34 : decode cX5_octet 34 = .ok (.bipush 13, 2) := by decide +kernel
theorem dX5_octet_36 : decode cX5_octet 36 = .ok (.if_icmp .eq 10, 3) := by decide +kernel
theorem dX5_octet_39 : decode cX5_octet 39 = .ok (.aload_n 3, 1) := by decide +kernel
theorem dX5_octet_40 : decode cX5_octet 40 = .ok (.iload 4, 2) := by decide +kernel
theorem dX5_octet_42 : decode cX5_octet 42 = .ok (.invokevirtual 49, 3) := by decide +kernel
theorem dX5_octet_45 : decode cX5_octet 45 = .ok (.ireturn, 1) := by decide +kernel
theorem dX5_octet_46 : decode cX5_octet 46 = .ok (.aload_n 0, 1) := by decide +kernel
theorem dX5_octet_47 : decode cX5_octet 47 = .ok (.iload_n 1, 1) := by decide +kernel
theorem dX5_octet_48 : decode cX5_octet 48 = .ok (.aload_n 3, 1) := by decide +kernel
theorem dX5_octet_49 : decode cX5_octet 49 = .ok (.invokevirtual 53, 3) := by decide +kernel
theorem dX5_octet_52 : decode cX5_octet 52 = .ok (.iconst 0, 1) := by decide +kernel
theorem dX5_octet_53 : decode cX5_octet 53 = .ok (.ireturn, 1) := by decide +kernel
theorem dX5_answer_0 : decode cX5_answer 0 = .ok (.iload_n 1, 1) := by decide +kernel
theorem dX5_answer_1 : decode cX5_answer 1 = .ok (.bipush 6, 2) := by decide +kernel
theorem dX5_answer_3 : decode cX5_answer 3 = .ok (.invokestatic 41, 3) := by decide +kernel
theorem dX5_answer_6 : decode cX5_answer 6 = .ok (.ifCond .eq 22, 3) := by decide +kernel
theorem dX5_answer_9 : decode cX5_answer 9 = .ok (.iload_n 2, 1) := by decide +kernel
theorem dX5_answer_10 : decode cX5_answer 10 = .ok (.aload_n 0, 1) := by decide +kernel
theorem dX5_answer_11 : decode cX5_answer 11 = .ok (.getfield 11, 3) := by decide +kernel
theorem dX5_answer_14 : decode cX5_answer 14 = .ok (.iload_n 1, 1) := by decide +kernel
theorem dX5_answer_15 : decode cX5_answer 15 = .ok (.aaload, 1) := by decide +kernel
theorem dX5_answer_16 : decode cX5_answer 16 = .ok (.getfield 57, 3) := by decide +kernel
theorem dX5_answer_19 : decode cX5_answer 19 = .ok (.getfield 61, 3) := by decide +kernel
theorem dX5_answer_22 : decode cX5_answer 22 = .ok (.invokestatic 41, 3) := by decide +kernel
theorem dX5_answer_25 : decode cX5_answer 25 = .ok (.ifCond .ne 13, 3) := by decide +kernel
theorem dX5_answer_28 : decode cX5_answer 28 = .ok (.new 66, 3) := by decide +kernel
theorem dX5_answer_31 : decode cX5_answer 31 = .ok (.dup, 1) := by decide +kernel
theorem dX5_answer_32 : decode cX5_answer 32 = .ok (.ldc 68, 2) := by decide +kernel
theorem dX5_answer_34 : decode cX5_answer 34 = .ok (.invokespecial 70, 3) := by decide +kernel
theorem dX5_answer_37 : decode cX5_answer 37 = .ok (.athrow, 1) := by decide +kernel
theorem dX5_answer_38 : decode cX5_answer 38 = .ok (.aload_n 0, 1) := by decide +kernel
theorem dX5_answer_39 : decode cX5_answer 39 = .ok (.getfield 11, 3) := by decide +kernel
theorem dX5_answer_42 : decode cX5_answer 42 = .ok (.iload_n 1, 1) := by decide +kernel
theorem dX5_answer_43 : decode cX5_answer 43 = .ok (.aaload, 1) := by decide +kernel
theorem dX5_answer_44 : decode cX5_answer 44 = .ok (.getfield 57, 3) := by decide +kernel
theorem dX5_answer_47 : decode cX5_answer 47 = .ok (.getfield 73, 3) := by decide +kernel
theorem dX5_answer_50 : decode cX5_answer 50 = .ok (.iload_n 2, 1) := by decide +kernel
theorem dX5_answer_51 : decode cX5_answer 51 = .ok (.iaload, 1) := by decide +kernel
theorem dX5_answer_52 : decode cX5_answer 52 = .ok (.ireturn, 1) := by decide +kernel
theorem dX5_reset_0 : decode cX5_reset 0 = .ok (.iload_n 1, 1) := by decide +kernel
theorem dX5_reset_1 : decode cX5_reset 1 = .ok (.bipush 6, 2) := by decide +kernel
theorem dX5_reset_3 : decode cX5_reset 3 = .ok (.invokestatic 41, 3) := by decide +kernel
theorem dX5_reset_6 : decode cX5_reset 6 = .ok (.ifCond .ne 5, 3) := by decide +kernel
theorem dX5_reset_9 : decode cX5_reset 9 = .ok (.iconst (-1), 1) := by decide +kernel
theorem dX5_reset_10 : decode cX5_reset 10 = .ok (.ireturn, 1) := by decide +kernel
theorem dX5_reset_11 : decode cX5_reset 11 = .ok (.aload_n 0, 1) := by decide +kernel
theorem dX5_reset_12 : decode cX5_reset 12 = .ok (.getfield 11, 3) := by decide +kernel
theorem dX5_reset_15 : decode cX5_reset 15 = .ok (.iload_n 1, 1) := by decide +kernel
theorem dX5_reset_16 : decode cX5_reset 16 = .ok (.aaload, 1) := by decide +kernel
theorem dX5_reset_17 : decode cX5_reset 17 = .ok (.getfield 77, 3) := by decide +kernel
theorem dX5_reset_20 : decode cX5_reset 20 = .ok (.istore_n 2, 1) := by decide +kernel
theorem dX5_reset_21 : decode cX5_reset 21 = .ok (.aload_n 0, 1) := by decide +kernel
theorem dX5_reset_22 : decode cX5_reset 22 = .ok (.getfield 11, 3) := by decide +kernel
theorem dX5_reset_25 : decode cX5_reset 25 = .ok (.iload_n 1, 1) := by decide +kernel
theorem dX5_reset_26 : decode cX5_reset 26 = .ok (.aaload, 1) := by decide +kernel
theorem dX5_reset_27 : decode cX5_reset 27 = .ok (.invokevirtual 80, 3) := by decide +kernel
theorem dX5_reset_30 : decode cX5_reset 30 = .ok (.iload_n 2, 1) := by decide +kernel
theorem dX5_reset_31 : decode cX5_reset 31 = .ok (.ireturn, 1) := by decide +kernel
theorem dX5_offline_0 : decode cX5_offline 0 = .ok (.iload_n 1, 1) := by decide +kernel
theorem dX5_offline_1 : decode cX5_offline 1 = .ok (.bipush 6, 2) := by decide +kernel
theorem dX5_offline_3 : decode cX5_offline 3 = .ok (.invokestatic 41, 3) := by decide +kernel
theorem dX5_offline_6 : decode cX5_offline 6 = .ok (.ifCond .eq 34, 3) := by decide +kernel
theorem dX5_offline_9 : decode cX5_offline 9 = .ok (.iload_n 2, 1) := by decide +kernel
theorem dX5_offline_10 : decode cX5_offline 10 = .ok (.iconst 2, 1) := by decide +kernel
theorem dX5_offline_11 : decode cX5_offline 11 = .ok (.invokestatic 41, 3) := by decide +kernel
theorem dX5_offline_14 : decode cX5_offline 14 = .ok (.ifCond .eq 26, 3) := by decide +kernel
theorem dX5_offline_17 : decode cX5_offline 17 = .ok (.iload_n 3, 1) := by decide +kernel
theorem dX5_offline_18 : decode cX5_offline 18 = .ok (.bipush 30, 2) := by decide +kernel
theorem dX5_offline_20 : decode cX5_offline 20 = .ok (.invokestatic 41, 3) := by decide +kernel
theorem dX5_offline_23 : decode cX5_offline 23 = .ok (.ifCond .eq 17, 3) := by decide +kernel
theorem dX5_offline_26 : decode cX5_offline 26 = .ok (.iload 4, 2) := by decide +kernel
theorem dX5_offline_28 : decode cX5_offline 28 = .ok (.bipush 30, 2) := by decide +kernel
theorem dX5_offline_30 : decode cX5_offline 30 = .ok (.invokestatic 41, 3) := by decide +kernel
theorem dX5_offline_33 : decode cX5_offline 33 = .ok (.ifCond .eq 7, 3) := by decide +kernel
theorem dX5_offline_36 : decode cX5_offline 36 = .ok (.iconst 1, 1) := by decide +kernel
theorem dX5_offline_37 : decode cX5_offline 37 = .ok (.goto 4, 3) := by decide +kernel
theorem dX5_offline_40 : decode cX5_offline 40 = .ok (.iconst 0, 1) := by decide +kernel
theorem dX5_offline_41 : decode cX5_offline 41 = .ok (.istore 5, 2) := by decide +kernel
theorem dX5_offline_43 : decode cX5_offline 43 = .ok (.iload 5, 2) := by decide +kernel
theorem dX5_offline_45 : decode cX5_offline 45 = .ok (.ifCond .ne 5, 3) := by decide +kernel
theorem dX5_offline_48 : decode cX5_offline 48 = .ok (.iconst (-1), 1) := by decide +kernel
theorem dX5_offline_49 : decode cX5_offline 49 = .ok (.ireturn, 1) := by decide +kernel
theorem dX5_offline_50 : decode cX5_offline 50 = .ok (.aload_n 0, 1) := by decide +kernel
theorem dX5_offline_51 : decode cX5_offline 51 = .ok (.getfield 11, 3) := by decide +kernel
theorem dX5_offline_54 : decode cX5_offline 54 = .ok (.iload_n 1, 1) := by decide +kernel
theorem dX5_offline_55 : decode cX5_offline 55 = .ok (.aaload, 1) := by decide +kernel
theorem dX5_offline_56 : decode cX5_offline 56 = .ok (.iload_n 2, 1) := by decide +kernel
theorem dX5_offline_57 : decode cX5_offline 57 = .ok (.ifCond .ne 8, 3) := by decide +kernel
theorem dX5_offline_60 : decode cX5_offline 60 = .ok (.bipush 67, 2) := by decide +kernel
theorem dX5_offline_62 : decode cX5_offline 62 = .ok (.goto 5, 3) := by decide +kernel
theorem dX5_offline_65 : decode cX5_offline 65 = .ok (.bipush 66, 2) := by decide +kernel
theorem dX5_offline_67 : decode cX5_offline 67 = .ok (.iload_n 3, 1) := by decide +kernel
theorem dX5_offline_68 : decode cX5_offline 68 = .ok (.iload 4, 2) := by decide +kernel
theorem dX5_offline_70 : decode cX5_offline 70 = .ok (.invokevirtual 83, 3) := by decide +kernel
theorem dX5_offline_73 : decode cX5_offline 73 = .ok (.ireturn, 1) := by decide +kernel
theorem dX5_join_0 : decode cX5_join 0 = .ok (.iload_n 1, 1) := by decide +kernel
theorem dX5_join_1 : decode cX5_join 1 = .ok (.bipush 6, 2) := by decide +kernel
theorem dX5_join_3 : decode cX5_join 3 = .ok (.invokestatic 41, 3) := by decide +kernel
theorem dX5_join_6 : decode cX5_join 6 = .ok (.ifCond .ne 5, 3) := by decide +kernel
theorem dX5_join_9 : decode cX5_join 9 = .ok (.iconst (-1), 1) := by decide +kernel
theorem dX5_join_10 : decode cX5_join 10 = .ok (.ireturn, 1) := by decide +kernel
theorem dX5_join_11 : decode cX5_join 11 = .ok (.aload_n 0, 1) := by decide +kernel
theorem dX5_join_12 : decode cX5_join 12 = .ok (.getfield 11, 3) := by decide +kernel
theorem dX5_join_15 : decode cX5_join 15 = .ok (.iload_n 1, 1) := by decide +kernel
theorem dX5_join_16 : decode cX5_join 16 = .ok (.aaload, 1) := by decide +kernel
theorem dX5_join_17 : decode cX5_join 17 = .ok (.astore_n 2, 1) := by decide +kernel
theorem dX5_join_18 : decode cX5_join 18 = .ok (.iconst 0, 1) := by decide +kernel
theorem dX5_join_19 : decode cX5_join 19 = .ok (.istore_n 3, 1) := by decide +kernel
theorem dX5_join_20 : decode cX5_join 20 = .ok (.iconst 0, 1) := by decide +kernel
theorem dX5_join_21 : decode cX5_join 21 = .ok (.istore 4, 2) := by decide +kernel
theorem dX5_join_23 : decode cX5_join 23 = .ok (.iload 4, 2) := by decide +kernel
theorem dX5_join_25 : decode cX5_join 25 = .ok (.aload_n 2, 1) := by decide +kernel
theorem dX5_join_26 : decode cX5_join 26 = .ok (.getfield 87, 3) := by decide +kernel
theorem dX5_join_29 : decode cX5_join 29 = .ok (.if_icmp .ge 48, 3) := by decide +kernel
theorem dX5_join_32 : decode cX5_join 32 = .ok (.aload_n 0, 1) := by decide +kernel
theorem dX5_join_33 : decode cX5_join 33 = .ok (.getfield 33, 3) := by decide +kernel
theorem dX5_join_36 : decode cX5_join 36 = .ok (.aload_n 2, 1) := by decide +kernel
theorem dX5_join_37 : decode cX5_join 37 = .ok (.getfield 90, 3) := by decide +kernel
theorem dX5_join_40 : decode cX5_join 40 = .ok (.iload 4, 2) := by decide +kernel
theorem dX5_join_42 : decode cX5_join 42 = .ok (.iaload, 1) := by decide +kernel
theorem dX5_join_43 : decode cX5_join 43 = .ok (.aload_n 2, 1) := by decide +kernel
theorem dX5_join_44 : decode cX5_join 44 = .ok (.getfield 93, 3) := by decide +kernel
theorem dX5_join_47 : decode cX5_join 47 = .ok (.iload 4, 2) := by decide +kernel
theorem dX5_join_49 : decode cX5_join 49 = .ok (.iaload, 1) := by decide +kernel
theorem dX5_join_50 : decode cX5_join 50 = .ok (.aload_n 2, 1) := by decide +kernel
theorem dX5_join_51 : decode cX5_join 51 = .ok (.getfield 96, 3) := by decide +kernel
theorem dX5_join_54 : decode cX5_join 54 = .ok (.iload 4, 2) := by decide +kernel
theorem dX5_join_56 : decode cX5_join 56 = .ok (.iaload, 1) := by decide +kernel
theorem dX5_join_57 : decode cX5_join 57 = .ok (.invokevirtual 99, 3) := by decide +kernel
theorem dX5_join_60 : decode cX5_join 60 = .ok (.aload_n 0, 1) := by decide +kernel
theorem dX5_join_61 : decode cX5_join 61 = .ok (.iload_n 1, 1) := by decide +kernel
theorem dX5_join_62 : decode cX5_join 62 = .ok (.invokevirtual 103, 3) := by decide +kernel
theorem dX5_join_65 : decode cX5_join 65 = .ok (.ifCond .eq 6, 3) := by decide +kernel
theorem dX5_join_68 : decode cX5_join 68 = .ok (.iinc 3 1, 3) := by decide +kernel
theorem dX5_join_71 : decode cX5_join 71 = .ok (.iinc 4 1, 3) := by decide +kernel
theorem dX5_join_74 : decode cX5_join 74 = .ok (.goto (-51), 3) := by decide +kernel
theorem dX5_join_77 : decode cX5_join 77 = .ok (.aload_n 2, 1) := by decide +kernel
theorem dX5_join_78 : decode cX5_join 78 = .ok (.iconst 0, 1) := by decide +kernel
theorem dX5_join_79 : decode cX5_join 79 = .ok (.putfield 87, 3) := by decide +kernel
theorem dX5_join_82 : decode cX5_join 82 = .ok (.iload_n 3, 1) := by decide +kernel
theorem dX5_join_83 : decode cX5_join 83 = .ok (.ireturn, 1) := by decide +kernel
theorem dX5_owes_0 : decode cX5_owes 0 = .ok (.iload_n 1, 1) := by decide +kernel
theorem dX5_owes_1 : decode cX5_owes 1 = .ok (.bipush 30, 2) := by decide +kernel
theorem dX5_owes_3 : decode cX5_owes 3 = .ok (.invokestatic 41, 3) := by decide +kernel
theorem dX5_owes_6 : decode cX5_owes 6 = .ok (.ifCond .eq 13, 3) := by decide +kernel
theorem dX5_owes_9 : decode cX5_owes 9 = .ok (.iload_n 2, 1) := by decide +kernel
theorem dX5_owes_10 : decode cX5_owes 10 = .ok (.ifCond .lt 9, 3) := by decide +kernel
theorem dX5_owes_13 : decode cX5_owes 13 = .ok (.iload_n 2, 1) := by decide +kernel
theorem dX5_owes_14 : decode cX5_owes 14 = .ok (.ldc 107, 2) := by decide +kernel
theorem dX5_owes_16 : decode cX5_owes 16 = .ok (.if_icmp .le 5, 3) := by decide +kernel
theorem dX5_owes_19 : decode cX5_owes 19 = .ok (.iconst (-1), 1) := by decide +kernel
theorem dX5_owes_20 : decode cX5_owes 20 = .ok (.ireturn, 1) := by decide +kernel
theorem dX5_owes_21 : decode cX5_owes 21 = .ok (.aload_n 0, 1) := by decide +kernel
theorem dX5_owes_22 : decode cX5_owes 22 = .ok (.getfield 19, 3) := by decide +kernel
theorem dX5_owes_25 : decode cX5_owes 25 = .ok (.getfield 108, 3) := by decide +kernel
theorem dX5_owes_28 : decode cX5_owes 28 = .ok (.iload_n 1, 1) := by decide +kernel
theorem dX5_owes_29 : decode cX5_owes 29 = .ok (.iaload, 1) := by decide +kernel
theorem dX5_owes_30 : decode cX5_owes 30 = .ok (.istore_n 3, 1) := by decide +kernel
theorem dX5_owes_31 : decode cX5_owes 31 = .ok (.aload_n 0, 1) := by decide +kernel
theorem dX5_owes_32 : decode cX5_owes 32 = .ok (.getfield 19, 3) := by decide +kernel
theorem dX5_owes_35 : decode cX5_owes 35 = .ok (.getfield 108, 3) := by decide +kernel
theorem dX5_owes_38 : decode cX5_owes 38 = .ok (.iload_n 1, 1) := by decide +kernel
theorem dX5_owes_39 : decode cX5_owes 39 = .ok (.iload_n 2, 1) := by decide +kernel
theorem dX5_owes_40 : decode cX5_owes 40 = .ok (.iastore, 1) := by decide +kernel
theorem dX5_owes_41 : decode cX5_owes 41 = .ok (.iload_n 3, 1) := by decide +kernel
theorem dX5_owes_42 : decode cX5_owes 42 = .ok (.ireturn, 1) := by decide +kernel
theorem dX5_acts_0 : decode cX5_acts 0 = .ok (.aload_n 0, 1) := by decide +kernel
theorem dX5_acts_1 : decode cX5_acts 1 = .ok (.getfield 26, 3) := by decide +kernel
theorem dX5_acts_4 : decode cX5_acts 4 = .ok (.getfield 111, 3) := by decide +kernel
theorem dX5_acts_7 : decode cX5_acts 7 = .ok (.ireturn, 1) := by decide +kernel
theorem dX5_act_0 : decode cX5_act 0 = .ok (.aload_n 0, 1) := by decide +kernel
theorem dX5_act_1 : decode cX5_act 1 = .ok (.getfield 26, 3) := by decide +kernel
theorem dX5_act_4 : decode cX5_act 4 = .ok (.iload_n 1, 1) := by decide +kernel
theorem dX5_act_5 : decode cX5_act 5 = .ok (.iload_n 2, 1) := by decide +kernel
theorem dX5_act_6 : decode cX5_act 6 = .ok (.invokevirtual 112, 3) := by decide +kernel
theorem dX5_act_9 : decode cX5_act 9 = .ok (.ireturn, 1) := by decide +kernel
theorem dX5_sum_0 : decode cX5_sum 0 = .ok (.iload_n 1, 1) := by decide +kernel
theorem dX5_sum_1 : decode cX5_sum 1 = .ok (.ifCond .ge 15, 3) := by decide +kernel
theorem dX5_sum_4 : decode cX5_sum 4 = .ok (.aload_n 0, 1) := by decide +kernel
theorem dX5_sum_5 : decode cX5_sum 5 = .ok (.getfield 37, 3) := by decide +kernel
theorem dX5_sum_8 : decode cX5_sum 8 = .ok (.istore_n 2, 1) := by decide +kernel
theorem dX5_sum_9 : decode cX5_sum 9 = .ok (.aload_n 0, 1) := by decide +kernel
theorem dX5_sum_10 : decode cX5_sum 10 = .ok (.iconst 0, 1) := by decide +kernel
theorem dX5_sum_11 : decode cX5_sum 11 = .ok (.putfield 37, 3) := by decide +kernel
theorem dX5_sum_14 : decode cX5_sum 14 = .ok (.iload_n 2, 1) := by decide +kernel
theorem dX5_sum_15 : decode cX5_sum 15 = .ok (.ireturn, 1) := by decide +kernel
theorem dX5_sum_16 : decode cX5_sum 16 = .ok (.aload_n 0, 1) := by decide +kernel
theorem dX5_sum_17 : decode cX5_sum 17 = .ok (.aload_n 0, 1) := by decide +kernel
theorem dX5_sum_18 : decode cX5_sum 18 = .ok (.getfield 37, 3) := by decide +kernel
theorem dX5_sum_21 : decode cX5_sum 21 = .ok (.iload_n 1, 1) := by decide +kernel
theorem dX5_sum_22 : decode cX5_sum 22 = .ok (.iadd, 1) := by decide +kernel
theorem dX5_sum_23 : decode cX5_sum 23 = .ok (.sipush 255, 3) := by decide +kernel
theorem dX5_sum_26 : decode cX5_sum 26 = .ok (.iand, 1) := by decide +kernel
theorem dX5_sum_27 : decode cX5_sum 27 = .ok (.putfield 37, 3) := by decide +kernel
theorem dX5_sum_30 : decode cX5_sum 30 = .ok (.aload_n 0, 1) := by decide +kernel
theorem dX5_sum_31 : decode cX5_sum 31 = .ok (.getfield 37, 3) := by decide +kernel
theorem dX5_sum_34 : decode cX5_sum 34 = .ok (.ireturn, 1) := by decide +kernel
theorem dX5_state_0 : decode cX5_state 0 = .ok (.iload_n 1, 1) := by decide +kernel
theorem dX5_state_1 : decode cX5_state 1 = .ok (.bipush 6, 2) := by decide +kernel
theorem dX5_state_3 : decode cX5_state 3 = .ok (.invokestatic 41, 3) := by decide +kernel
theorem dX5_state_6 : decode cX5_state 6 = .ok (.ifCond .ne 5, 3) := by decide +kernel
theorem dX5_state_9 : decode cX5_state 9 = .ok (.iconst (-1), 1) := by decide +kernel
theorem dX5_state_10 : decode cX5_state 10 = .ok (.ireturn, 1) := by decide +kernel
theorem dX5_state_11 : decode cX5_state 11 = .ok (.aload_n 0, 1) := by decide +kernel
theorem dX5_state_12 : decode cX5_state 12 = .ok (.getfield 11, 3) := by decide +kernel
theorem dX5_state_15 : decode cX5_state 15 = .ok (.iload_n 1, 1) := by decide +kernel
theorem dX5_state_16 : decode cX5_state 16 = .ok (.aaload, 1) := by decide +kernel
theorem dX5_state_17 : decode cX5_state 17 = .ok (.astore_n 3, 1) := by decide +kernel
theorem dX5_state_18 : decode cX5_state 18 = .ok (.iload_n 2, 1) := by decide +kernel
theorem dX5_state_19 : decode cX5_state 19 = .ok (.tableswitch 74 0 4 #[33, 38, 51, 64, 69], 33) := by decide +kernel
theorem dX5_state_52 : decode cX5_state 52 = .ok (.aload_n 3, 1) := by decide +kernel
theorem dX5_state_53 : decode cX5_state 53 = .ok (.getfield 116, 3) := by decide +kernel
theorem dX5_state_56 : decode cX5_state 56 = .ok (.ireturn, 1) := by decide +kernel
theorem dX5_state_57 : decode cX5_state 57 = .ok (.aload_n 3, 1) := by decide +kernel
theorem dX5_state_58 : decode cX5_state 58 = .ok (.getfield 119, 3) := by decide +kernel
theorem dX5_state_61 : decode cX5_state 61 = .ok (.ifCond .eq 7, 3) := by decide +kernel
theorem dX5_state_64 : decode cX5_state 64 = .ok (.iconst 1, 1) := by decide +kernel
theorem dX5_state_65 : decode cX5_state 65 = .ok (.goto 4, 3) := by decide +kernel
theorem dX5_state_68 : decode cX5_state 68 = .ok (.iconst 0, 1) := by decide +kernel
theorem dX5_state_69 : decode cX5_state 69 = .ok (.ireturn, 1) := by decide +kernel
theorem dX5_state_70 : decode cX5_state 70 = .ok (.aload_n 3, 1) := by decide +kernel
theorem dX5_state_71 : decode cX5_state 71 = .ok (.getfield 45, 3) := by decide +kernel
theorem dX5_state_74 : decode cX5_state 74 = .ok (.ifCond .eq 7, 3) := by decide +kernel
theorem dX5_state_77 : decode cX5_state 77 = .ok (.iconst 1, 1) := by decide +kernel
theorem dX5_state_78 : decode cX5_state 78 = .ok (.goto 4, 3) := by decide +kernel
theorem dX5_state_81 : decode cX5_state 81 = .ok (.iconst 0, 1) := by decide +kernel
theorem dX5_state_82 : decode cX5_state 82 = .ok (.ireturn, 1) := by decide +kernel
theorem dX5_state_83 : decode cX5_state 83 = .ok (.aload_n 3, 1) := by decide +kernel
theorem dX5_state_84 : decode cX5_state 84 = .ok (.getfield 87, 3) := by decide +kernel
theorem dX5_state_87 : decode cX5_state 87 = .ok (.ireturn, 1) := by decide +kernel
theorem dX5_state_88 : decode cX5_state 88 = .ok (.aload_n 3, 1) := by decide +kernel
theorem dX5_state_89 : decode cX5_state 89 = .ok (.getfield 122, 3) := by decide +kernel
theorem dX5_state_92 : decode cX5_state 92 = .ok (.ireturn, 1) := by decide +kernel
theorem dX5_state_93 : decode cX5_state 93 = .ok (.iconst (-1), 1) := by decide +kernel
theorem dX5_state_94 : decode cX5_state 94 = .ok (.ireturn, 1) := by decide +kernel
theorem dX5_waits_0 : decode cX5_waits 0 = .ok (.iload_n 1, 1) := by decide +kernel
theorem dX5_waits_1 : decode cX5_waits 1 = .ok (.bipush 30, 2) := by decide +kernel
theorem dX5_waits_3 : decode cX5_waits 3 = .ok (.invokestatic 41, 3) := by decide +kernel
theorem dX5_waits_6 : decode cX5_waits 6 = .ok (.ifCond .eq 19, 3) := by decide +kernel
theorem dX5_waits_9 : decode cX5_waits 9 = .ok (.iload_n 2, 1) := by decide +kernel
theorem dX5_waits_10 : decode cX5_waits 10 = .ok (.aload_n 0, 1) := by decide +kernel
theorem dX5_waits_11 : decode cX5_waits 11 = .ok (.getfield 19, 3) := by decide +kernel
theorem dX5_waits_14 : decode cX5_waits 14 = .ok (.getfield 125, 3) := by decide +kernel
theorem dX5_waits_17 : decode cX5_waits 17 = .ok (.iload_n 1, 1) := by decide +kernel
theorem dX5_waits_18 : decode cX5_waits 18 = .ok (.iaload, 1) := by decide +kernel
theorem dX5_waits_19 : decode cX5_waits 19 = .ok (.invokestatic 41, 3) := by decide +kernel
theorem dX5_waits_22 : decode cX5_waits 22 = .ok (.ifCond .ne 5, 3) := by decide +kernel
theorem dX5_waits_25 : decode cX5_waits 25 = .ok (.iconst (-1), 1) := by decide +kernel
theorem dX5_waits_26 : decode cX5_waits 26 = .ok (.ireturn, 1) := by decide +kernel
theorem dX5_waits_27 : decode cX5_waits 27 = .ok (.aload_n 0, 1) := by decide +kernel
theorem dX5_waits_28 : decode cX5_waits 28 = .ok (.getfield 19, 3) := by decide +kernel
theorem dX5_waits_31 : decode cX5_waits 31 = .ok (.getfield 128, 3) := by decide +kernel
theorem dX5_waits_34 : decode cX5_waits 34 = .ok (.iload_n 1, 1) := by decide +kernel
theorem dX5_waits_35 : decode cX5_waits 35 = .ok (.aaload, 1) := by decide +kernel
theorem dX5_waits_36 : decode cX5_waits 36 = .ok (.iload_n 2, 1) := by decide +kernel
theorem dX5_waits_37 : decode cX5_waits 37 = .ok (.iaload, 1) := by decide +kernel
theorem dX5_waits_38 : decode cX5_waits 38 = .ok (.ireturn, 1) := by decide +kernel
theorem dX5_endMessage_0 : decode cX5_endMessage 0 = .ok (.aload_n 0, 1) := by decide +kernel
theorem dX5_endMessage_1 : decode cX5_endMessage 1 = .ok (.getfield 33, 3) := by decide +kernel
theorem dX5_endMessage_4 : decode cX5_endMessage 4 = .ok (.aload_n 2, 1) := by decide +kernel
theorem dX5_endMessage_5 : decode cX5_endMessage 5 = .ok (.getfield 132, 3) := by decide +kernel
theorem dX5_endMessage_8 : decode cX5_endMessage 8 = .ok (.aload_n 2, 1) := by decide +kernel
theorem dX5_endMessage_9 : decode cX5_endMessage 9 = .ok (.getfield 77, 3) := by decide +kernel
theorem dX5_endMessage_12 : decode cX5_endMessage 12 = .ok (.invokevirtual 133, 3) := by decide +kernel
theorem dX5_endMessage_15 : decode cX5_endMessage 15 = .ok (.istore_n 3, 1) := by decide +kernel
theorem dX5_endMessage_16 : decode cX5_endMessage 16 = .ok (.aload_n 2, 1) := by decide +kernel
theorem dX5_endMessage_17 : decode cX5_endMessage 17 = .ok (.iconst 0, 1) := by decide +kernel
theorem dX5_endMessage_18 : decode cX5_endMessage 18 = .ok (.putfield 77, 3) := by decide +kernel
theorem dX5_endMessage_21 : decode cX5_endMessage 21 = .ok (.iload_n 3, 1) := by decide +kernel
theorem dX5_endMessage_22 : decode cX5_endMessage 22 = .ok (.ifCond .ne 23, 3) := by decide +kernel
theorem dX5_endMessage_25 : decode cX5_endMessage 25 = .ok (.aload_n 2, 1) := by decide +kernel
theorem dX5_endMessage_26 : decode cX5_endMessage 26 = .ok (.dup, 1) := by decide +kernel
theorem dX5_endMessage_27 : decode cX5_endMessage 27 = .ok (.getfield 122, 3) := by decide +kernel
theorem dX5_endMessage_30 : decode cX5_endMessage 30 = .ok (.iconst 1, 1) := by decide +kernel
theorem dX5_endMessage_31 : decode cX5_endMessage 31 = .ok (.iadd, 1) := by decide +kernel
theorem dX5_endMessage_32 : decode cX5_endMessage 32 = .ok (.putfield 122, 3) := by decide +kernel
theorem dX5_endMessage_35 : decode cX5_endMessage 35 = .ok (.aload_n 2, 1) := by decide +kernel
theorem dX5_endMessage_36 : decode cX5_endMessage 36 = .ok (.getfield 57, 3) := by decide +kernel
theorem dX5_endMessage_39 : decode cX5_endMessage 39 = .ok (.invokevirtual 137, 3) := by decide +kernel
theorem dX5_endMessage_42 : decode cX5_endMessage 42 = .ok (.goto 82, 3) := by decide +kernel
theorem dX5_endMessage_45 : decode cX5_endMessage 45 = .ok (.aload_n 0, 1) := by decide +kernel
theorem dX5_endMessage_46 : decode cX5_endMessage 46 = .ok (.getfield 33, 3) := by decide +kernel
theorem dX5_endMessage_49 : decode cX5_endMessage 49 = .ok (.getfield 140, 3) := by decide +kernel
theorem dX5_endMessage_52 : decode cX5_endMessage 52 = .ok (.bipush 81, 2) := by decide +kernel
theorem dX5_endMessage_54 : decode cX5_endMessage 54 = .ok (.if_icmp .ne 27, 3) := by decide +kernel
theorem dX5_endMessage_57 : decode cX5_endMessage 57 = .ok (.aload_n 2, 1) := by decide +kernel
theorem dX5_endMessage_58 : decode cX5_endMessage 58 = .ok (.getfield 143, 3) := by decide +kernel
theorem dX5_endMessage_61 : decode cX5_endMessage 61 = .ok (.getfield 61, 3) := by decide +kernel
theorem dX5_endMessage_64 : decode cX5_endMessage 64 = .ok (.ifCond .ne 17, 3) := by decide +kernel
theorem dX5_endMessage_67 : decode cX5_endMessage 67 = .ok (.aload_n 2, 1) := by decide +kernel
theorem dX5_endMessage_68 : decode cX5_endMessage 68 = .ok (.getfield 57, 3) := by decide +kernel
theorem dX5_endMessage_71 : decode cX5_endMessage 71 = .ok (.aload_n 0, 1) := by decide +kernel
theorem dX5_endMessage_72 : decode cX5_endMessage 72 = .ok (.getfield 33, 3) := by decide +kernel
theorem dX5_endMessage_75 : decode cX5_endMessage 75 = .ok (.invokevirtual 146, 3) := by decide +kernel
theorem dX5_endMessage_78 : decode cX5_endMessage 78 = .ok (.goto 46, 3) := by decide +kernel
theorem dX5_endMessage_81 : decode cX5_endMessage 81 = .ok (.aload_n 0, 1) := by decide +kernel
theorem dX5_endMessage_82 : decode cX5_endMessage 82 = .ok (.getfield 33, 3) := by decide +kernel
theorem dX5_endMessage_85 : decode cX5_endMessage 85 = .ok (.getfield 140, 3) := by decide +kernel
theorem dX5_endMessage_88 : decode cX5_endMessage 88 = .ok (.bipush 81, 2) := by decide +kernel
theorem dX5_endMessage_90 : decode cX5_endMessage 90 = .ok (.if_icmp .eq 23, 3) := by decide +kernel
theorem dX5_endMessage_93 : decode cX5_endMessage 93 = .ok (.aload_n 0, 1) := by decide +kernel
theorem dX5_endMessage_94 : decode cX5_endMessage 94 = .ok (.getfield 33, 3) := by decide +kernel
theorem dX5_endMessage_97 : decode cX5_endMessage 97 = .ok (.getfield 150, 3) := by decide +kernel
theorem dX5_endMessage_100 : decode cX5_endMessage 100 = .ok (.aload_n 2, 1) := by decide +kernel
theorem dX5_endMessage_101 : decode cX5_endMessage 101 = .ok (.getfield 116, 3) := by decide +kernel
theorem dX5_endMessage_104 : decode cX5_endMessage 104 = .ok (.if_icmp .eq 9, 3) := by decide +kernel
theorem dX5_endMessage_107 : decode cX5_endMessage 107 = .ok (.aload_n 0, 1) := by decide +kernel
theorem dX5_endMessage_108 : decode cX5_endMessage 108 = .ok (.iload_n 1, 1) := by decide +kernel
theorem dX5_endMessage_109 : decode cX5_endMessage 109 = .ok (.aload_n 2, 1) := by decide +kernel
theorem dX5_endMessage_110 : decode cX5_endMessage 110 = .ok (.invokevirtual 153, 3) := by decide +kernel
theorem dX5_endMessage_113 : decode cX5_endMessage 113 = .ok (.aload_n 2, 1) := by decide +kernel
theorem dX5_endMessage_114 : decode cX5_endMessage 114 = .ok (.getfield 57, 3) := by decide +kernel
theorem dX5_endMessage_117 : decode cX5_endMessage 117 = .ok (.aload_n 2, 1) := by decide +kernel
theorem dX5_endMessage_118 : decode cX5_endMessage 118 = .ok (.getfield 143, 3) := by decide +kernel
theorem dX5_endMessage_121 : decode cX5_endMessage 121 = .ok (.invokevirtual 156, 3) := by decide +kernel
theorem dX5_endMessage_124 : decode cX5_endMessage 124 = .ok (.return_, 1) := by decide +kernel
theorem dX5_doMessage_0 : decode cX5_doMessage 0 = .ok (.aload_n 2, 1) := by decide +kernel
theorem dX5_doMessage_1 : decode cX5_doMessage 1 = .ok (.aload_n 0, 1) := by decide +kernel
theorem dX5_doMessage_2 : decode cX5_doMessage 2 = .ok (.getfield 33, 3) := by decide +kernel
theorem dX5_doMessage_5 : decode cX5_doMessage 5 = .ok (.getfield 150, 3) := by decide +kernel
theorem dX5_doMessage_8 : decode cX5_doMessage 8 = .ok (.putfield 116, 3) := by decide +kernel
theorem dX5_doMessage_11 : decode cX5_doMessage 11 = .ok (.aload_n 0, 1) := by decide +kernel
theorem dX5_doMessage_12 : decode cX5_doMessage 12 = .ok (.getfield 33, 3) := by decide +kernel
theorem dX5_doMessage_15 : decode cX5_doMessage 15 = .ok (.getfield 140, 3) := by decide +kernel
theorem dX5_doMessage_18 : decode cX5_doMessage 18 = .ok (.bipush 83, 2) := by decide +kernel
theorem dX5_doMessage_20 : decode cX5_doMessage 20 = .ok (.if_icmp .ne 8, 3) := by decide +kernel
theorem dX5_doMessage_23 : decode cX5_doMessage 23 = .ok (.aload_n 2, 1) := by decide +kernel
theorem dX5_doMessage_24 : decode cX5_doMessage 24 = .ok (.iconst 1, 1) := by decide +kernel
theorem dX5_doMessage_25 : decode cX5_doMessage 25 = .ok (.putfield 119, 3) := by decide +kernel
theorem dX5_doMessage_28 : decode cX5_doMessage 28 = .ok (.aload_n 0, 1) := by decide +kernel
theorem dX5_doMessage_29 : decode cX5_doMessage 29 = .ok (.getfield 33, 3) := by decide +kernel
theorem dX5_doMessage_32 : decode cX5_doMessage 32 = .ok (.invokevirtual 160, 3) := by decide +kernel
theorem dX5_doMessage_35 : decode cX5_doMessage 35 = .ok (.istore_n 3, 1) := by decide +kernel
theorem dX5_doMessage_36 : decode cX5_doMessage 36 = .ok (.aload_n 2, 1) := by decide +kernel
theorem dX5_doMessage_37 : decode cX5_doMessage 37 = .ok (.getfield 119, 3) := by decide +kernel
theorem dX5_doMessage_40 : decode cX5_doMessage 40 = .ok (.ifCond .ne 17, 3) := by decide +kernel
theorem dX5_doMessage_43 : decode cX5_doMessage 43 = .ok (.aload_n 2, 1) := by decide +kernel
theorem dX5_doMessage_44 : decode cX5_doMessage 44 = .ok (.getfield 143, 3) := by decide +kernel
theorem dX5_doMessage_47 : decode cX5_doMessage 47 = .ok (.aload_n 0, 1) := by decide +kernel
theorem dX5_doMessage_48 : decode cX5_doMessage 48 = .ok (.getfield 33, 3) := by decide +kernel
theorem dX5_doMessage_51 : decode cX5_doMessage 51 = .ok (.invokevirtual 146, 3) := by decide +kernel
theorem dX5_doMessage_54 : decode cX5_doMessage 54 = .ok (.goto 54, 3) := by decide +kernel
theorem dX5_doMessage_57 : decode cX5_doMessage 57 = .ok (.iload_n 3, 1) := by decide +kernel
theorem dX5_doMessage_58 : decode cX5_doMessage 58 = .ok (.iconst (-1), 1) := by decide +kernel
theorem dX5_doMessage_59 : decode cX5_doMessage 59 = .ok (.if_icmp .eq 18, 3) := by decide +kernel
theorem dX5_doMessage_62 : decode cX5_doMessage 62 = .ok (.aload_n 2, 1) := by decide +kernel
theorem dX5_doMessage_63 : decode cX5_doMessage 63 = .ok (.getfield 143, 3) := by decide +kernel
theorem dX5_doMessage_66 : decode cX5_doMessage 66 = .ok (.aload_n 0, 1) := by decide +kernel
theorem dX5_doMessage_67 : decode cX5_doMessage 67 = .ok (.getfield 33, 3) := by decide +kernel
theorem dX5_doMessage_70 : decode cX5_doMessage 70 = .ok (.iload_n 3, 1) := by decide +kernel
theorem dX5_doMessage_71 : decode cX5_doMessage 71 = .ok (.invokevirtual 164, 3) := by decide +kernel
theorem dX5_doMessage_74 : decode cX5_doMessage 74 = .ok (.goto 34, 3) := by decide +kernel
theorem dX5_doMessage_77 : decode cX5_doMessage 77 = .ok (.aload_n 0, 1) := by decide +kernel
theorem dX5_doMessage_78 : decode cX5_doMessage 78 = .ok (.iload_n 1, 1) := by decide +kernel
theorem dX5_doMessage_79 : decode cX5_doMessage 79 = .ok (.invokevirtual 103, 3) := by decide +kernel
theorem dX5_doMessage_82 : decode cX5_doMessage 82 = .ok (.istore 4, 2) := by decide +kernel
theorem dX5_doMessage_84 : decode cX5_doMessage 84 = .ok (.aload_n 2, 1) := by decide +kernel
theorem dX5_doMessage_85 : decode cX5_doMessage 85 = .ok (.getfield 143, 3) := by decide +kernel
theorem dX5_doMessage_88 : decode cX5_doMessage 88 = .ok (.aload_n 0, 1) := by decide +kernel
theorem dX5_doMessage_89 : decode cX5_doMessage 89 = .ok (.getfield 33, 3) := by decide +kernel
theorem dX5_doMessage_92 : decode cX5_doMessage 92 = .ok (.iload 4, 2) := by decide +kernel
theorem dX5_doMessage_94 : decode cX5_doMessage 94 = .ok (.aload_n 0, 1) := by decide +kernel
theorem dX5_doMessage_95 : decode cX5_doMessage 95 = .ok (.getfield 19, 3) := by decide +kernel
theorem dX5_doMessage_98 : decode cX5_doMessage 98 = .ok (.aload_n 0, 1) := by decide +kernel
theorem dX5_doMessage_99 : decode cX5_doMessage 99 = .ok (.getfield 33, 3) := by decide +kernel
theorem dX5_doMessage_102 : decode cX5_doMessage 102 = .ok (.invokevirtual 168, 3) := by decide +kernel
theorem dX5_doMessage_105 : decode cX5_doMessage 105 = .ok (.invokevirtual 172, 3) := by decide +kernel
theorem dX5_doMessage_108 : decode cX5_doMessage 108 = .ok (.return_, 1) := by decide +kernel
theorem dX5_carryOut_0 : decode cX5_carryOut 0 = .ok (.aload_n 0, 1) := by decide +kernel
theorem dX5_carryOut_1 : decode cX5_carryOut 1 = .ok (.getfield 33, 3) := by decide +kernel
theorem dX5_carryOut_4 : decode cX5_carryOut 4 = .ok (.getfield 140, 3) := by decide +kernel
theorem dX5_carryOut_7 : decode cX5_carryOut 7 = .ok (.bipush 66, 2) := by decide +kernel
theorem dX5_carryOut_9 : decode cX5_carryOut 9 = .ok (.if_icmp .ne 25, 3) := by decide +kernel
theorem dX5_carryOut_12 : decode cX5_carryOut 12 = .ok (.aload_n 0, 1) := by decide +kernel
theorem dX5_carryOut_13 : decode cX5_carryOut 13 = .ok (.getfield 33, 3) := by decide +kernel
theorem dX5_carryOut_16 : decode cX5_carryOut 16 = .ok (.aload_n 0, 1) := by decide +kernel
theorem dX5_carryOut_17 : decode cX5_carryOut 17 = .ok (.getfield 19, 3) := by decide +kernel
theorem dX5_carryOut_20 : decode cX5_carryOut 20 = .ok (.getfield 176, 3) := by decide +kernel
theorem dX5_carryOut_23 : decode cX5_carryOut 23 = .ok (.aload_n 0, 1) := by decide +kernel
theorem dX5_carryOut_24 : decode cX5_carryOut 24 = .ok (.getfield 33, 3) := by decide +kernel
theorem dX5_carryOut_27 : decode cX5_carryOut 27 = .ok (.getfield 179, 3) := by decide +kernel
theorem dX5_carryOut_30 : decode cX5_carryOut 30 = .ok (.iaload, 1) := by decide +kernel
theorem dX5_carryOut_31 : decode cX5_carryOut 31 = .ok (.putfield 182, 3) := by decide +kernel
theorem dX5_carryOut_34 : decode cX5_carryOut 34 = .ok (.aload_n 0, 1) := by decide +kernel
theorem dX5_carryOut_35 : decode cX5_carryOut 35 = .ok (.getfield 19, 3) := by decide +kernel
theorem dX5_carryOut_38 : decode cX5_carryOut 38 = .ok (.aload_n 0, 1) := by decide +kernel
theorem dX5_carryOut_39 : decode cX5_carryOut 39 = .ok (.getfield 33, 3) := by decide +kernel
theorem dX5_carryOut_42 : decode cX5_carryOut 42 = .ok (.invokevirtual 185, 3) := by decide +kernel
theorem dX5_carryOut_45 : decode cX5_carryOut 45 = .ok (.istore_n 2, 1) := by decide +kernel
theorem dX5_carryOut_46 : decode cX5_carryOut 46 = .ok (.iload_n 2, 1) := by decide +kernel
theorem dX5_carryOut_47 : decode cX5_carryOut 47 = .ok (.ifCond .eq 25, 3) := by decide +kernel
theorem dX5_carryOut_50 : decode cX5_carryOut 50 = .ok (.aload_n 0, 1) := by decide +kernel
theorem dX5_carryOut_51 : decode cX5_carryOut 51 = .ok (.getfield 33, 3) := by decide +kernel
theorem dX5_carryOut_54 : decode cX5_carryOut 54 = .ok (.invokevirtual 189, 3) := by decide +kernel
theorem dX5_carryOut_57 : decode cX5_carryOut 57 = .ok (.ifCond .eq 15, 3) := by decide +kernel
theorem dX5_carryOut_60 : decode cX5_carryOut 60 = .ok (.aload_n 0, 1) := by decide +kernel
theorem dX5_carryOut_61 : decode cX5_carryOut 61 = .ok (.getfield 26, 3) := by decide +kernel
theorem dX5_carryOut_64 : decode cX5_carryOut 64 = .ok (.iload_n 1, 1) := by decide +kernel
theorem dX5_carryOut_65 : decode cX5_carryOut 65 = .ok (.aload_n 0, 1) := by decide +kernel
theorem dX5_carryOut_66 : decode cX5_carryOut 66 = .ok (.getfield 33, 3) := by decide +kernel
theorem dX5_carryOut_69 : decode cX5_carryOut 69 = .ok (.invokevirtual 193, 3) := by decide +kernel
theorem dX5_carryOut_72 : decode cX5_carryOut 72 = .ok (.iload_n 2, 1) := by decide +kernel
theorem dX5_carryOut_73 : decode cX5_carryOut 73 = .ok (.ireturn, 1) := by decide +kernel
theorem dX5_isBelow_0 : decode cX5_isBelow 0 = .ok (.iload_n 0, 1) := by decide +kernel
theorem dX5_isBelow_1 : decode cX5_isBelow 1 = .ok (.ifCond .lt 12, 3) := by decide +kernel
theorem dX5_isBelow_4 : decode cX5_isBelow 4 = .ok (.iload_n 0, 1) := by decide +kernel
theorem dX5_isBelow_5 : decode cX5_isBelow 5 = .ok (.iload_n 1, 1) := by decide +kernel
theorem dX5_isBelow_6 : decode cX5_isBelow 6 = .ok (.if_icmp .ge 7, 3) := by decide +kernel
theorem dX5_isBelow_9 : decode cX5_isBelow 9 = .ok (.iconst 1, 1) := by decide +kernel
theorem dX5_isBelow_10 : decode cX5_isBelow 10 = .ok (.goto 4, 3) := by decide +kernel
theorem dX5_isBelow_13 : decode cX5_isBelow 13 = .ok (.iconst 0, 1) := by decide +kernel
theorem dX5_isBelow_14 : decode cX5_isBelow 14 = .ok (.ireturn, 1) := by decide +kernel
theorem dX5_isDigit_0 : decode cX5_isDigit 0 = .ok (.iload_n 0, 1) := by decide +kernel
theorem dX5_isDigit_1 : decode cX5_isDigit 1 = .ok (.bipush 48, 2) := by decide +kernel
theorem dX5_isDigit_3 : decode cX5_isDigit 3 = .ok (.if_icmp .lt 13, 3) := by decide +kernel
theorem dX5_isDigit_6 : decode cX5_isDigit 6 = .ok (.iload_n 0, 1) := by decide +kernel
theorem dX5_isDigit_7 : decode cX5_isDigit 7 = .ok (.bipush 57, 2) := by decide +kernel
theorem dX5_isDigit_9 : decode cX5_isDigit 9 = .ok (.if_icmp .gt 7, 3) := by decide +kernel
theorem dX5_isDigit_12 : decode cX5_isDigit 12 = .ok (.iconst 1, 1) := by decide +kernel
theorem dX5_isDigit_13 : decode cX5_isDigit 13 = .ok (.goto 4, 3) := by decide +kernel
theorem dX5_isDigit_16 : decode cX5_isDigit 16 = .ok (.iconst 0, 1) := by decide +kernel
theorem dX5_isDigit_17 : decode cX5_isDigit 17 = .ok (.ireturn, 1) := by decide +kernel
theorem dX5_hexDigit_0 : decode cX5_hexDigit 0 = .ok (.iload_n 0, 1) := by decide +kernel
theorem dX5_hexDigit_1 : decode cX5_hexDigit 1 = .ok (.bipush 15, 2) := by decide +kernel
theorem dX5_hexDigit_3 : decode cX5_hexDigit 3 = .ok (.iand, 1) := by decide +kernel
theorem dX5_hexDigit_4 : decode cX5_hexDigit 4 = .ok (.istore_n 1, 1) := by decide +kernel
theorem dX5_hexDigit_5 : decode cX5_hexDigit 5 = .ok (.iload_n 1, 1) := by decide +kernel
theorem dX5_hexDigit_6 : decode cX5_hexDigit 6 = .ok (.bipush 10, 2) := by decide +kernel
theorem dX5_hexDigit_8 : decode cX5_hexDigit 8 = .ok (.if_icmp .ge 10, 3) := by decide +kernel
theorem dX5_hexDigit_11 : decode cX5_hexDigit 11 = .ok (.bipush 48, 2) := by decide +kernel
theorem dX5_hexDigit_13 : decode cX5_hexDigit 13 = .ok (.iload_n 1, 1) := by decide +kernel
theorem dX5_hexDigit_14 : decode cX5_hexDigit 14 = .ok (.iadd, 1) := by decide +kernel
theorem dX5_hexDigit_15 : decode cX5_hexDigit 15 = .ok (.goto 10, 3) := by decide +kernel
theorem dX5_hexDigit_18 : decode cX5_hexDigit 18 = .ok (.bipush 65, 2) := by decide +kernel
theorem dX5_hexDigit_20 : decode cX5_hexDigit 20 = .ok (.iload_n 1, 1) := by decide +kernel
theorem dX5_hexDigit_21 : decode cX5_hexDigit 21 = .ok (.iadd, 1) := by decide +kernel
theorem dX5_hexDigit_22 : decode cX5_hexDigit 22 = .ok (.bipush 10, 2) := by decide +kernel
theorem dX5_hexDigit_24 : decode cX5_hexDigit 24 = .ok (.isub, 1) := by decide +kernel
theorem dX5_hexDigit_25 : decode cX5_hexDigit 25 = .ok (.ireturn, 1) := by decide +kernel
theorem dX5_sumOf_0 : decode cX5_sumOf 0 = .ok (.iconst 0, 1) := by decide +kernel
theorem dX5_sumOf_1 : decode cX5_sumOf 1 = .ok (.istore_n 2, 1) := by decide +kernel
theorem dX5_sumOf_2 : decode cX5_sumOf 2 = .ok (.iconst 0, 1) := by decide +kernel
theorem dX5_sumOf_3 : decode cX5_sumOf 3 = .ok (.istore_n 3, 1) := by decide +kernel
theorem dX5_sumOf_4 : decode cX5_sumOf 4 = .ok (.iload_n 3, 1) := by decide +kernel
theorem dX5_sumOf_5 : decode cX5_sumOf 5 = .ok (.iload_n 1, 1) := by decide +kernel
theorem dX5_sumOf_6 : decode cX5_sumOf 6 = .ok (.if_icmp .ge 21, 3) := by decide +kernel
theorem dX5_sumOf_9 : decode cX5_sumOf 9 = .ok (.iload_n 3, 1) := by decide +kernel
theorem dX5_sumOf_10 : decode cX5_sumOf 10 = .ok (.aload_n 0, 1) := by decide +kernel
theorem dX5_sumOf_11 : decode cX5_sumOf 11 = .ok (.arraylength, 1) := by decide +kernel
theorem dX5_sumOf_12 : decode cX5_sumOf 12 = .ok (.if_icmp .ge 15, 3) := by decide +kernel
theorem dX5_sumOf_15 : decode cX5_sumOf 15 = .ok (.iload_n 2, 1) := by decide +kernel
theorem dX5_sumOf_16 : decode cX5_sumOf 16 = .ok (.aload_n 0, 1) := by decide +kernel
theorem dX5_sumOf_17 : decode cX5_sumOf 17 = .ok (.iload_n 3, 1) := by decide +kernel
theorem dX5_sumOf_18 : decode cX5_sumOf 18 = .ok (.iaload, 1) := by decide +kernel
theorem dX5_sumOf_19 : decode cX5_sumOf 19 = .ok (.iadd, 1) := by decide +kernel
theorem dX5_sumOf_20 : decode cX5_sumOf 20 = .ok (.istore_n 2, 1) := by decide +kernel
theorem dX5_sumOf_21 : decode cX5_sumOf 21 = .ok (.iinc 3 1, 3) := by decide +kernel
theorem dX5_sumOf_24 : decode cX5_sumOf 24 = .ok (.goto (-20), 3) := by decide +kernel
theorem dX5_sumOf_27 : decode cX5_sumOf 27 = .ok (.iload_n 2, 1) := by decide +kernel
theorem dX5_sumOf_28 : decode cX5_sumOf 28 = .ok (.sipush 255, 3) := by decide +kernel
theorem dX5_sumOf_31 : decode cX5_sumOf 31 = .ok (.iand, 1) := by decide +kernel
theorem dX5_sumOf_32 : decode cX5_sumOf 32 = .ok (.ireturn, 1) := by decide +kernel
