theorem dX6_init_0 : decode cX6_init 0 = .ok (.aload_n 0, 1) := by decide +kernel
theorem dX6_init_1 : decode cX6_init 1 = .ok (.invokespecial 1, 3) := by decide +kernel
theorem dX6_init_4 : decode cX6_init 4 = .ok (.aload_n 0, 1) := by decide +kernel
theorem dX6_init_5 : decode cX6_init 5 = .ok (.bipush 6, 2) := by decide +kernel
theorem dX6_init_7 : decode cX6_init 7 = .ok (.newarray .int, 2) := by decide +kernel
theorem dX6_init_9 : decode cX6_init 9 = .ok (.putfield 7, 3) := by decide +kernel
theorem dX6_init_12 : decode cX6_init 12 = .ok (.aload_n 0, 1) := by decide +kernel
theorem dX6_init_13 : decode cX6_init 13 = .ok (.sipush 360, 3) := by decide +kernel
theorem dX6_init_16 : decode cX6_init 16 = .ok (.newarray .byte, 2) := by decide +kernel
theorem dX6_init_18 : decode cX6_init 18 = .ok (.putfield 13, 3) := by decide +kernel
theorem dX6_init_21 : decode cX6_init 21 = .ok (.aload_n 0, 1) := by decide +kernel
theorem dX6_init_22 : decode cX6_init 22 = .ok (.bipush 6, 2) := by decide +kernel
theorem dX6_init_24 : decode cX6_init 24 = .ok (.newarray .boolean, 2) := by decide +kernel
theorem dX6_init_26 : decode cX6_init 26 = .ok (.putfield 17, 3) := by decide +kernel
theorem dX6_init_29 : decode cX6_init 29 = .ok (.aload_n 0, 1) := by decide +kernel
theorem dX6_init_30 : decode cX6_init 30 = .ok (.bipush 6, 2) := by decide +kernel
theorem dX6_init_32 : decode cX6_init 32 = .ok (.newarray .boolean, 2) := by decide +kernel
theorem dX6_init_34 : decode cX6_init 34 = .ok (.putfield 21, 3) := by decide +kernel
theorem dX6_init_37 : decode cX6_init 37 = .ok (.aload_n 0, 1) := by decide +kernel
theorem dX6_init_38 : decode cX6_init 38 = .ok (.bipush 6, 2) := by decide +kernel
theorem dX6_init_40 : decode cX6_init 40 = .ok (.newarray .int, 2) := by decide +kernel
theorem dX6_init_42 : decode cX6_init 42 = .ok (.putfield 24, 3) := by decide +kernel
theorem dX6_init_45 : decode cX6_init 45 = .ok (.aload_n 0, 1) := by decide +kernel
theorem dX6_init_46 : decode cX6_init 46 = .ok (.bipush 6, 2) := by decide +kernel
theorem dX6_init_48 : decode cX6_init 48 = .ok (.newarray .int, 2) := by decide +kernel
theorem dX6_init_50 : decode cX6_init 50 = .ok (.putfield 27, 3) := by decide +kernel
theorem dX6_init_53 : decode cX6_init 53 = .ok (.aload_n 0, 1) := by decide +kernel
theorem dX6_init_54 : decode cX6_init 54 = .ok (.bipush 6, 2) := by decide +kernel
theorem dX6_init_56 : decode cX6_init 56 = .ok (.newarray .int, 2) := by decide +kernel
theorem dX6_init_58 : decode cX6_init 58 = .ok (.putfield 30, 3) := by decide +kernel
theorem dX6_init_61 : decode cX6_init 61 = .ok (.aload_n 0, 1) := by decide +kernel
theorem dX6_init_62 : decode cX6_init 62 = .ok (.sipush 180, 3) := by decide +kernel
theorem dX6_init_65 : decode cX6_init 65 = .ok (.newarray .byte, 2) := by decide +kernel
theorem dX6_init_67 : decode cX6_init 67 = .ok (.putfield 33, 3) := by decide +kernel
theorem dX6_init_70 : decode cX6_init 70 = .ok (.aload_n 0, 1) := by decide +kernel
theorem dX6_init_71 : decode cX6_init 71 = .ok (.bipush 6, 2) := by decide +kernel
theorem dX6_init_73 : decode cX6_init 73 = .ok (.newarray .int, 2) := by decide +kernel
theorem dX6_init_75 : decode cX6_init 75 = .ok (.putfield 36, 3) := by decide +kernel
theorem dX6_init_78 : decode cX6_init 78 = .ok (.aload_n 0, 1) := by decide +kernel
theorem dX6_init_79 : decode cX6_init 79 = .ok (.sipush 180, 3) := by decide +kernel
theorem dX6_init_82 : decode cX6_init 82 = .ok (.newarray .byte, 2) := by decide +kernel
theorem dX6_init_84 : decode cX6_init 84 = .ok (.putfield 39, 3) := by decide +kernel
theorem dX6_init_87 : decode cX6_init 87 = .ok (.aload_n 0, 1) := by decide +kernel
theorem dX6_init_88 : decode cX6_init 88 = .ok (.bipush 6, 2) := by decide +kernel
theorem dX6_init_90 : decode cX6_init 90 = .ok (.newarray .int, 2) := by decide +kernel
theorem dX6_init_92 : decode cX6_init 92 = .ok (.putfield 42, 3) := by decide +kernel
theorem dX6_init_95 : decode cX6_init 95 = .ok (.aload_n 0, 1) := by decide +kernel
theorem dX6_init_96 : decode cX6_init 96 = .ok (.bipush 120, 2) := by decide +kernel
theorem dX6_init_98 : decode cX6_init 98 = .ok (.newarray .int, 2) := by decide +kernel
theorem dX6_init_100 : decode cX6_init 100 = .ok (.putfield 45, 3) := by decide +kernel
theorem dX6_init_103 : decode cX6_init 103 = .ok (.aload_n 0, 1) := by decide +kernel
theorem dX6_init_104 : decode cX6_init 104 = .ok (.bipush 120, 2) := by decide +kernel
theorem dX6_init_106 : decode cX6_init 106 = .ok (.newarray .int, 2) := by decide +kernel
theorem dX6_init_108 : decode cX6_init 108 = .ok (.putfield 48, 3) := by decide +kernel
theorem dX6_init_111 : decode cX6_init 111 = .ok (.aload_n 0, 1) := by decide +kernel
theorem dX6_init_112 : decode cX6_init 112 = .ok (.bipush 120, 2) := by decide +kernel
theorem dX6_init_114 : decode cX6_init 114 = .ok (.newarray .int, 2) := by decide +kernel
theorem dX6_init_116 : decode cX6_init 116 = .ok (.putfield 51, 3) := by decide +kernel
theorem dX6_init_119 : decode cX6_init 119 = .ok (.aload_n 0, 1) := by decide +kernel
theorem dX6_init_120 : decode cX6_init 120 = .ok (.bipush 30, 2) := by decide +kernel
theorem dX6_init_122 : decode cX6_init 122 = .ok (.newarray .int, 2) := by decide +kernel
theorem dX6_init_124 : decode cX6_init 124 = .ok (.putfield 54, 3) := by decide +kernel
theorem dX6_init_127 : decode cX6_init 127 = .ok (.aload_n 0, 1) := by decide +kernel
theorem dX6_init_128 : decode cX6_init 128 = .ok (.bipush 30, 2) := by decide +kernel
theorem dX6_init_130 : decode cX6_init 130 = .ok (.newarray .int, 2) := by decide +kernel
theorem dX6_init_132 : decode cX6_init 132 = .ok (.putfield 57, 3) := by decide +kernel
theorem dX6_init_135 : decode cX6_init 135 = .ok (.aload_n 0, 1) := by decide +kernel
theorem dX6_init_136 : decode cX6_init 136 = .ok (.bipush 30, 2) := by decide +kernel
theorem dX6_init_138 : decode cX6_init 138 = .ok (.newarray .int, 2) := by decide +kernel
theorem dX6_init_140 : decode cX6_init 140 = .ok (.putfield 60, 3) := by decide +kernel
theorem dX6_init_143 : decode cX6_init 143 = .ok (.aload_n 0, 1) := by decide +kernel
theorem dX6_init_144 : decode cX6_init 144 = .ok (.bipush 30, 2) := by decide +kernel
theorem dX6_init_146 : decode cX6_init 146 = .ok (.newarray .int, 2) := by decide +kernel
theorem dX6_init_148 : decode cX6_init 148 = .ok (.putfield 63, 3) := by decide +kernel
theorem dX6_init_151 : decode cX6_init 151 = .ok (.aload_n 0, 1) := by decide +kernel
theorem dX6_init_152 : decode cX6_init 152 = .ok (.sipush 900, 3) := by decide +kernel
theorem dX6_init_155 : decode cX6_init 155 = .ok (.newarray .int, 2) := by decide +kernel
theorem dX6_init_157 : decode cX6_init 157 = .ok (.putfield 66, 3) := by decide +kernel
theorem dX6_init_160 : decode cX6_init 160 = .ok (.aload_n 0, 1) := by decide +kernel
theorem dX6_init_161 : decode cX6_init 161 = .ok (.sipush 5000, 3) := by decide +kernel
theorem dX6_init_164 : decode cX6_init 164 = .ok (.newarray .int, 2) := by decide +kernel
theorem dX6_init_166 : decode cX6_init 166 = .ok (.putfield 69, 3) := by decide +kernel
theorem dX6_init_169 : decode cX6_init 169 = .ok (.iconst 0, 1) := by decide +kernel
theorem dX6_init_170 : decode cX6_init 170 = .ok (.istore_n 1, 1) := by decide +kernel
theorem dX6_init_171 : decode cX6_init 171 = .ok (.iload_n 1, 1) := by decide +kernel
theorem dX6_init_172 : decode cX6_init 172 = .ok (.bipush 6, 2) := by decide +kernel
theorem dX6_init_174 : decode cX6_init 174 = .ok (.if_icmp .ge 16, 3) := by decide +kernel
theorem dX6_init_177 : decode cX6_init 177 = .ok (.aload_n 0, 1) := by decide +kernel
theorem dX6_init_178 : decode cX6_init 178 = .ok (.getfield 24, 3) := by decide +kernel
theorem dX6_init_181 : decode cX6_init 181 = .ok (.iload_n 1, 1) := by decide +kernel
theorem dX6_init_182 : decode cX6_init 182 = .ok (.iconst (-1), 1) := by decide +kernel
theorem dX6_init_183 : decode cX6_init 183 = .ok (.iastore, 1) := by decide +kernel
theorem dX6_init_184 : decode cX6_init 184 = .ok (.iinc 1 1, 3) := by decide +kernel
theorem dX6_init_187 : decode cX6_init 187 = .ok (.goto (-16), 3) := by decide +kernel
theorem dX6_init_190 : decode cX6_init 190 = .ok (.return_, 1) := by decide +kernel
theorem dX6_in_0 : decode cX6_in 0 = .ok (.iload_n 0, 1) := by decide +kernel
theorem dX6_in_1 : decode cX6_in 1 = .ok (.iload_n 1, 1) := by decide +kernel
theorem dX6_in_2 : decode cX6_in 2 = .ok (.if_icmp .lt 12, 3) := by decide +kernel
theorem dX6_in_5 : decode cX6_in 5 = .ok (.iload_n 0, 1) := by decide +kernel
theorem dX6_in_6 : decode cX6_in 6 = .ok (.iload_n 2, 1) := by decide +kernel
theorem dX6_in_7 : decode cX6_in 7 = .ok (.if_icmp .gt 7, 3) := by decide +kernel
theorem dX6_in_10 : decode cX6_in 10 = .ok (.iconst 1, 1) := by decide +kernel
theorem dX6_in_11 : decode cX6_in 11 = .ok (.goto 4, 3) := by decide +kernel
theorem dX6_in_14 : decode cX6_in 14 = .ok (.iconst 0, 1) := by decide +kernel
theorem dX6_in_15 : decode cX6_in 15 = .ok (.ireturn, 1) := by decide +kernel
theorem dX6_isDevice_0 : decode cX6_isDevice 0 = .ok (.iload_n 0, 1) := by decide +kernel
theorem dX6_isDevice_1 : decode cX6_isDevice 1 = .ok (.iconst 0, 1) := by decide +kernel
theorem dX6_isDevice_2 : decode cX6_isDevice 2 = .ok (.iconst 5, 1) := by decide +kernel
theorem dX6_isDevice_3 : decode cX6_isDevice 3 = .ok (.invokestatic 76, 3) := by decide +kernel
theorem dX6_isDevice_6 : decode cX6_isDevice 6 = .ok (.ireturn, 1) := by decide +kernel
theorem dX6_look_0 : decode cX6_look 0 = .ok (.aload_n 0, 1) := by decide +kernel
theorem dX6_look_1 : decode cX6_look 1 = .ok (.getfield 80, 3) := by decide +kernel
theorem dX6_look_4 : decode cX6_look 4 = .ok (.aload_n 0, 1) := by decide +kernel
theorem dX6_look_5 : decode cX6_look 5 = .ok (.getfield 7, 3) := by decide +kernel
theorem dX6_look_8 : decode cX6_look 8 = .ok (.iload_n 1, 1) := by decide +kernel
theorem dX6_look_9 : decode cX6_look 9 = .ok (.iaload, 1) := by decide +kernel
theorem dX6_look_10 : decode cX6_look 10 = .ok (.if_icmp .ge 24, 3) := by decide +kernel
theorem dX6_look_13 : decode cX6_look 13 = .ok (.aload_n 0, 1) := by decide +kernel
theorem dX6_look_14 : decode cX6_look 14 = .ok (.getfield 13, 3) := by decide +kernel
theorem dX6_look_17 : decode cX6_look 17 = .ok (.bipush 60, 2) := by decide +kernel
theorem dX6_look_19 : decode cX6_look 19 = .ok (.iload_n 1, 1) := by decide +kernel
theorem dX6_look_20 : decode cX6_look 20 = .ok (.imul, 1) := by decide +kernel
theorem dX6_look_21 : decode cX6_look 21 = .ok (.aload_n 0, 1) := by decide +kernel
theorem dX6_look_22 : decode cX6_look 22 = .ok (.getfield 80, 3) := by decide +kernel
theorem dX6_look_25 : decode cX6_look 25 = .ok (.iadd, 1) := by decide +kernel
theorem dX6_look_26 : decode cX6_look 26 = .ok (.baload, 1) := by decide +kernel
theorem dX6_look_27 : decode cX6_look 27 = .ok (.sipush 255, 3) := by decide +kernel
theorem dX6_look_30 : decode cX6_look 30 = .ok (.iand, 1) := by decide +kernel
theorem dX6_look_31 : decode cX6_look 31 = .ok (.goto 4, 3) := by decide +kernel
theorem dX6_look_34 : decode cX6_look 34 = .ok (.iconst (-1), 1) := by decide +kernel
theorem dX6_look_35 : decode cX6_look 35 = .ok (.ireturn, 1) := by decide +kernel
theorem dX6_isKind_0 : decode cX6_isKind 0 = .ok (.iload_n 0, 1) := by decide +kernel
theorem dX6_isKind_1 : decode cX6_isKind 1 = .ok (.bipush 83, 2) := by decide +kernel
theorem dX6_isKind_3 : decode cX6_isKind 3 = .ok (.if_icmp .eq 51, 3) := by decide +kernel
theorem dX6_isKind_6 : decode cX6_isKind 6 = .ok (.iload_n 0, 1) := by decide +kernel
theorem dX6_isKind_7 : decode cX6_isKind 7 = .ok (.bipush 67, 2) := by decide +kernel
theorem dX6_isKind_9 : decode cX6_isKind 9 = .ok (.if_icmp .eq 45, 3) := by decide +kernel
theorem dX6_isKind_12 : decode cX6_isKind 12 = .ok (.iload_n 0, 1) := by decide +kernel
theorem dX6_isKind_13 : decode cX6_isKind 13 = .ok (.bipush 66, 2) := by decide +kernel
theorem dX6_isKind_15 : decode cX6_isKind 15 = .ok (.if_icmp .eq 39, 3) := by decide +kernel
theorem dX6_isKind_18 : decode cX6_isKind 18 = .ok (.iload_n 0, 1) := by decide +kernel
theorem dX6_isKind_19 : decode cX6_isKind 19 = .ok (.bipush 80, 2) := by decide +kernel
theorem dX6_isKind_21 : decode cX6_isKind 21 = .ok (.if_icmp .eq 33, 3) := by decide +kernel
theorem dX6_isKind_24 : decode cX6_isKind 24 = .ok (.iload_n 0, 1) := by decide +kernel
theorem dX6_isKind_25 : decode cX6_isKind 25 = .ok (.bipush 73, 2) := by decide +kernel
theorem dX6_isKind_27 : decode cX6_isKind 27 = .ok (.if_icmp .eq 27, 3) := by decide +kernel
theorem dX6_isKind_30 : decode cX6_isKind 30 = .ok (.iload_n 0, 1) := by decide +kernel
theorem dX6_isKind_31 : decode cX6_isKind 31 = .ok (.bipush 70, 2) := by decide +kernel
theorem dX6_isKind_33 : decode cX6_isKind 33 = .ok (.if_icmp .eq 21, 3) := by decide +kernel
theorem dX6_isKind_36 : decode cX6_isKind 36 = .ok (.iload_n 0, 1) := by decide +kernel
theorem dX6_isKind_37 : decode cX6_isKind 37 = .ok (.bipush 72, 2) := by decide +kernel
theorem dX6_isKind_39 : decode cX6_isKind 39 = .ok (.if_icmp .eq 15, 3) := by decide +kernel
theorem dX6_isKind_42 : decode cX6_isKind 42 = .ok (.iload_n 0, 1) := by decide +kernel
theorem dX6_isKind_43 : decode cX6_isKind 43 = .ok (.bipush 82, 2) := by decide +kernel
theorem dX6_isKind_45 : decode cX6_isKind 45 = .ok (.if_icmp .eq 9, 3) := by decide +kernel
theorem dX6_isKind_48 : decode cX6_isKind 48 = .ok (.iload_n 0, 1) := by decide +kernel
theorem dX6_isKind_49 : decode cX6_isKind 49 = .ok (.bipush 81, 2) := by decide +kernel
theorem dX6_isKind_51 : decode cX6_isKind 51 = .ok (.if_icmp .ne 7, 3) := by decide +kernel
theorem dX6_isKind_54 : decode cX6_isKind 54 = .ok (.iconst 1, 1) := by decide +kernel
theorem dX6_isKind_55 : decode cX6_isKind 55 = .ok (.goto 4, 3) := by decide +kernel
theorem dX6_isKind_58 : decode cX6_isKind 58 = .ok (.iconst 0, 1) := by decide +kernel
theorem dX6_isKind_59 : decode cX6_isKind 59 = .ok (.ireturn, 1) := by decide +kernel
theorem dX6_hasPerson_0 : decode cX6_hasPerson 0 = .ok (.iload_n 0, 1) := by decide +kernel
theorem dX6_hasPerson_1 : decode cX6_hasPerson 1 = .ok (.bipush 67, 2) := by decide +kernel
theorem dX6_hasPerson_3 : decode cX6_hasPerson 3 = .ok (.if_icmp .eq 27, 3) := by decide +kernel
theorem dX6_hasPerson_6 : decode cX6_hasPerson 6 = .ok (.iload_n 0, 1) := by decide +kernel
theorem dX6_hasPerson_7 : decode cX6_hasPerson 7 = .ok (.bipush 80, 2) := by decide +kernel
theorem dX6_hasPerson_9 : decode cX6_hasPerson 9 = .ok (.if_icmp .eq 21, 3) := by decide +kernel
theorem dX6_hasPerson_12 : decode cX6_hasPerson 12 = .ok (.iload_n 0, 1) := by decide +kernel
theorem dX6_hasPerson_13 : decode cX6_hasPerson 13 = .ok (.bipush 70, 2) := by decide +kernel
theorem dX6_hasPerson_15 : decode cX6_hasPerson 15 = .ok (.if_icmp .eq 15, 3) := by decide +kernel
theorem dX6_hasPerson_18 : decode cX6_hasPerson 18 = .ok (.iload_n 0, 1) := by decide +kernel
theorem dX6_hasPerson_19 : decode cX6_hasPerson 19 = .ok (.bipush 72, 2) := by decide +kernel
theorem dX6_hasPerson_21 : decode cX6_hasPerson 21 = .ok (.if_icmp .eq 9, 3) := by decide +kernel
theorem dX6_hasPerson_24 : decode cX6_hasPerson 24 = .ok (.iload_n 0, 1) := by decide +kernel
theorem dX6_hasPerson_25 : decode cX6_hasPerson 25 = .ok (.bipush 82, 2) := by decide +kernel
theorem dX6_hasPerson_27 : decode cX6_hasPerson 27 = .ok (.if_icmp .ne 7, 3) := by decide +kernel
theorem dX6_hasPerson_30 : decode cX6_hasPerson 30 = .ok (.iconst 1, 1) := by decide +kernel
theorem dX6_hasPerson_31 : decode cX6_hasPerson 31 = .ok (.goto 4, 3) := by decide +kernel
theorem dX6_hasPerson_34 : decode cX6_hasPerson 34 = .ok (.iconst 0, 1) := by decide +kernel
theorem dX6_hasPerson_35 : decode cX6_hasPerson 35 = .ok (.ireturn, 1) := by decide +kernel
theorem dX6_hasItem_0 : decode cX6_hasItem 0 = .ok (.iload_n 0, 1) := by decide +kernel
theorem dX6_hasItem_1 : decode cX6_hasItem 1 = .ok (.bipush 67, 2) := by decide +kernel
theorem dX6_hasItem_3 : decode cX6_hasItem 3 = .ok (.if_icmp .eq 27, 3) := by decide +kernel
theorem dX6_hasItem_6 : decode cX6_hasItem 6 = .ok (.iload_n 0, 1) := by decide +kernel
theorem dX6_hasItem_7 : decode cX6_hasItem 7 = .ok (.bipush 66, 2) := by decide +kernel
theorem dX6_hasItem_9 : decode cX6_hasItem 9 = .ok (.if_icmp .eq 21, 3) := by decide +kernel
theorem dX6_hasItem_12 : decode cX6_hasItem 12 = .ok (.iload_n 0, 1) := by decide +kernel
theorem dX6_hasItem_13 : decode cX6_hasItem 13 = .ok (.bipush 73, 2) := by decide +kernel
theorem dX6_hasItem_15 : decode cX6_hasItem 15 = .ok (.if_icmp .eq 15, 3) := by decide +kernel
theorem dX6_hasItem_18 : decode cX6_hasItem 18 = .ok (.iload_n 0, 1) := by decide +kernel
theorem dX6_hasItem_19 : decode cX6_hasItem 19 = .ok (.bipush 72, 2) := by decide +kernel
theorem dX6_hasItem_21 : decode cX6_hasItem 21 = .ok (.if_icmp .eq 9, 3) := by decide +kernel
theorem dX6_hasItem_24 : decode cX6_hasItem 24 = .ok (.iload_n 0, 1) := by decide +kernel
theorem dX6_hasItem_25 : decode cX6_hasItem 25 = .ok (.bipush 82, 2) := by decide +kernel
theorem dX6_hasItem_27 : decode cX6_hasItem 27 = .ok (.if_icmp .ne 7, 3) := by decide +kernel
theorem dX6_hasItem_30 : decode cX6_hasItem 30 = .ok (.iconst 1, 1) := by decide +kernel
theorem dX6_hasItem_31 : decode cX6_hasItem 31 = .ok (.goto 4, 3) := by decide +kernel
theorem dX6_hasItem_34 : decode cX6_hasItem 34 = .ok (.iconst 0, 1) := by decide +kernel
theorem dX6_hasItem_35 : decode cX6_hasItem 35 = .ok (.ireturn, 1) := by decide +kernel
theorem dX6_field_0 : decode cX6_field 0 = .ok (.aload_n 0, 1) := by decide +kernel
theorem dX6_field_1 : decode cX6_field 1 = .ok (.iload_n 1, 1) := by decide +kernel
theorem dX6_field_2 : decode cX6_field 2 = .ok (.invokevirtual 83, 3) := by decide +kernel
theorem dX6_field_5 : decode cX6_field 5 = .ok (.iload_n 2, 1) := by decide +kernel
theorem dX6_field_6 : decode cX6_field 6 = .ok (.if_icmp .eq 5, 3) := by decide +kernel
theorem dX6_field_9 : decode cX6_field 9 = .ok (.iconst (-1), 1) := by decide +kernel
theorem dX6_field_10 : decode cX6_field 10 = .ok (.ireturn, 1) := by decide +kernel
theorem dX6_field_11 : decode cX6_field 11 = .ok (.aload_n 0, 1) := by decide +kernel
theorem dX6_field_12 : decode cX6_field 12 = .ok (.dup, 1) := by decide +kernel
theorem dX6_field_13 : decode cX6_field 13 = .ok (.getfield 80, 3) := by decide +kernel
theorem dX6_field_16 : decode cX6_field 16 = .ok (.iconst 1, 1) := by decide +kernel
theorem dX6_field_17 : decode cX6_field 17 = .ok (.iadd, 1) := by decide +kernel
theorem dX6_field_18 : decode cX6_field 18 = .ok (.putfield 80, 3) := by decide +kernel
theorem dX6_field_21 : decode cX6_field 21 = .ok (.iconst 0, 1) := by decide +kernel
theorem dX6_field_22 : decode cX6_field 22 = .ok (.istore_n 3, 1) := by decide +kernel
theorem dX6_field_23 : decode cX6_field 23 = .ok (.iconst 0, 1) := by decide +kernel
theorem dX6_field_24 : decode cX6_field 24 = .ok (.istore 4, 2) := by decide +kernel
theorem dX6_field_26 : decode cX6_field 26 = .ok (.aload_n 0, 1) := by decide +kernel
theorem dX6_field_27 : decode cX6_field 27 = .ok (.iload_n 1, 1) := by decide +kernel
theorem dX6_field_28 : decode cX6_field 28 = .ok (.invokevirtual 83, 3) := by decide +kernel
theorem dX6_field_31 : decode cX6_field 31 = .ok (.bipush 48, 2) := by decide +kernel
theorem dX6_field_33 : decode cX6_field 33 = .ok (.bipush 57, 2) := by decide +kernel
theorem dX6_field_35 : decode cX6_field 35 = .ok (.invokestatic 76, 3) := by decide +kernel
theorem dX6_field_38 : decode cX6_field 38 = .ok (.ifCond .eq 39, 3) := by decide +kernel
theorem dX6_field_41 : decode cX6_field 41 = .ok (.iload 4, 2) := by decide +kernel
theorem dX6_field_43 : decode cX6_field 43 = .ok (.iconst 5, 1) := by decide +kernel
theorem dX6_field_44 : decode cX6_field 44 = .ok (.if_icmp .ge 33, 3) := by decide +kernel
theorem dX6_field_47 : decode cX6_field 47 = .ok (.bipush 10, 2) := by decide +kernel
theorem dX6_field_49 : decode cX6_field 49 = .ok (.iload_n 3, 1) := by decide +kernel
theorem dX6_field_50 : decode cX6_field 50 = .ok (.imul, 1) := by decide +kernel
theorem dX6_field_51 : decode cX6_field 51 = .ok (.aload_n 0, 1) := by decide +kernel
theorem dX6_field_52 : decode cX6_field 52 = .ok (.iload_n 1, 1) := by decide +kernel
theorem dX6_field_53 : decode cX6_field 53 = .ok (.invokevirtual 83, 3) := by decide +kernel
theorem dX6_field_56 : decode cX6_field 56 = .ok (.iadd, 1) := by decide +kernel
theorem dX6_field_57 : decode cX6_field 57 = .ok (.bipush 48, 2) := by decide +kernel
theorem dX6_field_59 : decode cX6_field 59 = .ok (.isub, 1) := by decide +kernel
theorem dX6_field_60 : decode cX6_field 60 = .ok (.istore_n 3, 1) := by decide +kernel
theorem dX6_field_61 : decode cX6_field 61 = .ok (.iinc 4 1, 3) := by decide +kernel
theorem dX6_field_64 : decode cX6_field 64 = .ok (.aload_n 0, 1) := by decide +kernel
theorem dX6_field_65 : decode cX6_field 65 = .ok (.dup, 1) := by decide +kernel
theorem dX6_field_66 : decode cX6_field 66 = .ok (.getfield 80, 3) := by decide +kernel
theorem dX6_field_69 : decode cX6_field 69 = .ok (.iconst 1, 1) := by decide +kernel
theorem dX6_field_70 : decode cX6_field 70 = .ok (.iadd, 1) := by decide +kernel
theorem dX6_field_71 : decode cX6_field 71 = .ok (.putfield 80, 3) := by decide +kernel
theorem dX6_field_74 : decode cX6_field 74 = .ok (.goto (-48), 3) := by decide +kernel
theorem dX6_field_77 : decode cX6_field 77 = .ok (.iload 4, 2) := by decide +kernel
theorem dX6_field_79 : decode cX6_field 79 = .ok (.ifCond .eq 13, 3) := by decide +kernel
theorem dX6_field_82 : decode cX6_field 82 = .ok (.aload_n 0, 1) := by decide +kernel
theorem dX6_field_83 : decode cX6_field 83 = .ok (.iload_n 1, 1) := by decide +kernel
theorem dX6_field_84 : decode cX6_field 84 = .ok (.invokevirtual 83, 3) := by decide +kernel
theorem dX6_field_87 : decode cX6_field 87 = .ok (.bipush 124, 2) := by decide +kernel
theorem dX6_field_89 : decode cX6_field 89 = .ok (.if_icmp .eq 5, 3) := by decide +kernel
theorem dX6_field_92 : decode cX6_field 92 = .ok (.iconst (-1), 1) := by decide +kernel
theorem dX6_field_93 : decode cX6_field 93 = .ok (.ireturn, 1) := by decide +kernel
theorem dX6_field_94 : decode cX6_field 94 = .ok (.aload_n 0, 1) := by decide +kernel
theorem dX6_field_95 : decode cX6_field 95 = .ok (.dup, 1) := by decide +kernel
theorem dX6_field_96 : decode cX6_field 96 = .ok (.getfield 80, 3) := by decide +kernel
theorem dX6_field_99 : decode cX6_field 99 = .ok (.iconst 1, 1) := by decide +kernel
theorem dX6_field_100 : decode cX6_field 100 = .ok (.iadd, 1) := by decide +kernel
theorem dX6_field_101 : decode cX6_field 101 = .ok (.putfield 80, 3) := by decide +kernel
theorem dX6_field_104 : decode cX6_field 104 = .ok (.iload_n 3, 1) := by decide +kernel
theorem dX6_field_105 : decode cX6_field 105 = .ok (.ireturn, 1) := by decide +kernel
theorem dX6_hex_0 : decode cX6_hex 0 = .ok (.iload_n 0, 1) := by decide +kernel
theorem dX6_hex_1 : decode cX6_hex 1 = .ok (.bipush 48, 2) := by decide +kernel
theorem dX6_hex_3 : decode cX6_hex 3 = .ok (.bipush 57, 2) := by decide +kernel
theorem dX6_hex_5 : decode cX6_hex 5 = .ok (.invokestatic 76, 3) := by decide +kernel
theorem dX6_hex_8 : decode cX6_hex 8 = .ok (.ifCond .eq 10, 3) := by decide +kernel
theorem dX6_hex_11 : decode cX6_hex 11 = .ok (.iload_n 0, 1) := by decide +kernel
theorem dX6_hex_12 : decode cX6_hex 12 = .ok (.bipush 48, 2) := by decide +kernel
theorem dX6_hex_14 : decode cX6_hex 14 = .ok (.isub, 1) := by decide +kernel
theorem dX6_hex_15 : decode cX6_hex 15 = .ok (.goto 27, 3) := by decide +kernel
theorem dX6_hex_18 : decode cX6_hex 18 = .ok (.iload_n 0, 1) := by decide +kernel
theorem dX6_hex_19 : decode cX6_hex 19 = .ok (.bipush 65, 2) := by decide +kernel
theorem dX6_hex_21 : decode cX6_hex 21 = .ok (.bipush 70, 2) := by decide +kernel
theorem dX6_hex_23 : decode cX6_hex 23 = .ok (.invokestatic 76, 3) := by decide +kernel
theorem dX6_hex_26 : decode cX6_hex 26 = .ok (.ifCond .eq 13, 3) := by decide +kernel
theorem dX6_hex_29 : decode cX6_hex 29 = .ok (.iload_n 0, 1) := by decide +kernel
theorem dX6_hex_30 : decode cX6_hex 30 = .ok (.bipush 65, 2) := by decide +kernel
theorem dX6_hex_32 : decode cX6_hex 32 = .ok (.isub, 1) := by decide +kernel
theorem dX6_hex_33 : decode cX6_hex 33 = .ok (.bipush 10, 2) := by decide +kernel
theorem dX6_hex_35 : decode cX6_hex 35 = .ok (.iadd, 1) := by decide +kernel
theorem dX6_hex_36 : decode cX6_hex 36 = .ok (.goto 6, 3) := by decide +kernel
theorem dX6_hex_39 : decode cX6_hex 39 = .ok (.sipush (-1000), 3) := by decide +kernel
theorem dX6_hex_42 : decode cX6_hex 42 = .ok (.ireturn, 1) := by decide +kernel
theorem dX6_digit_0 : decode cX6_digit 0 = .ok (.iload_n 0, 1) := by decide +kernel
theorem dX6_digit_1 : decode cX6_digit 1 = .ok (.bipush 10, 2) := by decide +kernel
theorem dX6_digit_3 : decode cX6_digit 3 = .ok (.if_icmp .ge 10, 3) := by decide +kernel
theorem dX6_digit_6 : decode cX6_digit 6 = .ok (.bipush 48, 2) := by decide +kernel
theorem dX6_digit_8 : decode cX6_digit 8 = .ok (.iload_n 0, 1) := by decide +kernel
theorem dX6_digit_9 : decode cX6_digit 9 = .ok (.iadd, 1) := by decide +kernel
theorem dX6_digit_10 : decode cX6_digit 10 = .ok (.goto 10, 3) := by decide +kernel
theorem dX6_digit_13 : decode cX6_digit 13 = .ok (.bipush 65, 2) := by decide +kernel
theorem dX6_digit_15 : decode cX6_digit 15 = .ok (.iload_n 0, 1) := by decide +kernel
theorem dX6_digit_16 : decode cX6_digit 16 = .ok (.iadd, 1) := by decide +kernel
theorem dX6_digit_17 : decode cX6_digit 17 = .ok (.bipush 10, 2) := by decide +kernel
theorem dX6_digit_19 : decode cX6_digit 19 = .ok (.isub, 1) := by decide +kernel
theorem dX6_digit_20 : decode cX6_digit 20 = .ok (.ireturn, 1) := by decide +kernel
theorem dX6_reads_0 : decode cX6_reads 0 = .ok (.aload_n 0, 1) := by decide +kernel
theorem dX6_reads_1 : decode cX6_reads 1 = .ok (.iconst 0, 1) := by decide +kernel
theorem dX6_reads_2 : decode cX6_reads 2 = .ok (.putfield 80, 3) := by decide +kernel
theorem dX6_reads_5 : decode cX6_reads 5 = .ok (.aload_n 0, 1) := by decide +kernel
theorem dX6_reads_6 : decode cX6_reads 6 = .ok (.aload_n 0, 1) := by decide +kernel
theorem dX6_reads_7 : decode cX6_reads 7 = .ok (.iload_n 1, 1) := by decide +kernel
theorem dX6_reads_8 : decode cX6_reads 8 = .ok (.invokevirtual 83, 3) := by decide +kernel
theorem dX6_reads_11 : decode cX6_reads 11 = .ok (.putfield 87, 3) := by decide +kernel
theorem dX6_reads_14 : decode cX6_reads 14 = .ok (.aload_n 0, 1) := by decide +kernel
theorem dX6_reads_15 : decode cX6_reads 15 = .ok (.getfield 87, 3) := by decide +kernel
theorem dX6_reads_18 : decode cX6_reads 18 = .ok (.invokestatic 90, 3) := by decide +kernel
theorem dX6_reads_21 : decode cX6_reads 21 = .ok (.ifCond .ne 5, 3) := by decide +kernel
theorem dX6_reads_24 : decode cX6_reads 24 = .ok (.iconst 0, 1) := by decide +kernel
theorem dX6_reads_25 : decode cX6_reads 25 = .ok (.ireturn, 1) := by decide +kernel
theorem dX6_reads_26 : decode cX6_reads 26 = .ok (.aload_n 0, 1) := by decide +kernel
theorem dX6_reads_27 : decode cX6_reads 27 = .ok (.iconst 1, 1) := by decide +kernel
theorem dX6_reads_28 : decode cX6_reads 28 = .ok (.putfield 80, 3) := by decide +kernel
theorem dX6_reads_31 : decode cX6_reads 31 = .ok (.aload_n 0, 1) := by decide +kernel
theorem dX6_reads_32 : decode cX6_reads 32 = .ok (.iload_n 1, 1) := by decide +kernel
theorem dX6_reads_33 : decode cX6_reads 33 = .ok (.invokevirtual 83, 3) := by decide +kernel
theorem dX6_reads_36 : decode cX6_reads 36 = .ok (.bipush 48, 2) := by decide +kernel
theorem dX6_reads_38 : decode cX6_reads 38 = .ok (.bipush 57, 2) := by decide +kernel
theorem dX6_reads_40 : decode cX6_reads 40 = .ok (.invokestatic 76, 3) := by decide +kernel
theorem dX6_reads_43 : decode cX6_reads 43 = .ok (.ifCond .ne 5, 3) := by decide +kernel
theorem dX6_reads_46 : decode cX6_reads 46 = .ok (.iconst 0, 1) := by decide +kernel
theorem dX6_reads_47 : decode cX6_reads 47 = .ok (.ireturn, 1) := by decide +kernel
theorem dX6_reads_48 : decode cX6_reads 48 = .ok (.aload_n 0, 1) := by decide +kernel
theorem dX6_reads_49 : decode cX6_reads 49 = .ok (.aload_n 0, 1) := by decide +kernel
theorem dX6_reads_50 : decode cX6_reads 50 = .ok (.iload_n 1, 1) := by decide +kernel
theorem dX6_reads_51 : decode cX6_reads 51 = .ok (.invokevirtual 83, 3) := by decide +kernel
theorem dX6_reads_54 : decode cX6_reads 54 = .ok (.bipush 48, 2) := by decide +kernel
theorem dX6_reads_56 : decode cX6_reads 56 = .ok (.isub, 1) := by decide +kernel
theorem dX6_reads_57 : decode cX6_reads 57 = .ok (.putfield 94, 3) := by decide +kernel
theorem dX6_reads_60 : decode cX6_reads 60 = .ok (.aload_n 0, 1) := by decide +kernel
theorem dX6_reads_61 : decode cX6_reads 61 = .ok (.iconst 2, 1) := by decide +kernel
theorem dX6_reads_62 : decode cX6_reads 62 = .ok (.putfield 80, 3) := by decide +kernel
theorem dX6_reads_65 : decode cX6_reads 65 = .ok (.aload_n 0, 1) := by decide +kernel
theorem dX6_reads_66 : decode cX6_reads 66 = .ok (.aload_n 0, 1) := by decide +kernel
theorem dX6_reads_67 : decode cX6_reads 67 = .ok (.getfield 87, 3) := by decide +kernel
theorem dX6_reads_70 : decode cX6_reads 70 = .ok (.invokestatic 97, 3) := by decide +kernel
theorem dX6_reads_73 : decode cX6_reads 73 = .ok (.ifCond .eq 13, 3) := by decide +kernel
theorem dX6_reads_76 : decode cX6_reads 76 = .ok (.aload_n 0, 1) := by decide +kernel
theorem dX6_reads_77 : decode cX6_reads 77 = .ok (.iload_n 1, 1) := by decide +kernel
theorem dX6_reads_78 : decode cX6_reads 78 = .ok (.bipush 97, 2) := by decide +kernel
theorem dX6_reads_80 : decode cX6_reads 80 = .ok (.invokevirtual 100, 3) := by decide +kernel
theorem dX6_reads_83 : decode cX6_reads 83 = .ok (.goto 4, 3) := by decide +kernel
theorem dX6_reads_86 : decode cX6_reads 86 = .ok (.iconst 0, 1) := by decide +kernel
theorem dX6_reads_87 : decode cX6_reads 87 = .ok (.putfield 104, 3) := by decide +kernel
theorem dX6_reads_90 : decode cX6_reads 90 = .ok (.aload_n 0, 1) := by decide +kernel
theorem dX6_reads_91 : decode cX6_reads 91 = .ok (.aload_n 0, 1) := by decide +kernel
theorem dX6_reads_92 : decode cX6_reads 92 = .ok (.getfield 104, 3) := by decide +kernel
theorem dX6_reads_95 : decode cX6_reads 95 = .ok (.ifCond .lt 23, 3) := by decide +kernel
theorem dX6_reads_98 : decode cX6_reads 98 = .ok (.aload_n 0, 1) := by decide +kernel
theorem dX6_reads_99 : decode cX6_reads 99 = .ok (.getfield 87, 3) := by decide +kernel
theorem dX6_reads_102 : decode cX6_reads 102 = .ok (.invokestatic 107, 3) := by decide +kernel
theorem dX6_reads_105 : decode cX6_reads 105 = .ok (.ifCond .eq 13, 3) := by decide +kernel
theorem dX6_reads_108 : decode cX6_reads 108 = .ok (.aload_n 0, 1) := by decide +kernel
theorem dX6_reads_109 : decode cX6_reads 109 = .ok (.iload_n 1, 1) := by decide +kernel
theorem dX6_reads_110 : decode cX6_reads 110 = .ok (.bipush 98, 2) := by decide +kernel
theorem dX6_reads_112 : decode cX6_reads 112 = .ok (.invokevirtual 100, 3) := by decide +kernel
theorem dX6_reads_115 : decode cX6_reads 115 = .ok (.goto 4, 3) := by decide +kernel
theorem dX6_reads_118 : decode cX6_reads 118 = .ok (.iconst 0, 1) := by decide +kernel
theorem dX6_reads_119 : decode cX6_reads 119 = .ok (.putfield 110, 3) := by decide +kernel
theorem dX6_reads_122 : decode cX6_reads 122 = .ok (.aload_n 0, 1) := by decide +kernel
theorem dX6_reads_123 : decode cX6_reads 123 = .ok (.aload_n 0, 1) := by decide +kernel
theorem dX6_reads_124 : decode cX6_reads 124 = .ok (.getfield 104, 3) := by decide +kernel
theorem dX6_reads_127 : decode cX6_reads 127 = .ok (.ifCond .lt 22, 3) := by decide +kernel
theorem dX6_reads_130 : decode cX6_reads 130 = .ok (.aload_n 0, 1) := by decide +kernel
theorem dX6_reads_131 : decode cX6_reads 131 = .ok (.getfield 87, 3) := by decide +kernel
theorem dX6_reads_134 : decode cX6_reads 134 = .ok (.bipush 70, 2) := by decide +kernel
theorem dX6_reads_136 : decode cX6_reads 136 = .ok (.if_icmp .ne 13, 3) := by decide +kernel
theorem dX6_reads_139 : decode cX6_reads 139 = .ok (.aload_n 0, 1) := by decide +kernel
theorem dX6_reads_140 : decode cX6_reads 140 = .ok (.iload_n 1, 1) := by decide +kernel
theorem dX6_reads_141 : decode cX6_reads 141 = .ok (.bipush 99, 2) := by decide +kernel
theorem dX6_reads_143 : decode cX6_reads 143 = .ok (.invokevirtual 100, 3) := by decide +kernel
theorem dX6_reads_146 : decode cX6_reads 146 = .ok (.goto 4, 3) := by decide +kernel
theorem dX6_reads_149 : decode cX6_reads 149 = .ok (.iconst 0, 1) := by decide +kernel
theorem dX6_reads_150 : decode cX6_reads 150 = .ok (.putfield 113, 3) := by decide +kernel
theorem dX6_reads_153 : decode cX6_reads 153 = .ok (.aload_n 0, 1) := by decide +kernel
theorem dX6_reads_154 : decode cX6_reads 154 = .ok (.getfield 104, 3) := by decide +kernel
theorem dX6_reads_157 : decode cX6_reads 157 = .ok (.ifCond .lt 27, 3) := by decide +kernel
theorem dX6_reads_160 : decode cX6_reads 160 = .ok (.aload_n 0, 1) := by decide +kernel
theorem dX6_reads_161 : decode cX6_reads 161 = .ok (.getfield 110, 3) := by decide +kernel
theorem dX6_reads_164 : decode cX6_reads 164 = .ok (.ifCond .lt 20, 3) := by decide +kernel
theorem dX6_reads_167 : decode cX6_reads 167 = .ok (.aload_n 0, 1) := by decide +kernel
theorem dX6_reads_168 : decode cX6_reads 168 = .ok (.getfield 113, 3) := by decide +kernel
theorem dX6_reads_171 : decode cX6_reads 171 = .ok (.ifCond .lt 13, 3) := by decide +kernel
theorem dX6_reads_174 : decode cX6_reads 174 = .ok (.aload_n 0, 1) := by decide +kernel
theorem dX6_reads_175 : decode cX6_reads 175 = .ok (.iload_n 1, 1) := by decide +kernel
theorem dX6_reads_176 : decode cX6_reads 176 = .ok (.invokevirtual 83, 3) := by decide +kernel
theorem dX6_reads_179 : decode cX6_reads 179 = .ok (.bipush 90, 2) := by decide +kernel
theorem dX6_reads_181 : decode cX6_reads 181 = .ok (.if_icmp .eq 5, 3) := by decide +kernel
theorem dX6_reads_184 : decode cX6_reads 184 = .ok (.iconst 0, 1) := by decide +kernel
theorem dX6_reads_185 : decode cX6_reads 185 = .ok (.ireturn, 1) := by decide +kernel
theorem dX6_reads_186 : decode cX6_reads 186 = .ok (.iconst 0, 1) := by decide +kernel
theorem dX6_reads_187 : decode cX6_reads 187 = .ok (.istore_n 2, 1) := by decide +kernel
theorem dX6_reads_188 : decode cX6_reads 188 = .ok (.iconst 0, 1) := by decide +kernel
theorem dX6_reads_189 : decode cX6_reads 189 = .ok (.istore_n 3, 1) := by decide +kernel
theorem dX6_reads_190 : decode cX6_reads 190 = .ok (.iload_n 3, 1) := by decide +kernel
theorem dX6_reads_191 : decode cX6_reads 191 = .ok (.aload_n 0, 1) := by decide +kernel
theorem dX6_reads_192 : decode cX6_reads 192 = .ok (.getfield 80, 3) := by decide +kernel
theorem dX6_reads_195 : decode cX6_reads 195 = .ok (.if_icmp .ge 27, 3) := by decide +kernel
theorem dX6_reads_198 : decode cX6_reads 198 = .ok (.iload_n 2, 1) := by decide +kernel
theorem dX6_reads_199 : decode cX6_reads 199 = .ok (.aload_n 0, 1) := by decide +kernel
theorem dX6_reads_200 : decode cX6_reads 200 = .ok (.getfield 13, 3) := by decide +kernel
theorem dX6_reads_203 : decode cX6_reads 203 = .ok (.bipush 60, 2) := by decide +kernel
theorem dX6_reads_205 : decode cX6_reads 205 = .ok (.iload_n 1, 1) := by decide +kernel
theorem dX6_reads_206 : decode cX6_reads 206 = .ok (.imul, 1) := by decide +kernel
theorem dX6_reads_207 : decode cX6_reads 207 = .ok (.iload_n 3, 1) := by decide +kernel
theorem dX6_reads_208 : decode cX6_reads 208 = .ok (.iadd, 1) := by decide +kernel
theorem dX6_reads_209 : decode cX6_reads 209 = .ok (.baload, 1) := by decide +kernel
theorem dX6_reads_210 : decode cX6_reads 210 = .ok (.sipush 255, 3) := by decide +kernel
theorem dX6_reads_213 : decode cX6_reads 213 = .ok (.iand, 1) := by decide +kernel
theorem dX6_reads_214 : decode cX6_reads 214 = .ok (.iadd, 1) := by decide +kernel
theorem dX6_reads_215 : decode cX6_reads 215 = .ok (.istore_n 2, 1) := by decide +kernel
theorem dX6_reads_216 : decode cX6_reads 216 = .ok (.iinc 3 1, 3) := by decide +kernel
theorem dX6_reads_219 : decode cX6_reads 219 = .ok (.goto (-29), 3) := by decide +kernel
theorem dX6_reads_222 : decode cX6_reads 222 = .ok (.aload_n 0, 1) := by decide +kernel
theorem dX6_reads_223 : decode cX6_reads 223 = .ok (.dup, 1) := by decide +kernel
theorem dX6_reads_224 : decode cX6_reads 224 = .ok (.getfield 80, 3) := by decide +kernel
theorem dX6_reads_227 : decode cX6_reads 227 = .ok (.iconst 1, 1) := by decide +kernel
theorem dX6_reads_228 : decode cX6_reads 228 = .ok (.iadd, 1) := by decide +kernel
theorem dX6_reads_229 : decode cX6_reads 229 = .ok (.putfield 80, 3) := by decide +kernel
theorem dX6_reads_232 : decode cX6_reads 232 = .ok (.aload_n 0, 1) := by decide +kernel
theorem dX6_reads_233 : decode cX6_reads 233 = .ok (.iload_n 1, 1) := by decide +kernel
theorem dX6_reads_234 : decode cX6_reads 234 = .ok (.invokevirtual 83, 3) := by decide +kernel
theorem dX6_reads_237 : decode cX6_reads 237 = .ok (.invokestatic 116, 3) := by decide +kernel
theorem dX6_reads_240 : decode cX6_reads 240 = .ok (.istore_n 3, 1) := by decide +kernel
theorem dX6_reads_241 : decode cX6_reads 241 = .ok (.aload_n 0, 1) := by decide +kernel
theorem dX6_reads_242 : decode cX6_reads 242 = .ok (.dup, 1) := by decide +kernel
theorem dX6_reads_243 : decode cX6_reads 243 = .ok (.getfield 80, 3) := by decide +kernel
theorem dX6_reads_246 : decode cX6_reads 246 = .ok (.iconst 1, 1) := by decide +kernel
theorem dX6_reads_247 : decode cX6_reads 247 = .ok (.iadd, 1) := by decide +kernel
theorem dX6_reads_248 : decode cX6_reads 248 = .ok (.putfield 80, 3) := by decide +kernel
theorem dX6_reads_251 : decode cX6_reads 251 = .ok (.aload_n 0, 1) := by decide +kernel
theorem dX6_reads_252 : decode cX6_reads 252 = .ok (.iload_n 1, 1) := by decide +kernel
theorem dX6_reads_253 : decode cX6_reads 253 = .ok (.invokevirtual 83, 3) := by decide +kernel
theorem dX6_reads_256 : decode cX6_reads 256 = .ok (.invokestatic 116, 3) := by decide +kernel
theorem dX6_reads_259 : decode cX6_reads 259 = .ok (.istore 4, 2) := by decide +kernel
theorem dX6_reads_261 : decode cX6_reads 261 = .ok (.aload_n 0, 1) := by decide +kernel
theorem dX6_reads_262 : decode cX6_reads 262 = .ok (.dup, 1) := by decide +kernel
theorem dX6_reads_263 : decode cX6_reads 263 = .ok (.getfield 80, 3) := by decide +kernel
theorem dX6_reads_266 : decode cX6_reads 266 = .ok (.iconst 1, 1) := by decide +kernel
theorem dX6_reads_267 : decode cX6_reads 267 = .ok (.iadd, 1) := by decide +kernel
theorem dX6_reads_268 : decode cX6_reads 268 = .ok (.putfield 80, 3) := by decide +kernel
theorem dX6_reads_271 : decode cX6_reads 271 = .ok (.aload_n 0, 1) := by decide +kernel
theorem dX6_reads_272 : decode cX6_reads 272 = .ok (.getfield 80, 3) := by decide +kernel
theorem dX6_reads_275 : decode cX6_reads 275 = .ok (.aload_n 0, 1) := by decide +kernel
theorem dX6_reads_276 : decode cX6_reads 276 = .ok (.getfield 7, 3) := by decide +kernel
theorem dX6_reads_279 : decode cX6_reads 279 = .ok (.iload_n 1, 1) := by decide +kernel
theorem dX6_reads_280 : decode cX6_reads 280 = .ok (.iaload, 1) := by decide +kernel
theorem dX6_reads_281 : decode cX6_reads 281 = .ok (.if_icmp .ne 22, 3) := by decide +kernel
theorem dX6_reads_284 : decode cX6_reads 284 = .ok (.bipush 16, 2) := by decide +kernel
theorem dX6_reads_286 : decode cX6_reads 286 = .ok (.iload_n 3, 1) := by decide +kernel
theorem dX6_reads_287 : decode cX6_reads 287 = .ok (.imul, 1) := by decide +kernel
theorem dX6_reads_288 : decode cX6_reads 288 = .ok (.iload 4, 2) := by decide +kernel
theorem dX6_reads_290 : decode cX6_reads 290 = .ok (.iadd, 1) := by decide +kernel
theorem dX6_reads_291 : decode cX6_reads 291 = .ok (.iload_n 2, 1) := by decide +kernel
theorem dX6_reads_292 : decode cX6_reads 292 = .ok (.sipush 256, 3) := by decide +kernel
theorem dX6_reads_295 : decode cX6_reads 295 = .ok (.irem, 1) := by decide +kernel
theorem dX6_reads_296 : decode cX6_reads 296 = .ok (.if_icmp .ne 7, 3) := by decide +kernel
theorem dX6_reads_299 : decode cX6_reads 299 = .ok (.iconst 1, 1) := by decide +kernel
theorem dX6_reads_300 : decode cX6_reads 300 = .ok (.goto 4, 3) := by decide +kernel
theorem dX6_reads_303 : decode cX6_reads 303 = .ok (.iconst 0, 1) := by decide +kernel
theorem dX6_reads_304 : decode cX6_reads 304 = .ok (.ireturn, 1) := by decide +kernel
theorem dX6_put_0 : decode cX6_put 0 = .ok (.aload_n 0, 1) := by decide +kernel
theorem dX6_put_1 : decode cX6_put 1 = .ok (.getfield 33, 3) := by decide +kernel
theorem dX6_put_4 : decode cX6_put 4 = .ok (.bipush 30, 2) := by decide +kernel
theorem dX6_put_6 : decode cX6_put 6 = .ok (.iload_n 1, 1) := by decide +kernel
theorem dX6_put_7 : decode cX6_put 7 = .ok (.imul, 1) := by decide +kernel
theorem dX6_put_8 : decode cX6_put 8 = .ok (.aload_n 0, 1) := by decide +kernel
theorem dX6_put_9 : decode cX6_put 9 = .ok (.getfield 30, 3) := by decide +kernel
theorem dX6_put_12 : decode cX6_put 12 = .ok (.iload_n 1, 1) := by decide +kernel
theorem dX6_put_13 : decode cX6_put 13 = .ok (.iaload, 1) := by decide +kernel
theorem dX6_put_14 : decode cX6_put 14 = .ok (.iadd, 1) := by decide +kernel
theorem dX6_put_15 : decode cX6_put 15 = .ok (.iload_n 2, 1) := by decide +kernel
theorem dX6_put_16 : decode cX6_put 16 = .ok (.i2b, 1) := by decide +kernel
theorem dX6_put_17 : decode cX6_put 17 = .ok (.bastore, 1) := by decide +kernel
theorem dX6_put_18 : decode cX6_put 18 = .ok (.aload_n 0, 1) := by decide +kernel
theorem dX6_put_19 : decode cX6_put 19 = .ok (.getfield 30, 3) := by decide +kernel
theorem dX6_put_22 : decode cX6_put 22 = .ok (.iload_n 1, 1) := by decide +kernel
theorem dX6_put_23 : decode cX6_put 23 = .ok (.dup2, 1) := by decide +kernel
theorem dX6_put_24 : decode cX6_put 24 = .ok (.iaload, 1) := by decide +kernel
theorem dX6_put_25 : decode cX6_put 25 = .ok (.iconst 1, 1) := by decide +kernel
theorem dX6_put_26 : decode cX6_put 26 = .ok (.iadd, 1) := by decide +kernel
theorem dX6_put_27 : decode cX6_put 27 = .ok (.iastore, 1) := by decide +kernel
theorem dX6_put_28 : decode cX6_put 28 = .ok (.return_, 1) := by decide +kernel
theorem dX6_close_0 : decode cX6_close 0 = .ok (.iconst 0, 1) := by decide +kernel
theorem dX6_close_1 : decode cX6_close 1 = .ok (.istore_n 2, 1) := by decide +kernel
theorem dX6_close_2 : decode cX6_close 2 = .ok (.iconst 0, 1) := by decide +kernel
theorem dX6_close_3 : decode cX6_close 3 = .ok (.istore_n 3, 1) := by decide +kernel
theorem dX6_close_4 : decode cX6_close 4 = .ok (.iload_n 3, 1) := by decide +kernel
theorem dX6_close_5 : decode cX6_close 5 = .ok (.aload_n 0, 1) := by decide +kernel
theorem dX6_close_6 : decode cX6_close 6 = .ok (.getfield 30, 3) := by decide +kernel
theorem dX6_close_9 : decode cX6_close 9 = .ok (.iload_n 1, 1) := by decide +kernel
theorem dX6_close_10 : decode cX6_close 10 = .ok (.iaload, 1) := by decide +kernel
theorem dX6_close_11 : decode cX6_close 11 = .ok (.if_icmp .ge 27, 3) := by decide +kernel
theorem dX6_close_14 : decode cX6_close 14 = .ok (.iload_n 2, 1) := by decide +kernel
theorem dX6_close_15 : decode cX6_close 15 = .ok (.aload_n 0, 1) := by decide +kernel
theorem dX6_close_16 : decode cX6_close 16 = .ok (.getfield 33, 3) := by decide +kernel
theorem dX6_close_19 : decode cX6_close 19 = .ok (.bipush 30, 2) := by decide +kernel
theorem dX6_close_21 : decode cX6_close 21 = .ok (.iload_n 1, 1) := by decide +kernel
theorem dX6_close_22 : decode cX6_close 22 = .ok (.imul, 1) := by decide +kernel
theorem dX6_close_23 : decode cX6_close 23 = .ok (.iload_n 3, 1) := by decide +kernel
theorem dX6_close_24 : decode cX6_close 24 = .ok (.iadd, 1) := by decide +kernel
theorem dX6_close_25 : decode cX6_close 25 = .ok (.baload, 1) := by decide +kernel
theorem dX6_close_26 : decode cX6_close 26 = .ok (.sipush 255, 3) := by decide +kernel
theorem dX6_close_29 : decode cX6_close 29 = .ok (.iand, 1) := by decide +kernel
theorem dX6_close_30 : decode cX6_close 30 = .ok (.iadd, 1) := by decide +kernel
theorem dX6_close_31 : decode cX6_close 31 = .ok (.istore_n 2, 1) := by decide +kernel
theorem dX6_close_32 : decode cX6_close 32 = .ok (.iinc 3 1, 3) := by decide +kernel
theorem dX6_close_35 : decode cX6_close 35 = .ok (.goto (-31), 3) := by decide +kernel
theorem dX6_close_38 : decode cX6_close 38 = .ok (.aload_n 0, 1) := by decide +kernel
theorem dX6_close_39 : decode cX6_close 39 = .ok (.iload_n 1, 1) := by decide +kernel
theorem dX6_close_40 : decode cX6_close 40 = .ok (.bipush 90, 2) := by decide +kernel
theorem dX6_close_42 : decode cX6_close 42 = .ok (.invokevirtual 119, 3) := by decide +kernel
theorem dX6_close_45 : decode cX6_close 45 = .ok (.aload_n 0, 1) := by decide +kernel
theorem dX6_close_46 : decode cX6_close 46 = .ok (.iload_n 1, 1) := by decide +kernel
theorem dX6_close_47 : decode cX6_close 47 = .ok (.iload_n 2, 1) := by decide +kernel
theorem dX6_close_48 : decode cX6_close 48 = .ok (.sipush 256, 3) := by decide +kernel
theorem dX6_close_51 : decode cX6_close 51 = .ok (.irem, 1) := by decide +kernel
theorem dX6_close_52 : decode cX6_close 52 = .ok (.bipush 16, 2) := by decide +kernel
theorem dX6_close_54 : decode cX6_close 54 = .ok (.idiv, 1) := by decide +kernel
theorem dX6_close_55 : decode cX6_close 55 = .ok (.invokestatic 123, 3) := by decide +kernel
theorem dX6_close_58 : decode cX6_close 58 = .ok (.invokevirtual 119, 3) := by decide +kernel
theorem dX6_close_61 : decode cX6_close 61 = .ok (.aload_n 0, 1) := by decide +kernel
theorem dX6_close_62 : decode cX6_close 62 = .ok (.iload_n 1, 1) := by decide +kernel
theorem dX6_close_63 : decode cX6_close 63 = .ok (.iload_n 2, 1) := by decide +kernel
theorem dX6_close_64 : decode cX6_close 64 = .ok (.bipush 16, 2) := by decide +kernel
theorem dX6_close_66 : decode cX6_close 66 = .ok (.irem, 1) := by decide +kernel
theorem dX6_close_67 : decode cX6_close 67 = .ok (.invokestatic 123, 3) := by decide +kernel
theorem dX6_close_70 : decode cX6_close 70 = .ok (.invokevirtual 119, 3) := by decide +kernel
theorem dX6_close_73 : decode cX6_close 73 = .ok (.aload_n 0, 1) := by decide +kernel
theorem dX6_close_74 : decode cX6_close 74 = .ok (.iload_n 1, 1) := by decide +kernel
theorem dX6_close_75 : decode cX6_close 75 = .ok (.bipush 13, 2) := by decide +kernel
theorem dX6_close_77 : decode cX6_close 77 = .ok (.invokevirtual 119, 3) := by decide +kernel
theorem dX6_close_80 : decode cX6_close 80 = .ok (.return_, 1) := by decide +kernel
theorem dX6_finish_0 : decode cX6_finish 0 = .ok (.aload_n 0, 1) := by decide +kernel
theorem dX6_finish_1 : decode cX6_finish 1 = .ok (.iload_n 1, 1) := by decide +kernel
theorem dX6_finish_2 : decode cX6_finish 2 = .ok (.aload_n 0, 1) := by decide +kernel
theorem dX6_finish_3 : decode cX6_finish 3 = .ok (.getfield 87, 3) := by decide +kernel
theorem dX6_finish_6 : decode cX6_finish 6 = .ok (.invokevirtual 119, 3) := by decide +kernel
theorem dX6_finish_9 : decode cX6_finish 9 = .ok (.aload_n 0, 1) := by decide +kernel
theorem dX6_finish_10 : decode cX6_finish 10 = .ok (.iload_n 1, 1) := by decide +kernel
theorem dX6_finish_11 : decode cX6_finish 11 = .ok (.bipush 48, 2) := by decide +kernel
theorem dX6_finish_13 : decode cX6_finish 13 = .ok (.aload_n 0, 1) := by decide +kernel
theorem dX6_finish_14 : decode cX6_finish 14 = .ok (.getfield 94, 3) := by decide +kernel
theorem dX6_finish_17 : decode cX6_finish 17 = .ok (.iadd, 1) := by decide +kernel
theorem dX6_finish_18 : decode cX6_finish 18 = .ok (.invokevirtual 119, 3) := by decide +kernel
theorem dX6_finish_21 : decode cX6_finish 21 = .ok (.aload_n 0, 1) := by decide +kernel
theorem dX6_finish_22 : decode cX6_finish 22 = .ok (.iload_n 1, 1) := by decide +kernel
theorem dX6_finish_23 : decode cX6_finish 23 = .ok (.invokevirtual 126, 3) := by decide +kernel
theorem dX6_finish_26 : decode cX6_finish 26 = .ok (.iload_n 2, 1) := by decide +kernel
theorem dX6_finish_27 : decode cX6_finish 27 = .ok (.ifCond .ne 4, 3) := by decide +kernel
theorem dX6_finish_30 : decode cX6_finish 30 = .ok (.return_, 1) := by decide +kernel
theorem dX6_finish_31 : decode cX6_finish 31 = .ok (.aload_n 0, 1) := by decide +kernel
theorem dX6_finish_32 : decode cX6_finish 32 = .ok (.getfield 24, 3) := by decide +kernel
theorem dX6_finish_35 : decode cX6_finish 35 = .ok (.iload_n 1, 1) := by decide +kernel
theorem dX6_finish_36 : decode cX6_finish 36 = .ok (.aload_n 0, 1) := by decide +kernel
theorem dX6_finish_37 : decode cX6_finish 37 = .ok (.getfield 94, 3) := by decide +kernel
theorem dX6_finish_40 : decode cX6_finish 40 = .ok (.iastore, 1) := by decide +kernel
theorem dX6_finish_41 : decode cX6_finish 41 = .ok (.aload_n 0, 1) := by decide +kernel
theorem dX6_finish_42 : decode cX6_finish 42 = .ok (.getfield 36, 3) := by decide +kernel
theorem dX6_finish_45 : decode cX6_finish 45 = .ok (.iload_n 1, 1) := by decide +kernel
theorem dX6_finish_46 : decode cX6_finish 46 = .ok (.aload_n 0, 1) := by decide +kernel
theorem dX6_finish_47 : decode cX6_finish 47 = .ok (.getfield 30, 3) := by decide +kernel
theorem dX6_finish_50 : decode cX6_finish 50 = .ok (.iload_n 1, 1) := by decide +kernel
theorem dX6_finish_51 : decode cX6_finish 51 = .ok (.iaload, 1) := by decide +kernel
theorem dX6_finish_52 : decode cX6_finish 52 = .ok (.iastore, 1) := by decide +kernel
theorem dX6_finish_53 : decode cX6_finish 53 = .ok (.iconst 0, 1) := by decide +kernel
theorem dX6_finish_54 : decode cX6_finish 54 = .ok (.istore_n 3, 1) := by decide +kernel
theorem dX6_finish_55 : decode cX6_finish 55 = .ok (.iload_n 3, 1) := by decide +kernel
theorem dX6_finish_56 : decode cX6_finish 56 = .ok (.aload_n 0, 1) := by decide +kernel
theorem dX6_finish_57 : decode cX6_finish 57 = .ok (.getfield 30, 3) := by decide +kernel
theorem dX6_finish_60 : decode cX6_finish 60 = .ok (.iload_n 1, 1) := by decide +kernel
theorem dX6_finish_61 : decode cX6_finish 61 = .ok (.iaload, 1) := by decide +kernel
theorem dX6_finish_62 : decode cX6_finish 62 = .ok (.if_icmp .ge 31, 3) := by decide +kernel
theorem dX6_finish_65 : decode cX6_finish 65 = .ok (.aload_n 0, 1) := by decide +kernel
theorem dX6_finish_66 : decode cX6_finish 66 = .ok (.getfield 39, 3) := by decide +kernel
theorem dX6_finish_69 : decode cX6_finish 69 = .ok (.bipush 30, 2) := by decide +kernel
theorem dX6_finish_71 : decode cX6_finish 71 = .ok (.iload_n 1, 1) := by decide +kernel
theorem dX6_finish_72 : decode cX6_finish 72 = .ok (.imul, 1) := by decide +kernel
theorem dX6_finish_73 : decode cX6_finish 73 = .ok (.iload_n 3, 1) := by decide +kernel
theorem dX6_finish_74 : decode cX6_finish 74 = .ok (.iadd, 1) := by decide +kernel
theorem dX6_finish_75 : decode cX6_finish 75 = .ok (.aload_n 0, 1) := by decide +kernel
theorem dX6_finish_76 : decode cX6_finish 76 = .ok (.getfield 33, 3) := by decide +kernel
theorem dX6_finish_79 : decode cX6_finish 79 = .ok (.bipush 30, 2) := by decide +kernel
theorem dX6_finish_81 : decode cX6_finish 81 = .ok (.iload_n 1, 1) := by decide +kernel
theorem dX6_finish_82 : decode cX6_finish 82 = .ok (.imul, 1) := by decide +kernel
theorem dX6_finish_83 : decode cX6_finish 83 = .ok (.iload_n 3, 1) := by decide +kernel
theorem dX6_finish_84 : decode cX6_finish 84 = .ok (.iadd, 1) := by decide +kernel
theorem dX6_finish_85 : decode cX6_finish 85 = .ok (.baload, 1) := by decide +kernel
theorem dX6_finish_86 : decode cX6_finish 86 = .ok (.bastore, 1) := by decide +kernel
theorem dX6_finish_87 : decode cX6_finish 87 = .ok (.iinc 3 1, 3) := by decide +kernel
theorem dX6_finish_90 : decode cX6_finish 90 = .ok (.goto (-35), 3) := by decide +kernel
theorem dX6_finish_93 : decode cX6_finish 93 = .ok (.return_, 1) := by decide +kernel
theorem dX6_again_0 : decode cX6_again 0 = .ok (.aload_n 0, 1) := by decide +kernel
theorem dX6_again_1 : decode cX6_again 1 = .ok (.getfield 30, 3) := by decide +kernel
theorem dX6_again_4 : decode cX6_again 4 = .ok (.iload_n 1, 1) := by decide +kernel
theorem dX6_again_5 : decode cX6_again 5 = .ok (.aload_n 0, 1) := by decide +kernel
theorem dX6_again_6 : decode cX6_again 6 = .ok (.getfield 36, 3) := by decide +kernel
theorem dX6_again_9 : decode cX6_again 9 = .ok (.iload_n 1, 1) := by decide +kernel
theorem dX6_again_10 : decode cX6_again 10 = .ok (.iaload, 1) := by decide +kernel
theorem dX6_again_11 : decode cX6_again 11 = .ok (.iastore, 1) := by decide +kernel
theorem dX6_again_12 : decode cX6_again 12 = .ok (.iconst 0, 1) := by decide +kernel
theorem dX6_again_13 : decode cX6_again 13 = .ok (.istore_n 2, 1) := by decide +kernel
theorem dX6_again_14 : decode cX6_again 14 = .ok (.iload_n 2, 1) := by decide +kernel
theorem dX6_again_15 : decode cX6_again 15 = .ok (.aload_n 0, 1) := by decide +kernel
theorem dX6_again_16 : decode cX6_again 16 = .ok (.getfield 36, 3) := by decide +kernel
theorem dX6_again_19 : decode cX6_again 19 = .ok (.iload_n 1, 1) := by decide +kernel
theorem dX6_again_20 : decode cX6_again 20 = .ok (.iaload, 1) := by decide +kernel
theorem dX6_again_21 : decode cX6_again 21 = .ok (.if_icmp .ge 31, 3) := by decide +kernel
theorem dX6_again_24 : decode cX6_again 24 = .ok (.aload_n 0, 1) := by decide +kernel
theorem dX6_again_25 : decode cX6_again 25 = .ok (.getfield 33, 3) := by decide +kernel
theorem dX6_again_28 : decode cX6_again 28 = .ok (.bipush 30, 2) := by decide +kernel
theorem dX6_again_30 : decode cX6_again 30 = .ok (.iload_n 1, 1) := by decide +kernel
theorem dX6_again_31 : decode cX6_again 31 = .ok (.imul, 1) := by decide +kernel
theorem dX6_again_32 : decode cX6_again 32 = .ok (.iload_n 2, 1) := by decide +kernel
theorem dX6_again_33 : decode cX6_again 33 = .ok (.iadd, 1) := by decide +kernel
theorem dX6_again_34 : decode cX6_again 34 = .ok (.aload_n 0, 1) := by decide +kernel
theorem dX6_again_35 : decode cX6_again 35 = .ok (.getfield 39, 3) := by decide +kernel
theorem dX6_again_38 : decode cX6_again 38 = .ok (.bipush 30, 2) := by decide +kernel
theorem dX6_again_40 : decode cX6_again 40 = .ok (.iload_n 1, 1) := by decide +kernel
theorem dX6_again_41 : decode cX6_again 41 = .ok (.imul, 1) := by decide +kernel
theorem dX6_again_42 : decode cX6_again 42 = .ok (.iload_n 2, 1) := by decide +kernel
theorem dX6_again_43 : decode cX6_again 43 = .ok (.iadd, 1) := by decide +kernel
theorem dX6_again_44 : decode cX6_again 44 = .ok (.baload, 1) := by decide +kernel
theorem dX6_again_45 : decode cX6_again 45 = .ok (.bastore, 1) := by decide +kernel
theorem dX6_again_46 : decode cX6_again 46 = .ok (.iinc 2 1, 3) := by decide +kernel
theorem dX6_again_49 : decode cX6_again 49 = .ok (.goto (-35), 3) := by decide +kernel
theorem dX6_again_52 : decode cX6_again 52 = .ok (.return_, 1) := by decide +kernel
theorem dX6_bad_0 : decode cX6_bad 0 = .ok (.aload_n 0, 1) := by decide +kernel
theorem dX6_bad_1 : decode cX6_bad 1 = .ok (.getfield 87, 3) := by decide +kernel
theorem dX6_bad_4 : decode cX6_bad 4 = .ok (.invokestatic 97, 3) := by decide +kernel
theorem dX6_bad_7 : decode cX6_bad 7 = .ok (.ifCond .eq 15, 3) := by decide +kernel
theorem dX6_bad_10 : decode cX6_bad 10 = .ok (.aload_n 0, 1) := by decide +kernel
theorem dX6_bad_11 : decode cX6_bad 11 = .ok (.getfield 104, 3) := by decide +kernel
theorem dX6_bad_14 : decode cX6_bad 14 = .ok (.bipush 29, 2) := by decide +kernel
theorem dX6_bad_16 : decode cX6_bad 16 = .ok (.if_icmp .le 6, 3) := by decide +kernel
theorem dX6_bad_19 : decode cX6_bad 19 = .ok (.bipush 97, 2) := by decide +kernel
theorem dX6_bad_21 : decode cX6_bad 21 = .ok (.ireturn, 1) := by decide +kernel
theorem dX6_bad_22 : decode cX6_bad 22 = .ok (.aload_n 0, 1) := by decide +kernel
theorem dX6_bad_23 : decode cX6_bad 23 = .ok (.getfield 87, 3) := by decide +kernel
theorem dX6_bad_26 : decode cX6_bad 26 = .ok (.invokestatic 107, 3) := by decide +kernel
theorem dX6_bad_29 : decode cX6_bad 29 = .ok (.ifCond .eq 15, 3) := by decide +kernel
theorem dX6_bad_32 : decode cX6_bad 32 = .ok (.aload_n 0, 1) := by decide +kernel
theorem dX6_bad_33 : decode cX6_bad 33 = .ok (.getfield 110, 3) := by decide +kernel
theorem dX6_bad_36 : decode cX6_bad 36 = .ok (.bipush 29, 2) := by decide +kernel
theorem dX6_bad_38 : decode cX6_bad 38 = .ok (.if_icmp .le 6, 3) := by decide +kernel
theorem dX6_bad_41 : decode cX6_bad 41 = .ok (.bipush 98, 2) := by decide +kernel
theorem dX6_bad_43 : decode cX6_bad 43 = .ok (.ireturn, 1) := by decide +kernel
theorem dX6_bad_44 : decode cX6_bad 44 = .ok (.aload_n 0, 1) := by decide +kernel
theorem dX6_bad_45 : decode cX6_bad 45 = .ok (.getfield 87, 3) := by decide +kernel
theorem dX6_bad_48 : decode cX6_bad 48 = .ok (.bipush 70, 2) := by decide +kernel
theorem dX6_bad_50 : decode cX6_bad 50 = .ok (.if_icmp .ne 17, 3) := by decide +kernel
theorem dX6_bad_53 : decode cX6_bad 53 = .ok (.aload_n 0, 1) := by decide +kernel
theorem dX6_bad_54 : decode cX6_bad 54 = .ok (.getfield 113, 3) := by decide +kernel
theorem dX6_bad_57 : decode cX6_bad 57 = .ok (.ldc 130, 2) := by decide +kernel
theorem dX6_bad_59 : decode cX6_bad 59 = .ok (.if_icmp .le 8, 3) := by decide +kernel
theorem dX6_bad_62 : decode cX6_bad 62 = .ok (.bipush 99, 2) := by decide +kernel
theorem dX6_bad_64 : decode cX6_bad 64 = .ok (.goto 4, 3) := by decide +kernel
theorem dX6_bad_67 : decode cX6_bad 67 = .ok (.iconst 0, 1) := by decide +kernel
theorem dX6_bad_68 : decode cX6_bad 68 = .ok (.ireturn, 1) := by decide +kernel
theorem dX6_answers_0 : decode cX6_answers 0 = .ok (.aload_n 0, 1) := by decide +kernel
theorem dX6_answers_1 : decode cX6_answers 1 = .ok (.getfield 30, 3) := by decide +kernel
theorem dX6_answers_4 : decode cX6_answers 4 = .ok (.iload_n 1, 1) := by decide +kernel
theorem dX6_answers_5 : decode cX6_answers 5 = .ok (.iconst 0, 1) := by decide +kernel
theorem dX6_answers_6 : decode cX6_answers 6 = .ok (.iastore, 1) := by decide +kernel
theorem dX6_answers_7 : decode cX6_answers 7 = .ok (.aload_n 0, 1) := by decide +kernel
theorem dX6_answers_8 : decode cX6_answers 8 = .ok (.iload_n 1, 1) := by decide +kernel
theorem dX6_answers_9 : decode cX6_answers 9 = .ok (.invokevirtual 131, 3) := by decide +kernel
theorem dX6_answers_12 : decode cX6_answers 12 = .ok (.ifCond .ne 26, 3) := by decide +kernel
theorem dX6_answers_15 : decode cX6_answers 15 = .ok (.aload_n 0, 1) := by decide +kernel
theorem dX6_answers_16 : decode cX6_answers 16 = .ok (.getfield 27, 3) := by decide +kernel
theorem dX6_answers_19 : decode cX6_answers 19 = .ok (.iload_n 1, 1) := by decide +kernel
theorem dX6_answers_20 : decode cX6_answers 20 = .ok (.dup2, 1) := by decide +kernel
theorem dX6_answers_21 : decode cX6_answers 21 = .ok (.iaload, 1) := by decide +kernel
theorem dX6_answers_22 : decode cX6_answers 22 = .ok (.iconst 1, 1) := by decide +kernel
theorem dX6_answers_23 : decode cX6_answers 23 = .ok (.iadd, 1) := by decide +kernel
theorem dX6_answers_24 : decode cX6_answers 24 = .ok (.iastore, 1) := by decide +kernel
theorem dX6_answers_25 : decode cX6_answers 25 = .ok (.aload_n 0, 1) := by decide +kernel
theorem dX6_answers_26 : decode cX6_answers 26 = .ok (.iload_n 1, 1) := by decide +kernel
theorem dX6_answers_27 : decode cX6_answers 27 = .ok (.bipush 78, 2) := by decide +kernel
theorem dX6_answers_29 : decode cX6_answers 29 = .ok (.invokevirtual 119, 3) := by decide +kernel
theorem dX6_answers_32 : decode cX6_answers 32 = .ok (.aload_n 0, 1) := by decide +kernel
theorem dX6_answers_33 : decode cX6_answers 33 = .ok (.iload_n 1, 1) := by decide +kernel
theorem dX6_answers_34 : decode cX6_answers 34 = .ok (.invokevirtual 126, 3) := by decide +kernel
theorem dX6_answers_37 : decode cX6_answers 37 = .ok (.return_, 1) := by decide +kernel
theorem dX6_answers_38 : decode cX6_answers 38 = .ok (.aload_n 0, 1) := by decide +kernel
theorem dX6_answers_39 : decode cX6_answers 39 = .ok (.getfield 87, 3) := by decide +kernel
theorem dX6_answers_42 : decode cX6_answers 42 = .ok (.bipush 81, 2) := by decide +kernel
theorem dX6_answers_44 : decode cX6_answers 44 = .ok (.if_icmp .ne 26, 3) := by decide +kernel
theorem dX6_answers_47 : decode cX6_answers 47 = .ok (.aload_n 0, 1) := by decide +kernel
theorem dX6_answers_48 : decode cX6_answers 48 = .ok (.getfield 36, 3) := by decide +kernel
theorem dX6_answers_51 : decode cX6_answers 51 = .ok (.iload_n 1, 1) := by decide +kernel
theorem dX6_answers_52 : decode cX6_answers 52 = .ok (.iaload, 1) := by decide +kernel
theorem dX6_answers_53 : decode cX6_answers 53 = .ok (.ifCond .ne 17, 3) := by decide +kernel
theorem dX6_answers_56 : decode cX6_answers 56 = .ok (.aload_n 0, 1) := by decide +kernel
theorem dX6_answers_57 : decode cX6_answers 57 = .ok (.iload_n 1, 1) := by decide +kernel
theorem dX6_answers_58 : decode cX6_answers 58 = .ok (.bipush 88, 2) := by decide +kernel
theorem dX6_answers_60 : decode cX6_answers 60 = .ok (.invokevirtual 119, 3) := by decide +kernel
theorem dX6_answers_63 : decode cX6_answers 63 = .ok (.aload_n 0, 1) := by decide +kernel
theorem dX6_answers_64 : decode cX6_answers 64 = .ok (.iload_n 1, 1) := by decide +kernel
theorem dX6_answers_65 : decode cX6_answers 65 = .ok (.iconst 0, 1) := by decide +kernel
theorem dX6_answers_66 : decode cX6_answers 66 = .ok (.invokevirtual 134, 3) := by decide +kernel
theorem dX6_answers_69 : decode cX6_answers 69 = .ok (.return_, 1) := by decide +kernel
theorem dX6_answers_70 : decode cX6_answers 70 = .ok (.aload_n 0, 1) := by decide +kernel
theorem dX6_answers_71 : decode cX6_answers 71 = .ok (.getfield 87, 3) := by decide +kernel
theorem dX6_answers_74 : decode cX6_answers 74 = .ok (.bipush 81, 2) := by decide +kernel
theorem dX6_answers_76 : decode cX6_answers 76 = .ok (.if_icmp .eq 16, 3) := by decide +kernel
theorem dX6_answers_79 : decode cX6_answers 79 = .ok (.aload_n 0, 1) := by decide +kernel
theorem dX6_answers_80 : decode cX6_answers 80 = .ok (.getfield 94, 3) := by decide +kernel
theorem dX6_answers_83 : decode cX6_answers 83 = .ok (.aload_n 0, 1) := by decide +kernel
theorem dX6_answers_84 : decode cX6_answers 84 = .ok (.getfield 24, 3) := by decide +kernel
theorem dX6_answers_87 : decode cX6_answers 87 = .ok (.iload_n 1, 1) := by decide +kernel
theorem dX6_answers_88 : decode cX6_answers 88 = .ok (.iaload, 1) := by decide +kernel
theorem dX6_answers_89 : decode cX6_answers 89 = .ok (.if_icmp .ne 9, 3) := by decide +kernel
theorem dX6_answers_92 : decode cX6_answers 92 = .ok (.aload_n 0, 1) := by decide +kernel
theorem dX6_answers_93 : decode cX6_answers 93 = .ok (.iload_n 1, 1) := by decide +kernel
theorem dX6_answers_94 : decode cX6_answers 94 = .ok (.invokevirtual 138, 3) := by decide +kernel
theorem dX6_answers_97 : decode cX6_answers 97 = .ok (.return_, 1) := by decide +kernel
theorem dX6_answers_98 : decode cX6_answers 98 = .ok (.aload_n 0, 1) := by decide +kernel
theorem dX6_answers_99 : decode cX6_answers 99 = .ok (.getfield 87, 3) := by decide +kernel
theorem dX6_answers_102 : decode cX6_answers 102 = .ok (.bipush 83, 2) := by decide +kernel
theorem dX6_answers_104 : decode cX6_answers 104 = .ok (.if_icmp .eq 22, 3) := by decide +kernel
theorem dX6_answers_107 : decode cX6_answers 107 = .ok (.aload_n 0, 1) := by decide +kernel
theorem dX6_answers_108 : decode cX6_answers 108 = .ok (.getfield 21, 3) := by decide +kernel
theorem dX6_answers_111 : decode cX6_answers 111 = .ok (.iload_n 1, 1) := by decide +kernel
theorem dX6_answers_112 : decode cX6_answers 112 = .ok (.baload, 1) := by decide +kernel
theorem dX6_answers_113 : decode cX6_answers 113 = .ok (.ifCond .ne 13, 3) := by decide +kernel
theorem dX6_answers_116 : decode cX6_answers 116 = .ok (.aload_n 0, 1) := by decide +kernel
theorem dX6_answers_117 : decode cX6_answers 117 = .ok (.iload_n 1, 1) := by decide +kernel
theorem dX6_answers_118 : decode cX6_answers 118 = .ok (.bipush 88, 2) := by decide +kernel
theorem dX6_answers_120 : decode cX6_answers 120 = .ok (.invokevirtual 119, 3) := by decide +kernel
theorem dX6_answers_123 : decode cX6_answers 123 = .ok (.goto 116, 3) := by decide +kernel
theorem dX6_answers_126 : decode cX6_answers 126 = .ok (.aload_n 0, 1) := by decide +kernel
theorem dX6_answers_127 : decode cX6_answers 127 = .ok (.invokevirtual 141, 3) := by decide +kernel
theorem dX6_answers_130 : decode cX6_answers 130 = .ok (.ifCond .le 22, 3) := by decide +kernel
theorem dX6_answers_133 : decode cX6_answers 133 = .ok (.aload_n 0, 1) := by decide +kernel
theorem dX6_answers_134 : decode cX6_answers 134 = .ok (.iload_n 1, 1) := by decide +kernel
theorem dX6_answers_135 : decode cX6_answers 135 = .ok (.bipush 69, 2) := by decide +kernel
theorem dX6_answers_137 : decode cX6_answers 137 = .ok (.invokevirtual 119, 3) := by decide +kernel
theorem dX6_answers_140 : decode cX6_answers 140 = .ok (.aload_n 0, 1) := by decide +kernel
theorem dX6_answers_141 : decode cX6_answers 141 = .ok (.iload_n 1, 1) := by decide +kernel
theorem dX6_answers_142 : decode cX6_answers 142 = .ok (.aload_n 0, 1) := by decide +kernel
theorem dX6_answers_143 : decode cX6_answers 143 = .ok (.invokevirtual 141, 3) := by decide +kernel
theorem dX6_answers_146 : decode cX6_answers 146 = .ok (.invokevirtual 119, 3) := by decide +kernel
theorem dX6_answers_149 : decode cX6_answers 149 = .ok (.goto 90, 3) := by decide +kernel
theorem dX6_answers_152 : decode cX6_answers 152 = .ok (.aload_n 0, 1) := by decide +kernel
theorem dX6_answers_153 : decode cX6_answers 153 = .ok (.getfield 21, 3) := by decide +kernel
theorem dX6_answers_156 : decode cX6_answers 156 = .ok (.iload_n 1, 1) := by decide +kernel
theorem dX6_answers_157 : decode cX6_answers 157 = .ok (.iconst 1, 1) := by decide +kernel
theorem dX6_answers_158 : decode cX6_answers 158 = .ok (.bastore, 1) := by decide +kernel
theorem dX6_answers_159 : decode cX6_answers 159 = .ok (.aload_n 0, 1) := by decide +kernel
theorem dX6_answers_160 : decode cX6_answers 160 = .ok (.iload_n 1, 1) := by decide +kernel
theorem dX6_answers_161 : decode cX6_answers 161 = .ok (.aload_n 0, 1) := by decide +kernel
theorem dX6_answers_162 : decode cX6_answers 162 = .ok (.getfield 94, 3) := by decide +kernel
theorem dX6_answers_165 : decode cX6_answers 165 = .ok (.invokevirtual 145, 3) := by decide +kernel
theorem dX6_answers_168 : decode cX6_answers 168 = .ok (.istore_n 2, 1) := by decide +kernel
theorem dX6_answers_169 : decode cX6_answers 169 = .ok (.aload_n 0, 1) := by decide +kernel
theorem dX6_answers_170 : decode cX6_answers 170 = .ok (.iload_n 1, 1) := by decide +kernel
theorem dX6_answers_171 : decode cX6_answers 171 = .ok (.aload_n 0, 1) := by decide +kernel
theorem dX6_answers_172 : decode cX6_answers 172 = .ok (.getfield 148, 3) := by decide +kernel
theorem dX6_answers_175 : decode cX6_answers 175 = .ok (.ifCond .eq 8, 3) := by decide +kernel
theorem dX6_answers_178 : decode cX6_answers 178 = .ok (.bipush 89, 2) := by decide +kernel
theorem dX6_answers_180 : decode cX6_answers 180 = .ok (.goto 5, 3) := by decide +kernel
theorem dX6_answers_183 : decode cX6_answers 183 = .ok (.bipush 88, 2) := by decide +kernel
theorem dX6_answers_185 : decode cX6_answers 185 = .ok (.invokevirtual 119, 3) := by decide +kernel
theorem dX6_answers_188 : decode cX6_answers 188 = .ok (.iconst 1, 1) := by decide +kernel
theorem dX6_answers_189 : decode cX6_answers 189 = .ok (.istore_n 3, 1) := by decide +kernel
theorem dX6_answers_190 : decode cX6_answers 190 = .ok (.iload_n 2, 1) := by decide +kernel
theorem dX6_answers_191 : decode cX6_answers 191 = .ok (.iload_n 3, 1) := by decide +kernel
theorem dX6_answers_192 : decode cX6_answers 192 = .ok (.idiv, 1) := by decide +kernel
theorem dX6_answers_193 : decode cX6_answers 193 = .ok (.bipush 9, 2) := by decide +kernel
theorem dX6_answers_195 : decode cX6_answers 195 = .ok (.if_icmp .le 11, 3) := by decide +kernel
theorem dX6_answers_198 : decode cX6_answers 198 = .ok (.bipush 10, 2) := by decide +kernel
theorem dX6_answers_200 : decode cX6_answers 200 = .ok (.iload_n 3, 1) := by decide +kernel
theorem dX6_answers_201 : decode cX6_answers 201 = .ok (.imul, 1) := by decide +kernel
theorem dX6_answers_202 : decode cX6_answers 202 = .ok (.istore_n 3, 1) := by decide +kernel
theorem dX6_answers_203 : decode cX6_answers 203 = .ok (.goto (-13), 3) := by decide +kernel
theorem dX6_answers_206 : decode cX6_answers 206 = .ok (.iload_n 3, 1) := by decide +kernel
theorem dX6_answers_207 : decode cX6_answers 207 = .ok (.istore 4, 2) := by decide +kernel
theorem dX6_answers_209 : decode cX6_answers 209 = .ok (.iload 4, 2) := by decide +kernel
theorem dX6_answers_211 : decode cX6_answers 211 = .ok (.ifCond .le 28, 3) := by decide +kernel
theorem dX6_answers_214 : decode cX6_answers 214 = .ok (.aload_n 0, 1) := by decide +kernel
theorem dX6_answers_215 : decode cX6_answers 215 = .ok (.iload_n 1, 1) := by decide +kernel
theorem dX6_answers_216 : decode cX6_answers 216 = .ok (.bipush 48, 2) := by decide +kernel
theorem dX6_answers_218 : decode cX6_answers 218 = .ok (.iload_n 2, 1) := by decide +kernel
theorem dX6_answers_219 : decode cX6_answers 219 = .ok (.iload 4, 2) := by decide +kernel
theorem dX6_answers_221 : decode cX6_answers 221 = .ok (.idiv, 1) := by decide +kernel
theorem dX6_answers_222 : decode cX6_answers 222 = .ok (.bipush 10, 2) := by decide +kernel
theorem dX6_answers_224 : decode cX6_answers 224 = .ok (.irem, 1) := by decide +kernel
theorem dX6_answers_225 : decode cX6_answers 225 = .ok (.iadd, 1) := by decide +kernel
theorem dX6_answers_226 : decode cX6_answers 226 = .ok (.invokevirtual 119, 3) := by decide +kernel
theorem dX6_answers_229 : decode cX6_answers 229 = .ok (.iload 4, 2) := by decide +kernel
theorem dX6_answers_231 : decode cX6_answers 231 = .ok (.bipush 10, 2) := by decide +kernel
theorem dX6_answers_233 : decode cX6_answers 233 = .ok (.idiv, 1) := by decide +kernel
theorem dX6_answers_234 : decode cX6_answers 234 = .ok (.istore 4, 2) := by decide +kernel
theorem dX6_answers_236 : decode cX6_answers 236 = .ok (.goto (-27), 3) := by decide +kernel
theorem dX6_answers_239 : decode cX6_answers 239 = .ok (.aload_n 0, 1) := by decide +kernel
theorem dX6_answers_240 : decode cX6_answers 240 = .ok (.iload_n 1, 1) := by decide +kernel
theorem dX6_answers_241 : decode cX6_answers 241 = .ok (.iconst 1, 1) := by decide +kernel
theorem dX6_answers_242 : decode cX6_answers 242 = .ok (.invokevirtual 134, 3) := by decide +kernel
theorem dX6_answers_245 : decode cX6_answers 245 = .ok (.return_, 1) := by decide +kernel
theorem dX6_items_0 : decode cX6_items 0 = .ok (.iconst 0, 1) := by decide +kernel
theorem dX6_items_1 : decode cX6_items 1 = .ok (.istore_n 2, 1) := by decide +kernel
theorem dX6_items_2 : decode cX6_items 2 = .ok (.iconst 0, 1) := by decide +kernel
theorem dX6_items_3 : decode cX6_items 3 = .ok (.istore_n 3, 1) := by decide +kernel
theorem dX6_items_4 : decode cX6_items 4 = .ok (.iload_n 3, 1) := by decide +kernel
theorem dX6_items_5 : decode cX6_items 5 = .ok (.bipush 30, 2) := by decide +kernel
theorem dX6_items_7 : decode cX6_items 7 = .ok (.if_icmp .ge 29, 3) := by decide +kernel
theorem dX6_items_10 : decode cX6_items 10 = .ok (.iload_n 2, 1) := by decide +kernel
theorem dX6_items_11 : decode cX6_items 11 = .ok (.aload_n 0, 1) := by decide +kernel
theorem dX6_items_12 : decode cX6_items 12 = .ok (.getfield 57, 3) := by decide +kernel
theorem dX6_items_15 : decode cX6_items 15 = .ok (.iload_n 3, 1) := by decide +kernel
theorem dX6_items_16 : decode cX6_items 16 = .ok (.iaload, 1) := by decide +kernel
theorem dX6_items_17 : decode cX6_items 17 = .ok (.iload_n 1, 1) := by decide +kernel
theorem dX6_items_18 : decode cX6_items 18 = .ok (.iconst 1, 1) := by decide +kernel
theorem dX6_items_19 : decode cX6_items 19 = .ok (.iadd, 1) := by decide +kernel
theorem dX6_items_20 : decode cX6_items 20 = .ok (.if_icmp .ne 7, 3) := by decide +kernel
theorem dX6_items_23 : decode cX6_items 23 = .ok (.iconst 1, 1) := by decide +kernel
theorem dX6_items_24 : decode cX6_items 24 = .ok (.goto 4, 3) := by decide +kernel
theorem dX6_items_27 : decode cX6_items 27 = .ok (.iconst 0, 1) := by decide +kernel
theorem dX6_items_28 : decode cX6_items 28 = .ok (.iadd, 1) := by decide +kernel
theorem dX6_items_29 : decode cX6_items 29 = .ok (.istore_n 2, 1) := by decide +kernel
theorem dX6_items_30 : decode cX6_items 30 = .ok (.iinc 3 1, 3) := by decide +kernel
theorem dX6_items_33 : decode cX6_items 33 = .ok (.goto (-29), 3) := by decide +kernel
theorem dX6_items_36 : decode cX6_items 36 = .ok (.iload_n 2, 1) := by decide +kernel
theorem dX6_items_37 : decode cX6_items 37 = .ok (.ireturn, 1) := by decide +kernel
theorem dX6_placeOf_0 : decode cX6_placeOf 0 = .ok (.iconst 0, 1) := by decide +kernel
theorem dX6_placeOf_1 : decode cX6_placeOf 1 = .ok (.istore_n 3, 1) := by decide +kernel
theorem dX6_placeOf_2 : decode cX6_placeOf 2 = .ok (.iload_n 3, 1) := by decide +kernel
theorem dX6_placeOf_3 : decode cX6_placeOf 3 = .ok (.aload_n 0, 1) := by decide +kernel
theorem dX6_placeOf_4 : decode cX6_placeOf 4 = .ok (.getfield 63, 3) := by decide +kernel
theorem dX6_placeOf_7 : decode cX6_placeOf 7 = .ok (.iload_n 1, 1) := by decide +kernel
theorem dX6_placeOf_8 : decode cX6_placeOf 8 = .ok (.iaload, 1) := by decide +kernel
theorem dX6_placeOf_9 : decode cX6_placeOf 9 = .ok (.if_icmp .ge 26, 3) := by decide +kernel
theorem dX6_placeOf_12 : decode cX6_placeOf 12 = .ok (.aload_n 0, 1) := by decide +kernel
theorem dX6_placeOf_13 : decode cX6_placeOf 13 = .ok (.getfield 66, 3) := by decide +kernel
theorem dX6_placeOf_16 : decode cX6_placeOf 16 = .ok (.bipush 30, 2) := by decide +kernel
theorem dX6_placeOf_18 : decode cX6_placeOf 18 = .ok (.iload_n 1, 1) := by decide +kernel
theorem dX6_placeOf_19 : decode cX6_placeOf 19 = .ok (.imul, 1) := by decide +kernel
theorem dX6_placeOf_20 : decode cX6_placeOf 20 = .ok (.iload_n 3, 1) := by decide +kernel
theorem dX6_placeOf_21 : decode cX6_placeOf 21 = .ok (.iadd, 1) := by decide +kernel
theorem dX6_placeOf_22 : decode cX6_placeOf 22 = .ok (.iaload, 1) := by decide +kernel
theorem dX6_placeOf_23 : decode cX6_placeOf 23 = .ok (.iload_n 2, 1) := by decide +kernel
theorem dX6_placeOf_24 : decode cX6_placeOf 24 = .ok (.if_icmp .ne 5, 3) := by decide +kernel
theorem dX6_placeOf_27 : decode cX6_placeOf 27 = .ok (.iload_n 3, 1) := by decide +kernel
theorem dX6_placeOf_28 : decode cX6_placeOf 28 = .ok (.ireturn, 1) := by decide +kernel
theorem dX6_placeOf_29 : decode cX6_placeOf 29 = .ok (.iinc 3 1, 3) := by decide +kernel
theorem dX6_placeOf_32 : decode cX6_placeOf 32 = .ok (.goto (-30), 3) := by decide +kernel
theorem dX6_placeOf_35 : decode cX6_placeOf 35 = .ok (.iconst (-1), 1) := by decide +kernel
theorem dX6_placeOf_36 : decode cX6_placeOf 36 = .ok (.ireturn, 1) := by decide +kernel
theorem dX6_enter_0 : decode cX6_enter 0 = .ok (.iconst 5, 1) := by decide +kernel
theorem dX6_enter_1 : decode cX6_enter 1 = .ok (.aload_n 0, 1) := by decide +kernel
theorem dX6_enter_2 : decode cX6_enter 2 = .ok (.getfield 152, 3) := by decide +kernel
theorem dX6_enter_5 : decode cX6_enter 5 = .ok (.imul, 1) := by decide +kernel
theorem dX6_enter_6 : decode cX6_enter 6 = .ok (.istore 6, 2) := by decide +kernel
theorem dX6_enter_8 : decode cX6_enter 8 = .ok (.aload_n 0, 1) := by decide +kernel
theorem dX6_enter_9 : decode cX6_enter 9 = .ok (.getfield 152, 3) := by decide +kernel
theorem dX6_enter_12 : decode cX6_enter 12 = .ok (.sipush 1000, 3) := by decide +kernel
theorem dX6_enter_15 : decode cX6_enter 15 = .ok (.if_icmp .ge 53, 3) := by decide +kernel
theorem dX6_enter_18 : decode cX6_enter 18 = .ok (.aload_n 0, 1) := by decide +kernel
theorem dX6_enter_19 : decode cX6_enter 19 = .ok (.getfield 69, 3) := by decide +kernel
theorem dX6_enter_22 : decode cX6_enter 22 = .ok (.iload 6, 2) := by decide +kernel
theorem dX6_enter_24 : decode cX6_enter 24 = .ok (.iload_n 1, 1) := by decide +kernel
theorem dX6_enter_25 : decode cX6_enter 25 = .ok (.iastore, 1) := by decide +kernel
theorem dX6_enter_26 : decode cX6_enter 26 = .ok (.aload_n 0, 1) := by decide +kernel
theorem dX6_enter_27 : decode cX6_enter 27 = .ok (.getfield 69, 3) := by decide +kernel
theorem dX6_enter_30 : decode cX6_enter 30 = .ok (.iload 6, 2) := by decide +kernel
theorem dX6_enter_32 : decode cX6_enter 32 = .ok (.iconst 1, 1) := by decide +kernel
theorem dX6_enter_33 : decode cX6_enter 33 = .ok (.iadd, 1) := by decide +kernel
theorem dX6_enter_34 : decode cX6_enter 34 = .ok (.iload_n 3, 1) := by decide +kernel
theorem dX6_enter_35 : decode cX6_enter 35 = .ok (.iastore, 1) := by decide +kernel
theorem dX6_enter_36 : decode cX6_enter 36 = .ok (.aload_n 0, 1) := by decide +kernel
theorem dX6_enter_37 : decode cX6_enter 37 = .ok (.getfield 69, 3) := by decide +kernel
theorem dX6_enter_40 : decode cX6_enter 40 = .ok (.iload 6, 2) := by decide +kernel
theorem dX6_enter_42 : decode cX6_enter 42 = .ok (.iconst 2, 1) := by decide +kernel
theorem dX6_enter_43 : decode cX6_enter 43 = .ok (.iadd, 1) := by decide +kernel
theorem dX6_enter_44 : decode cX6_enter 44 = .ok (.iload 4, 2) := by decide +kernel
theorem dX6_enter_46 : decode cX6_enter 46 = .ok (.iastore, 1) := by decide +kernel
theorem dX6_enter_47 : decode cX6_enter 47 = .ok (.aload_n 0, 1) := by decide +kernel
theorem dX6_enter_48 : decode cX6_enter 48 = .ok (.getfield 69, 3) := by decide +kernel
theorem dX6_enter_51 : decode cX6_enter 51 = .ok (.iload 6, 2) := by decide +kernel
theorem dX6_enter_53 : decode cX6_enter 53 = .ok (.iconst 3, 1) := by decide +kernel
theorem dX6_enter_54 : decode cX6_enter 54 = .ok (.iadd, 1) := by decide +kernel
theorem dX6_enter_55 : decode cX6_enter 55 = .ok (.iload 5, 2) := by decide +kernel
theorem dX6_enter_57 : decode cX6_enter 57 = .ok (.iastore, 1) := by decide +kernel
theorem dX6_enter_58 : decode cX6_enter 58 = .ok (.aload_n 0, 1) := by decide +kernel
theorem dX6_enter_59 : decode cX6_enter 59 = .ok (.getfield 69, 3) := by decide +kernel
theorem dX6_enter_62 : decode cX6_enter 62 = .ok (.iload 6, 2) := by decide +kernel
theorem dX6_enter_64 : decode cX6_enter 64 = .ok (.iconst 4, 1) := by decide +kernel
theorem dX6_enter_65 : decode cX6_enter 65 = .ok (.iadd, 1) := by decide +kernel
theorem dX6_enter_66 : decode cX6_enter 66 = .ok (.iload_n 2, 1) := by decide +kernel
theorem dX6_enter_67 : decode cX6_enter 67 = .ok (.iastore, 1) := by decide +kernel
theorem dX6_enter_68 : decode cX6_enter 68 = .ok (.aload_n 0, 1) := by decide +kernel
theorem dX6_enter_69 : decode cX6_enter 69 = .ok (.dup, 1) := by decide +kernel
theorem dX6_enter_70 : decode cX6_enter 70 = .ok (.getfield 152, 3) := by decide +kernel
theorem dX6_enter_73 : decode cX6_enter 73 = .ok (.iconst 1, 1) := by decide +kernel
theorem dX6_enter_74 : decode cX6_enter 74 = .ok (.iadd, 1) := by decide +kernel
theorem dX6_enter_75 : decode cX6_enter 75 = .ok (.putfield 152, 3) := by decide +kernel
theorem dX6_enter_78 : decode cX6_enter 78 = .ok (.return_, 1) := by decide +kernel
theorem dX6_lends_0 : decode cX6_lends 0 = .ok (.aload_n 0, 1) := by decide +kernel
theorem dX6_lends_1 : decode cX6_lends 1 = .ok (.getfield 63, 3) := by decide +kernel
theorem dX6_lends_4 : decode cX6_lends 4 = .ok (.aload_n 0, 1) := by decide +kernel
theorem dX6_lends_5 : decode cX6_lends 5 = .ok (.getfield 110, 3) := by decide +kernel
theorem dX6_lends_8 : decode cX6_lends 8 = .ok (.iaload, 1) := by decide +kernel
theorem dX6_lends_9 : decode cX6_lends 9 = .ok (.ifCond .ne 10, 3) := by decide +kernel
theorem dX6_lends_12 : decode cX6_lends 12 = .ok (.aload_n 0, 1) := by decide +kernel
theorem dX6_lends_13 : decode cX6_lends 13 = .ok (.getfield 104, 3) := by decide +kernel
theorem dX6_lends_16 : decode cX6_lends 16 = .ok (.goto 15, 3) := by decide +kernel
theorem dX6_lends_19 : decode cX6_lends 19 = .ok (.aload_n 0, 1) := by decide +kernel
theorem dX6_lends_20 : decode cX6_lends 20 = .ok (.getfield 66, 3) := by decide +kernel
theorem dX6_lends_23 : decode cX6_lends 23 = .ok (.bipush 30, 2) := by decide +kernel
theorem dX6_lends_25 : decode cX6_lends 25 = .ok (.aload_n 0, 1) := by decide +kernel
theorem dX6_lends_26 : decode cX6_lends 26 = .ok (.getfield 110, 3) := by decide +kernel
theorem dX6_lends_29 : decode cX6_lends 29 = .ok (.imul, 1) := by decide +kernel
theorem dX6_lends_30 : decode cX6_lends 30 = .ok (.iaload, 1) := by decide +kernel
theorem dX6_lends_31 : decode cX6_lends 31 = .ok (.istore_n 3, 1) := by decide +kernel
theorem dX6_lends_32 : decode cX6_lends 32 = .ok (.aload_n 0, 1) := by decide +kernel
theorem dX6_lends_33 : decode cX6_lends 33 = .ok (.aload_n 0, 1) := by decide +kernel
theorem dX6_lends_34 : decode cX6_lends 34 = .ok (.getfield 57, 3) := by decide +kernel
theorem dX6_lends_37 : decode cX6_lends 37 = .ok (.aload_n 0, 1) := by decide +kernel
theorem dX6_lends_38 : decode cX6_lends 38 = .ok (.getfield 110, 3) := by decide +kernel
theorem dX6_lends_41 : decode cX6_lends 41 = .ok (.iaload, 1) := by decide +kernel
theorem dX6_lends_42 : decode cX6_lends 42 = .ok (.ifCond .ne 30, 3) := by decide +kernel
theorem dX6_lends_45 : decode cX6_lends 45 = .ok (.iload_n 3, 1) := by decide +kernel
theorem dX6_lends_46 : decode cX6_lends 46 = .ok (.aload_n 0, 1) := by decide +kernel
theorem dX6_lends_47 : decode cX6_lends 47 = .ok (.getfield 104, 3) := by decide +kernel
theorem dX6_lends_50 : decode cX6_lends 50 = .ok (.if_icmp .ne 22, 3) := by decide +kernel
theorem dX6_lends_53 : decode cX6_lends 53 = .ok (.aload_n 0, 1) := by decide +kernel
theorem dX6_lends_54 : decode cX6_lends 54 = .ok (.getfield 54, 3) := by decide +kernel
theorem dX6_lends_57 : decode cX6_lends 57 = .ok (.aload_n 0, 1) := by decide +kernel
theorem dX6_lends_58 : decode cX6_lends 58 = .ok (.getfield 104, 3) := by decide +kernel
theorem dX6_lends_61 : decode cX6_lends 61 = .ok (.iaload, 1) := by decide +kernel
theorem dX6_lends_62 : decode cX6_lends 62 = .ok (.sipush 500, 3) := by decide +kernel
theorem dX6_lends_65 : decode cX6_lends 65 = .ok (.if_icmp .gt 7, 3) := by decide +kernel
theorem dX6_lends_68 : decode cX6_lends 68 = .ok (.iconst 1, 1) := by decide +kernel
theorem dX6_lends_69 : decode cX6_lends 69 = .ok (.goto 4, 3) := by decide +kernel
theorem dX6_lends_72 : decode cX6_lends 72 = .ok (.iconst 0, 1) := by decide +kernel
theorem dX6_lends_73 : decode cX6_lends 73 = .ok (.putfield 148, 3) := by decide +kernel
theorem dX6_lends_76 : decode cX6_lends 76 = .ok (.aload_n 0, 1) := by decide +kernel
theorem dX6_lends_77 : decode cX6_lends 77 = .ok (.getfield 148, 3) := by decide +kernel
theorem dX6_lends_80 : decode cX6_lends 80 = .ok (.ifCond .eq 124, 3) := by decide +kernel
theorem dX6_lends_83 : decode cX6_lends 83 = .ok (.aload_n 0, 1) := by decide +kernel
theorem dX6_lends_84 : decode cX6_lends 84 = .ok (.getfield 63, 3) := by decide +kernel
theorem dX6_lends_87 : decode cX6_lends 87 = .ok (.aload_n 0, 1) := by decide +kernel
theorem dX6_lends_88 : decode cX6_lends 88 = .ok (.getfield 110, 3) := by decide +kernel
theorem dX6_lends_91 : decode cX6_lends 91 = .ok (.iaload, 1) := by decide +kernel
theorem dX6_lends_92 : decode cX6_lends 92 = .ok (.ifCond .le 71, 3) := by decide +kernel
theorem dX6_lends_95 : decode cX6_lends 95 = .ok (.aload_n 0, 1) := by decide +kernel
theorem dX6_lends_96 : decode cX6_lends 96 = .ok (.getfield 63, 3) := by decide +kernel
theorem dX6_lends_99 : decode cX6_lends 99 = .ok (.aload_n 0, 1) := by decide +kernel
theorem dX6_lends_100 : decode cX6_lends 100 = .ok (.getfield 110, 3) := by decide +kernel
theorem dX6_lends_103 : decode cX6_lends 103 = .ok (.dup2, 1) := by decide +kernel
theorem dX6_lends_104 : decode cX6_lends 104 = .ok (.iaload, 1) := by decide +kernel
theorem dX6_lends_105 : decode cX6_lends 105 = .ok (.iconst 1, 1) := by decide +kernel
theorem dX6_lends_106 : decode cX6_lends 106 = .ok (.isub, 1) := by decide +kernel
theorem dX6_lends_107 : decode cX6_lends 107 = .ok (.iastore, 1) := by decide +kernel
theorem dX6_lends_108 : decode cX6_lends 108 = .ok (.iconst 0, 1) := by decide +kernel
theorem dX6_lends_109 : decode cX6_lends 109 = .ok (.istore 4, 2) := by decide +kernel
theorem dX6_lends_111 : decode cX6_lends 111 = .ok (.iload 4, 2) := by decide +kernel
theorem dX6_lends_113 : decode cX6_lends 113 = .ok (.aload_n 0, 1) := by decide +kernel
theorem dX6_lends_114 : decode cX6_lends 114 = .ok (.getfield 63, 3) := by decide +kernel
theorem dX6_lends_117 : decode cX6_lends 117 = .ok (.aload_n 0, 1) := by decide +kernel
theorem dX6_lends_118 : decode cX6_lends 118 = .ok (.getfield 110, 3) := by decide +kernel
theorem dX6_lends_121 : decode cX6_lends 121 = .ok (.iaload, 1) := by decide +kernel
theorem dX6_lends_122 : decode cX6_lends 122 = .ok (.if_icmp .ge 41, 3) := by decide +kernel
theorem dX6_lends_125 : decode cX6_lends 125 = .ok (.aload_n 0, 1) := by decide +kernel
theorem dX6_lends_126 : decode cX6_lends 126 = .ok (.getfield 66, 3) := by decide +kernel
theorem dX6_lends_129 : decode cX6_lends 129 = .ok (.bipush 30, 2) := by decide +kernel
theorem dX6_lends_131 : decode cX6_lends 131 = .ok (.aload_n 0, 1) := by decide +kernel
theorem dX6_lends_132 : decode cX6_lends 132 = .ok (.getfield 110, 3) := by decide +kernel
theorem dX6_lends_135 : decode cX6_lends 135 = .ok (.imul, 1) := by decide +kernel
theorem dX6_lends_136 : decode cX6_lends 136 = .ok (.iload 4, 2) := by decide +kernel
theorem dX6_lends_138 : decode cX6_lends 138 = .ok (.iadd, 1) := by decide +kernel
theorem dX6_lends_139 : decode cX6_lends 139 = .ok (.aload_n 0, 1) := by decide +kernel
theorem dX6_lends_140 : decode cX6_lends 140 = .ok (.getfield 66, 3) := by decide +kernel
theorem dX6_lends_143 : decode cX6_lends 143 = .ok (.bipush 30, 2) := by decide +kernel
theorem dX6_lends_145 : decode cX6_lends 145 = .ok (.aload_n 0, 1) := by decide +kernel
theorem dX6_lends_146 : decode cX6_lends 146 = .ok (.getfield 110, 3) := by decide +kernel
theorem dX6_lends_149 : decode cX6_lends 149 = .ok (.imul, 1) := by decide +kernel
theorem dX6_lends_150 : decode cX6_lends 150 = .ok (.iload 4, 2) := by decide +kernel
theorem dX6_lends_152 : decode cX6_lends 152 = .ok (.iadd, 1) := by decide +kernel
theorem dX6_lends_153 : decode cX6_lends 153 = .ok (.iconst 1, 1) := by decide +kernel
theorem dX6_lends_154 : decode cX6_lends 154 = .ok (.iadd, 1) := by decide +kernel
theorem dX6_lends_155 : decode cX6_lends 155 = .ok (.iaload, 1) := by decide +kernel
theorem dX6_lends_156 : decode cX6_lends 156 = .ok (.iastore, 1) := by decide +kernel
theorem dX6_lends_157 : decode cX6_lends 157 = .ok (.iinc 4 1, 3) := by decide +kernel
theorem dX6_lends_160 : decode cX6_lends 160 = .ok (.goto (-49), 3) := by decide +kernel
theorem dX6_lends_163 : decode cX6_lends 163 = .ok (.aload_n 0, 1) := by decide +kernel
theorem dX6_lends_164 : decode cX6_lends 164 = .ok (.getfield 57, 3) := by decide +kernel
theorem dX6_lends_167 : decode cX6_lends 167 = .ok (.aload_n 0, 1) := by decide +kernel
theorem dX6_lends_168 : decode cX6_lends 168 = .ok (.getfield 110, 3) := by decide +kernel
theorem dX6_lends_171 : decode cX6_lends 171 = .ok (.aload_n 0, 1) := by decide +kernel
theorem dX6_lends_172 : decode cX6_lends 172 = .ok (.getfield 104, 3) := by decide +kernel
theorem dX6_lends_175 : decode cX6_lends 175 = .ok (.iconst 1, 1) := by decide +kernel
theorem dX6_lends_176 : decode cX6_lends 176 = .ok (.iadd, 1) := by decide +kernel
theorem dX6_lends_177 : decode cX6_lends 177 = .ok (.iastore, 1) := by decide +kernel
theorem dX6_lends_178 : decode cX6_lends 178 = .ok (.aload_n 0, 1) := by decide +kernel
theorem dX6_lends_179 : decode cX6_lends 179 = .ok (.getfield 60, 3) := by decide +kernel
theorem dX6_lends_182 : decode cX6_lends 182 = .ok (.aload_n 0, 1) := by decide +kernel
theorem dX6_lends_183 : decode cX6_lends 183 = .ok (.getfield 110, 3) := by decide +kernel
theorem dX6_lends_186 : decode cX6_lends 186 = .ok (.iconst 0, 1) := by decide +kernel
theorem dX6_lends_187 : decode cX6_lends 187 = .ok (.iastore, 1) := by decide +kernel
theorem dX6_lends_188 : decode cX6_lends 188 = .ok (.aload_n 0, 1) := by decide +kernel
theorem dX6_lends_189 : decode cX6_lends 189 = .ok (.iload_n 1, 1) := by decide +kernel
theorem dX6_lends_190 : decode cX6_lends 190 = .ok (.iload_n 2, 1) := by decide +kernel
theorem dX6_lends_191 : decode cX6_lends 191 = .ok (.bipush 67, 2) := by decide +kernel
theorem dX6_lends_193 : decode cX6_lends 193 = .ok (.aload_n 0, 1) := by decide +kernel
theorem dX6_lends_194 : decode cX6_lends 194 = .ok (.getfield 110, 3) := by decide +kernel
theorem dX6_lends_197 : decode cX6_lends 197 = .ok (.aload_n 0, 1) := by decide +kernel
theorem dX6_lends_198 : decode cX6_lends 198 = .ok (.getfield 104, 3) := by decide +kernel
theorem dX6_lends_201 : decode cX6_lends 201 = .ok (.invokevirtual 155, 3) := by decide +kernel
theorem dX6_lends_204 : decode cX6_lends 204 = .ok (.aload_n 0, 1) := by decide +kernel
theorem dX6_lends_205 : decode cX6_lends 205 = .ok (.aload_n 0, 1) := by decide +kernel
theorem dX6_lends_206 : decode cX6_lends 206 = .ok (.getfield 104, 3) := by decide +kernel
theorem dX6_lends_209 : decode cX6_lends 209 = .ok (.invokevirtual 159, 3) := by decide +kernel
theorem dX6_lends_212 : decode cX6_lends 212 = .ok (.ireturn, 1) := by decide +kernel
theorem dX6_brings_0 : decode cX6_brings 0 = .ok (.aload_n 0, 1) := by decide +kernel
theorem dX6_brings_1 : decode cX6_brings 1 = .ok (.aload_n 0, 1) := by decide +kernel
theorem dX6_brings_2 : decode cX6_brings 2 = .ok (.getfield 57, 3) := by decide +kernel
theorem dX6_brings_5 : decode cX6_brings 5 = .ok (.aload_n 0, 1) := by decide +kernel
theorem dX6_brings_6 : decode cX6_brings 6 = .ok (.getfield 110, 3) := by decide +kernel
theorem dX6_brings_9 : decode cX6_brings 9 = .ok (.iaload, 1) := by decide +kernel
theorem dX6_brings_10 : decode cX6_brings 10 = .ok (.ifCond .le 7, 3) := by decide +kernel
theorem dX6_brings_13 : decode cX6_brings 13 = .ok (.iconst 1, 1) := by decide +kernel
theorem dX6_brings_14 : decode cX6_brings 14 = .ok (.goto 4, 3) := by decide +kernel
theorem dX6_brings_17 : decode cX6_brings 17 = .ok (.iconst 0, 1) := by decide +kernel
theorem dX6_brings_18 : decode cX6_brings 18 = .ok (.putfield 148, 3) := by decide +kernel
theorem dX6_brings_21 : decode cX6_brings 21 = .ok (.aload_n 0, 1) := by decide +kernel
theorem dX6_brings_22 : decode cX6_brings 22 = .ok (.getfield 148, 3) := by decide +kernel
theorem dX6_brings_25 : decode cX6_brings 25 = .ok (.ifCond .eq 46, 3) := by decide +kernel
theorem dX6_brings_28 : decode cX6_brings 28 = .ok (.aload_n 0, 1) := by decide +kernel
theorem dX6_brings_29 : decode cX6_brings 29 = .ok (.iload_n 1, 1) := by decide +kernel
theorem dX6_brings_30 : decode cX6_brings 30 = .ok (.iload_n 2, 1) := by decide +kernel
theorem dX6_brings_31 : decode cX6_brings 31 = .ok (.bipush 66, 2) := by decide +kernel
theorem dX6_brings_33 : decode cX6_brings 33 = .ok (.aload_n 0, 1) := by decide +kernel
theorem dX6_brings_34 : decode cX6_brings 34 = .ok (.getfield 110, 3) := by decide +kernel
theorem dX6_brings_37 : decode cX6_brings 37 = .ok (.aload_n 0, 1) := by decide +kernel
theorem dX6_brings_38 : decode cX6_brings 38 = .ok (.getfield 57, 3) := by decide +kernel
theorem dX6_brings_41 : decode cX6_brings 41 = .ok (.aload_n 0, 1) := by decide +kernel
theorem dX6_brings_42 : decode cX6_brings 42 = .ok (.getfield 110, 3) := by decide +kernel
theorem dX6_brings_45 : decode cX6_brings 45 = .ok (.iaload, 1) := by decide +kernel
theorem dX6_brings_46 : decode cX6_brings 46 = .ok (.iconst 1, 1) := by decide +kernel
theorem dX6_brings_47 : decode cX6_brings 47 = .ok (.isub, 1) := by decide +kernel
theorem dX6_brings_48 : decode cX6_brings 48 = .ok (.invokevirtual 155, 3) := by decide +kernel
theorem dX6_brings_51 : decode cX6_brings 51 = .ok (.aload_n 0, 1) := by decide +kernel
theorem dX6_brings_52 : decode cX6_brings 52 = .ok (.getfield 57, 3) := by decide +kernel
theorem dX6_brings_55 : decode cX6_brings 55 = .ok (.aload_n 0, 1) := by decide +kernel
theorem dX6_brings_56 : decode cX6_brings 56 = .ok (.getfield 110, 3) := by decide +kernel
theorem dX6_brings_59 : decode cX6_brings 59 = .ok (.iconst 0, 1) := by decide +kernel
theorem dX6_brings_60 : decode cX6_brings 60 = .ok (.iastore, 1) := by decide +kernel
theorem dX6_brings_61 : decode cX6_brings 61 = .ok (.aload_n 0, 1) := by decide +kernel
theorem dX6_brings_62 : decode cX6_brings 62 = .ok (.getfield 60, 3) := by decide +kernel
theorem dX6_brings_65 : decode cX6_brings 65 = .ok (.aload_n 0, 1) := by decide +kernel
theorem dX6_brings_66 : decode cX6_brings 66 = .ok (.getfield 110, 3) := by decide +kernel
theorem dX6_brings_69 : decode cX6_brings 69 = .ok (.iconst 0, 1) := by decide +kernel
theorem dX6_brings_70 : decode cX6_brings 70 = .ok (.iastore, 1) := by decide +kernel
theorem dX6_brings_71 : decode cX6_brings 71 = .ok (.aload_n 0, 1) := by decide +kernel
theorem dX6_brings_72 : decode cX6_brings 72 = .ok (.getfield 63, 3) := by decide +kernel
theorem dX6_brings_75 : decode cX6_brings 75 = .ok (.aload_n 0, 1) := by decide +kernel
theorem dX6_brings_76 : decode cX6_brings 76 = .ok (.getfield 110, 3) := by decide +kernel
theorem dX6_brings_79 : decode cX6_brings 79 = .ok (.iaload, 1) := by decide +kernel
theorem dX6_brings_80 : decode cX6_brings 80 = .ok (.ireturn, 1) := by decide +kernel
theorem dX6_judge_0 : decode cX6_judge 0 = .ok (.aload_n 0, 1) := by decide +kernel
theorem dX6_judge_1 : decode cX6_judge 1 = .ok (.getfield 87, 3) := by decide +kernel
theorem dX6_judge_4 : decode cX6_judge 4 = .ok (.tableswitch 347 66 83 #[102, 95, 347, 347, 139, 347, 221, 124, 347, 347, 347, 347, 347, 347, 109, 347, 347, 88], 88) := by decide +kernel
theorem dX6_judge_92 : decode cX6_judge 92 = .ok (.aload_n 0, 1) := by decide +kernel
theorem dX6_judge_93 : decode cX6_judge 93 = .ok (.iconst 1, 1) := by decide +kernel
theorem dX6_judge_94 : decode cX6_judge 94 = .ok (.putfield 148, 3) := by decide +kernel
theorem dX6_judge_97 : decode cX6_judge 97 = .ok (.iconst 0, 1) := by decide +kernel
theorem dX6_judge_98 : decode cX6_judge 98 = .ok (.ireturn, 1) := by decide +kernel
theorem dX6_judge_99 : decode cX6_judge 99 = .ok (.aload_n 0, 1) := by decide +kernel
theorem dX6_judge_100 : decode cX6_judge 100 = .ok (.iload_n 1, 1) := by decide +kernel
theorem dX6_judge_101 : decode cX6_judge 101 = .ok (.iload_n 2, 1) := by decide +kernel
theorem dX6_judge_102 : decode cX6_judge 102 = .ok (.invokevirtual 162, 3) := by decide +kernel
theorem dX6_judge_105 : decode cX6_judge 105 = .ok (.ireturn, 1) := by decide +kernel
theorem dX6_judge_106 : decode cX6_judge 106 = .ok (.aload_n 0, 1) := by decide +kernel
theorem dX6_judge_107 : decode cX6_judge 107 = .ok (.iload_n 1, 1) := by decide +kernel
theorem dX6_judge_108 : decode cX6_judge 108 = .ok (.iload_n 2, 1) := by decide +kernel
theorem dX6_judge_109 : decode cX6_judge 109 = .ok (.invokevirtual 165, 3) := by decide +kernel
theorem dX6_judge_112 : decode cX6_judge 112 = .ok (.ireturn, 1) := by decide +kernel
theorem dX6_judge_113 : decode cX6_judge 113 = .ok (.aload_n 0, 1) := by decide +kernel
theorem dX6_judge_114 : decode cX6_judge 114 = .ok (.iconst 1, 1) := by decide +kernel
theorem dX6_judge_115 : decode cX6_judge 115 = .ok (.putfield 148, 3) := by decide +kernel
theorem dX6_judge_118 : decode cX6_judge 118 = .ok (.aload_n 0, 1) := by decide +kernel
theorem dX6_judge_119 : decode cX6_judge 119 = .ok (.getfield 54, 3) := by decide +kernel
theorem dX6_judge_122 : decode cX6_judge 122 = .ok (.aload_n 0, 1) := by decide +kernel
theorem dX6_judge_123 : decode cX6_judge 123 = .ok (.getfield 104, 3) := by decide +kernel
theorem dX6_judge_126 : decode cX6_judge 126 = .ok (.iaload, 1) := by decide +kernel
theorem dX6_judge_127 : decode cX6_judge 127 = .ok (.ireturn, 1) := by decide +kernel
theorem dX6_judge_128 : decode cX6_judge 128 = .ok (.aload_n 0, 1) := by decide +kernel
theorem dX6_judge_129 : decode cX6_judge 129 = .ok (.iconst 1, 1) := by decide +kernel
theorem dX6_judge_130 : decode cX6_judge 130 = .ok (.putfield 148, 3) := by decide +kernel
theorem dX6_judge_133 : decode cX6_judge 133 = .ok (.aload_n 0, 1) := by decide +kernel
theorem dX6_judge_134 : decode cX6_judge 134 = .ok (.getfield 57, 3) := by decide +kernel
theorem dX6_judge_137 : decode cX6_judge 137 = .ok (.aload_n 0, 1) := by decide +kernel
theorem dX6_judge_138 : decode cX6_judge 138 = .ok (.getfield 110, 3) := by decide +kernel
theorem dX6_judge_141 : decode cX6_judge 141 = .ok (.iaload, 1) := by decide +kernel
theorem dX6_judge_142 : decode cX6_judge 142 = .ok (.ireturn, 1) := by decide +kernel
theorem dX6_judge_143 : decode cX6_judge 143 = .ok (.aload_n 0, 1) := by decide +kernel
theorem dX6_judge_144 : decode cX6_judge 144 = .ok (.aload_n 0, 1) := by decide +kernel
theorem dX6_judge_145 : decode cX6_judge 145 = .ok (.getfield 113, 3) := by decide +kernel
theorem dX6_judge_148 : decode cX6_judge 148 = .ok (.aload_n 0, 1) := by decide +kernel
theorem dX6_judge_149 : decode cX6_judge 149 = .ok (.getfield 54, 3) := by decide +kernel
theorem dX6_judge_152 : decode cX6_judge 152 = .ok (.aload_n 0, 1) := by decide +kernel
theorem dX6_judge_153 : decode cX6_judge 153 = .ok (.getfield 104, 3) := by decide +kernel
theorem dX6_judge_156 : decode cX6_judge 156 = .ok (.iaload, 1) := by decide +kernel
theorem dX6_judge_157 : decode cX6_judge 157 = .ok (.if_icmp .gt 7, 3) := by decide +kernel
theorem dX6_judge_160 : decode cX6_judge 160 = .ok (.iconst 1, 1) := by decide +kernel
theorem dX6_judge_161 : decode cX6_judge 161 = .ok (.goto 4, 3) := by decide +kernel
theorem dX6_judge_164 : decode cX6_judge 164 = .ok (.iconst 0, 1) := by decide +kernel
theorem dX6_judge_165 : decode cX6_judge 165 = .ok (.putfield 148, 3) := by decide +kernel
theorem dX6_judge_168 : decode cX6_judge 168 = .ok (.aload_n 0, 1) := by decide +kernel
theorem dX6_judge_169 : decode cX6_judge 169 = .ok (.getfield 54, 3) := by decide +kernel
theorem dX6_judge_172 : decode cX6_judge 172 = .ok (.aload_n 0, 1) := by decide +kernel
theorem dX6_judge_173 : decode cX6_judge 173 = .ok (.getfield 104, 3) := by decide +kernel
theorem dX6_judge_176 : decode cX6_judge 176 = .ok (.dup2, 1) := by decide +kernel
theorem dX6_judge_177 : decode cX6_judge 177 = .ok (.iaload, 1) := by decide +kernel
theorem dX6_judge_178 : decode cX6_judge 178 = .ok (.aload_n 0, 1) := by decide +kernel
theorem dX6_judge_179 : decode cX6_judge 179 = .ok (.getfield 148, 3) := by decide +kernel
theorem dX6_judge_182 : decode cX6_judge 182 = .ok (.ifCond .eq 10, 3) := by decide +kernel
theorem dX6_judge_185 : decode cX6_judge 185 = .ok (.aload_n 0, 1) := by decide +kernel
theorem dX6_judge_186 : decode cX6_judge 186 = .ok (.getfield 113, 3) := by decide +kernel
theorem dX6_judge_189 : decode cX6_judge 189 = .ok (.goto 4, 3) := by decide +kernel
theorem dX6_judge_192 : decode cX6_judge 192 = .ok (.iconst 0, 1) := by decide +kernel
theorem dX6_judge_193 : decode cX6_judge 193 = .ok (.isub, 1) := by decide +kernel
theorem dX6_judge_194 : decode cX6_judge 194 = .ok (.iastore, 1) := by decide +kernel
theorem dX6_judge_195 : decode cX6_judge 195 = .ok (.aload_n 0, 1) := by decide +kernel
theorem dX6_judge_196 : decode cX6_judge 196 = .ok (.getfield 148, 3) := by decide +kernel
theorem dX6_judge_199 : decode cX6_judge 199 = .ok (.ifCond .eq 16, 3) := by decide +kernel
theorem dX6_judge_202 : decode cX6_judge 202 = .ok (.aload_n 0, 1) := by decide +kernel
theorem dX6_judge_203 : decode cX6_judge 203 = .ok (.iload_n 1, 1) := by decide +kernel
theorem dX6_judge_204 : decode cX6_judge 204 = .ok (.iload_n 2, 1) := by decide +kernel
theorem dX6_judge_205 : decode cX6_judge 205 = .ok (.bipush 70, 2) := by decide +kernel
theorem dX6_judge_207 : decode cX6_judge 207 = .ok (.iconst (-1), 1) := by decide +kernel
theorem dX6_judge_208 : decode cX6_judge 208 = .ok (.aload_n 0, 1) := by decide +kernel
theorem dX6_judge_209 : decode cX6_judge 209 = .ok (.getfield 104, 3) := by decide +kernel
theorem dX6_judge_212 : decode cX6_judge 212 = .ok (.invokevirtual 155, 3) := by decide +kernel
theorem dX6_judge_215 : decode cX6_judge 215 = .ok (.aload_n 0, 1) := by decide +kernel
theorem dX6_judge_216 : decode cX6_judge 216 = .ok (.getfield 54, 3) := by decide +kernel
theorem dX6_judge_219 : decode cX6_judge 219 = .ok (.aload_n 0, 1) := by decide +kernel
theorem dX6_judge_220 : decode cX6_judge 220 = .ok (.getfield 104, 3) := by decide +kernel
theorem dX6_judge_223 : decode cX6_judge 223 = .ok (.iaload, 1) := by decide +kernel
theorem dX6_judge_224 : decode cX6_judge 224 = .ok (.ireturn, 1) := by decide +kernel
theorem dX6_judge_225 : decode cX6_judge 225 = .ok (.aload_n 0, 1) := by decide +kernel
theorem dX6_judge_226 : decode cX6_judge 226 = .ok (.aload_n 0, 1) := by decide +kernel
theorem dX6_judge_227 : decode cX6_judge 227 = .ok (.getfield 57, 3) := by decide +kernel
theorem dX6_judge_230 : decode cX6_judge 230 = .ok (.aload_n 0, 1) := by decide +kernel
theorem dX6_judge_231 : decode cX6_judge 231 = .ok (.getfield 110, 3) := by decide +kernel
theorem dX6_judge_234 : decode cX6_judge 234 = .ok (.iaload, 1) := by decide +kernel
theorem dX6_judge_235 : decode cX6_judge 235 = .ok (.ifCond .le 40, 3) := by decide +kernel
theorem dX6_judge_238 : decode cX6_judge 238 = .ok (.aload_n 0, 1) := by decide +kernel
theorem dX6_judge_239 : decode cX6_judge 239 = .ok (.getfield 57, 3) := by decide +kernel
theorem dX6_judge_242 : decode cX6_judge 242 = .ok (.aload_n 0, 1) := by decide +kernel
theorem dX6_judge_243 : decode cX6_judge 243 = .ok (.getfield 110, 3) := by decide +kernel
theorem dX6_judge_246 : decode cX6_judge 246 = .ok (.iaload, 1) := by decide +kernel
theorem dX6_judge_247 : decode cX6_judge 247 = .ok (.aload_n 0, 1) := by decide +kernel
theorem dX6_judge_248 : decode cX6_judge 248 = .ok (.getfield 104, 3) := by decide +kernel
theorem dX6_judge_251 : decode cX6_judge 251 = .ok (.iconst 1, 1) := by decide +kernel
theorem dX6_judge_252 : decode cX6_judge 252 = .ok (.iadd, 1) := by decide +kernel
theorem dX6_judge_253 : decode cX6_judge 253 = .ok (.if_icmp .eq 22, 3) := by decide +kernel
theorem dX6_judge_256 : decode cX6_judge 256 = .ok (.aload_n 0, 1) := by decide +kernel
theorem dX6_judge_257 : decode cX6_judge 257 = .ok (.aload_n 0, 1) := by decide +kernel
theorem dX6_judge_258 : decode cX6_judge 258 = .ok (.getfield 110, 3) := by decide +kernel
theorem dX6_judge_261 : decode cX6_judge 261 = .ok (.aload_n 0, 1) := by decide +kernel
theorem dX6_judge_262 : decode cX6_judge 262 = .ok (.getfield 104, 3) := by decide +kernel
theorem dX6_judge_265 : decode cX6_judge 265 = .ok (.invokevirtual 168, 3) := by decide +kernel
theorem dX6_judge_268 : decode cX6_judge 268 = .ok (.ifCond .ge 7, 3) := by decide +kernel
theorem dX6_judge_271 : decode cX6_judge 271 = .ok (.iconst 1, 1) := by decide +kernel
theorem dX6_judge_272 : decode cX6_judge 272 = .ok (.goto 4, 3) := by decide +kernel
theorem dX6_judge_275 : decode cX6_judge 275 = .ok (.iconst 0, 1) := by decide +kernel
theorem dX6_judge_276 : decode cX6_judge 276 = .ok (.putfield 148, 3) := by decide +kernel
theorem dX6_judge_279 : decode cX6_judge 279 = .ok (.aload_n 0, 1) := by decide +kernel
theorem dX6_judge_280 : decode cX6_judge 280 = .ok (.getfield 148, 3) := by decide +kernel
theorem dX6_judge_283 : decode cX6_judge 283 = .ok (.ifCond .eq 58, 3) := by decide +kernel
theorem dX6_judge_286 : decode cX6_judge 286 = .ok (.aload_n 0, 1) := by decide +kernel
theorem dX6_judge_287 : decode cX6_judge 287 = .ok (.getfield 66, 3) := by decide +kernel
theorem dX6_judge_290 : decode cX6_judge 290 = .ok (.bipush 30, 2) := by decide +kernel
theorem dX6_judge_292 : decode cX6_judge 292 = .ok (.aload_n 0, 1) := by decide +kernel
theorem dX6_judge_293 : decode cX6_judge 293 = .ok (.getfield 110, 3) := by decide +kernel
theorem dX6_judge_296 : decode cX6_judge 296 = .ok (.imul, 1) := by decide +kernel
theorem dX6_judge_297 : decode cX6_judge 297 = .ok (.aload_n 0, 1) := by decide +kernel
theorem dX6_judge_298 : decode cX6_judge 298 = .ok (.getfield 63, 3) := by decide +kernel
theorem dX6_judge_301 : decode cX6_judge 301 = .ok (.aload_n 0, 1) := by decide +kernel
theorem dX6_judge_302 : decode cX6_judge 302 = .ok (.getfield 110, 3) := by decide +kernel
theorem dX6_judge_305 : decode cX6_judge 305 = .ok (.iaload, 1) := by decide +kernel
theorem dX6_judge_306 : decode cX6_judge 306 = .ok (.iadd, 1) := by decide +kernel
theorem dX6_judge_307 : decode cX6_judge 307 = .ok (.aload_n 0, 1) := by decide +kernel
theorem dX6_judge_308 : decode cX6_judge 308 = .ok (.getfield 104, 3) := by decide +kernel
theorem dX6_judge_311 : decode cX6_judge 311 = .ok (.iastore, 1) := by decide +kernel
theorem dX6_judge_312 : decode cX6_judge 312 = .ok (.aload_n 0, 1) := by decide +kernel
theorem dX6_judge_313 : decode cX6_judge 313 = .ok (.getfield 63, 3) := by decide +kernel
theorem dX6_judge_316 : decode cX6_judge 316 = .ok (.aload_n 0, 1) := by decide +kernel
theorem dX6_judge_317 : decode cX6_judge 317 = .ok (.getfield 110, 3) := by decide +kernel
theorem dX6_judge_320 : decode cX6_judge 320 = .ok (.dup2, 1) := by decide +kernel
theorem dX6_judge_321 : decode cX6_judge 321 = .ok (.iaload, 1) := by decide +kernel
theorem dX6_judge_322 : decode cX6_judge 322 = .ok (.iconst 1, 1) := by decide +kernel
theorem dX6_judge_323 : decode cX6_judge 323 = .ok (.iadd, 1) := by decide +kernel
theorem dX6_judge_324 : decode cX6_judge 324 = .ok (.iastore, 1) := by decide +kernel
theorem dX6_judge_325 : decode cX6_judge 325 = .ok (.aload_n 0, 1) := by decide +kernel
theorem dX6_judge_326 : decode cX6_judge 326 = .ok (.iload_n 1, 1) := by decide +kernel
theorem dX6_judge_327 : decode cX6_judge 327 = .ok (.iload_n 2, 1) := by decide +kernel
theorem dX6_judge_328 : decode cX6_judge 328 = .ok (.bipush 72, 2) := by decide +kernel
theorem dX6_judge_330 : decode cX6_judge 330 = .ok (.aload_n 0, 1) := by decide +kernel
theorem dX6_judge_331 : decode cX6_judge 331 = .ok (.getfield 110, 3) := by decide +kernel
theorem dX6_judge_334 : decode cX6_judge 334 = .ok (.aload_n 0, 1) := by decide +kernel
theorem dX6_judge_335 : decode cX6_judge 335 = .ok (.getfield 104, 3) := by decide +kernel
theorem dX6_judge_338 : decode cX6_judge 338 = .ok (.invokevirtual 155, 3) := by decide +kernel
theorem dX6_judge_341 : decode cX6_judge 341 = .ok (.aload_n 0, 1) := by decide +kernel
theorem dX6_judge_342 : decode cX6_judge 342 = .ok (.getfield 63, 3) := by decide +kernel
theorem dX6_judge_345 : decode cX6_judge 345 = .ok (.aload_n 0, 1) := by decide +kernel
theorem dX6_judge_346 : decode cX6_judge 346 = .ok (.getfield 110, 3) := by decide +kernel
theorem dX6_judge_349 : decode cX6_judge 349 = .ok (.iaload, 1) := by decide +kernel
theorem dX6_judge_350 : decode cX6_judge 350 = .ok (.ireturn, 1) := by decide +kernel
theorem dX6_judge_351 : decode cX6_judge 351 = .ok (.aload_n 0, 1) := by decide +kernel
theorem dX6_judge_352 : decode cX6_judge 352 = .ok (.aload_n 0, 1) := by decide +kernel
theorem dX6_judge_353 : decode cX6_judge 353 = .ok (.getfield 57, 3) := by decide +kernel
theorem dX6_judge_356 : decode cX6_judge 356 = .ok (.aload_n 0, 1) := by decide +kernel
theorem dX6_judge_357 : decode cX6_judge 357 = .ok (.getfield 110, 3) := by decide +kernel
theorem dX6_judge_360 : decode cX6_judge 360 = .ok (.iaload, 1) := by decide +kernel
theorem dX6_judge_361 : decode cX6_judge 361 = .ok (.aload_n 0, 1) := by decide +kernel
theorem dX6_judge_362 : decode cX6_judge 362 = .ok (.getfield 104, 3) := by decide +kernel
theorem dX6_judge_365 : decode cX6_judge 365 = .ok (.iconst 1, 1) := by decide +kernel
theorem dX6_judge_366 : decode cX6_judge 366 = .ok (.iadd, 1) := by decide +kernel
theorem dX6_judge_367 : decode cX6_judge 367 = .ok (.if_icmp .ne 32, 3) := by decide +kernel
theorem dX6_judge_370 : decode cX6_judge 370 = .ok (.aload_n 0, 1) := by decide +kernel
theorem dX6_judge_371 : decode cX6_judge 371 = .ok (.getfield 63, 3) := by decide +kernel
theorem dX6_judge_374 : decode cX6_judge 374 = .ok (.aload_n 0, 1) := by decide +kernel
theorem dX6_judge_375 : decode cX6_judge 375 = .ok (.getfield 110, 3) := by decide +kernel
theorem dX6_judge_378 : decode cX6_judge 378 = .ok (.iaload, 1) := by decide +kernel
theorem dX6_judge_379 : decode cX6_judge 379 = .ok (.ifCond .ne 20, 3) := by decide +kernel
theorem dX6_judge_382 : decode cX6_judge 382 = .ok (.aload_n 0, 1) := by decide +kernel
theorem dX6_judge_383 : decode cX6_judge 383 = .ok (.getfield 60, 3) := by decide +kernel
theorem dX6_judge_386 : decode cX6_judge 386 = .ok (.aload_n 0, 1) := by decide +kernel
theorem dX6_judge_387 : decode cX6_judge 387 = .ok (.getfield 110, 3) := by decide +kernel
theorem dX6_judge_390 : decode cX6_judge 390 = .ok (.iaload, 1) := by decide +kernel
theorem dX6_judge_391 : decode cX6_judge 391 = .ok (.iconst 2, 1) := by decide +kernel
theorem dX6_judge_392 : decode cX6_judge 392 = .ok (.if_icmp .ge 7, 3) := by decide +kernel
theorem dX6_judge_395 : decode cX6_judge 395 = .ok (.iconst 1, 1) := by decide +kernel
theorem dX6_judge_396 : decode cX6_judge 396 = .ok (.goto 4, 3) := by decide +kernel
theorem dX6_judge_399 : decode cX6_judge 399 = .ok (.iconst 0, 1) := by decide +kernel
theorem dX6_judge_400 : decode cX6_judge 400 = .ok (.putfield 148, 3) := by decide +kernel
theorem dX6_judge_403 : decode cX6_judge 403 = .ok (.aload_n 0, 1) := by decide +kernel
theorem dX6_judge_404 : decode cX6_judge 404 = .ok (.getfield 60, 3) := by decide +kernel
theorem dX6_judge_407 : decode cX6_judge 407 = .ok (.aload_n 0, 1) := by decide +kernel
theorem dX6_judge_408 : decode cX6_judge 408 = .ok (.getfield 110, 3) := by decide +kernel
theorem dX6_judge_411 : decode cX6_judge 411 = .ok (.dup2, 1) := by decide +kernel
theorem dX6_judge_412 : decode cX6_judge 412 = .ok (.iaload, 1) := by decide +kernel
theorem dX6_judge_413 : decode cX6_judge 413 = .ok (.aload_n 0, 1) := by decide +kernel
theorem dX6_judge_414 : decode cX6_judge 414 = .ok (.getfield 148, 3) := by decide +kernel
theorem dX6_judge_417 : decode cX6_judge 417 = .ok (.ifCond .eq 7, 3) := by decide +kernel
theorem dX6_judge_420 : decode cX6_judge 420 = .ok (.iconst 1, 1) := by decide +kernel
theorem dX6_judge_421 : decode cX6_judge 421 = .ok (.goto 4, 3) := by decide +kernel
theorem dX6_judge_424 : decode cX6_judge 424 = .ok (.iconst 0, 1) := by decide +kernel
theorem dX6_judge_425 : decode cX6_judge 425 = .ok (.iadd, 1) := by decide +kernel
theorem dX6_judge_426 : decode cX6_judge 426 = .ok (.iastore, 1) := by decide +kernel
theorem dX6_judge_427 : decode cX6_judge 427 = .ok (.aload_n 0, 1) := by decide +kernel
theorem dX6_judge_428 : decode cX6_judge 428 = .ok (.getfield 148, 3) := by decide +kernel
theorem dX6_judge_431 : decode cX6_judge 431 = .ok (.ifCond .eq 19, 3) := by decide +kernel
theorem dX6_judge_434 : decode cX6_judge 434 = .ok (.aload_n 0, 1) := by decide +kernel
theorem dX6_judge_435 : decode cX6_judge 435 = .ok (.iload_n 1, 1) := by decide +kernel
theorem dX6_judge_436 : decode cX6_judge 436 = .ok (.iload_n 2, 1) := by decide +kernel
theorem dX6_judge_437 : decode cX6_judge 437 = .ok (.bipush 82, 2) := by decide +kernel
theorem dX6_judge_439 : decode cX6_judge 439 = .ok (.aload_n 0, 1) := by decide +kernel
theorem dX6_judge_440 : decode cX6_judge 440 = .ok (.getfield 110, 3) := by decide +kernel
theorem dX6_judge_443 : decode cX6_judge 443 = .ok (.aload_n 0, 1) := by decide +kernel
theorem dX6_judge_444 : decode cX6_judge 444 = .ok (.getfield 104, 3) := by decide +kernel
theorem dX6_judge_447 : decode cX6_judge 447 = .ok (.invokevirtual 155, 3) := by decide +kernel
theorem dX6_judge_450 : decode cX6_judge 450 = .ok (.aload_n 0, 1) := by decide +kernel
theorem dX6_judge_451 : decode cX6_judge 451 = .ok (.getfield 60, 3) := by decide +kernel
theorem dX6_judge_454 : decode cX6_judge 454 = .ok (.aload_n 0, 1) := by decide +kernel
theorem dX6_judge_455 : decode cX6_judge 455 = .ok (.getfield 110, 3) := by decide +kernel
theorem dX6_judge_458 : decode cX6_judge 458 = .ok (.iaload, 1) := by decide +kernel
theorem dX6_judge_459 : decode cX6_judge 459 = .ok (.ireturn, 1) := by decide +kernel
theorem dX6_octet_0 : decode cX6_octet 0 = .ok (.aload_n 0, 1) := by decide +kernel
theorem dX6_octet_1 : decode cX6_octet 1 = .ok (.iconst 0, 1) := by decide +kernel
theorem dX6_octet_2 : decode cX6_octet 2 = .ok (.putfield 72, 3) := by decide +kernel
theorem dX6_octet_5 : decode cX6_octet 5 = .ok (.iload_n 1, 1) := by decide +kernel
theorem dX6_octet_6 : decode cX6_octet 6 = .ok (.invokestatic 171, 3) := by decide +kernel
theorem dX6_octet_9 : decode cX6_octet 9 = .ok (.ifCond .ne 5, 3) := by decide +kernel
theorem dX6_octet_12 : decode cX6_octet 12 = .ok (.iconst (-1), 1) := by decide +kernel
theorem dX6_octet_13 : decode cX6_octet 13 = .ok (.ireturn, 1) := by decide +kernel
theorem dX6_octet_14 : decode cX6_octet 14 = .ok (.aload_n 0, 1) := by decide +kernel
theorem dX6_octet_15 : decode cX6_octet 15 = .ok (.getfield 17, 3) := by decide +kernel
theorem dX6_octet_18 : decode cX6_octet 18 = .ok (.iload_n 1, 1) := by decide +kernel
theorem dX6_octet_19 : decode cX6_octet 19 = .ok (.baload, 1) := by decide +kernel
theorem dX6_octet_20 : decode cX6_octet 20 = .ok (.ifCond .eq 6, 3) := by decide +kernel
theorem dX6_octet_23 : decode cX6_octet 23 = .ok (.bipush (-2), 2) := by decide +kernel
theorem dX6_octet_25 : decode cX6_octet 25 = .ok (.ireturn, 1) := by decide +kernel
theorem dX6_octet_26 : decode cX6_octet 26 = .ok (.iload_n 2, 1) := by decide +kernel
theorem dX6_octet_27 : decode cX6_octet 27 = .ok (.sipush 255, 3) := by decide +kernel
theorem dX6_octet_30 : decode cX6_octet 30 = .ok (.iand, 1) := by decide +kernel
theorem dX6_octet_31 : decode cX6_octet 31 = .ok (.bipush 13, 2) := by decide +kernel
theorem dX6_octet_33 : decode cX6_octet 33 = .ok (.if_icmp .ne 17, 3) := by decide +kernel
theorem dX6_octet_36 : decode cX6_octet 36 = .ok (.aload_n 0, 1) := by decide +kernel
theorem dX6_octet_37 : decode cX6_octet 37 = .ok (.iload_n 1, 1) := by decide +kernel
theorem dX6_octet_38 : decode cX6_octet 38 = .ok (.invokevirtual 174, 3) := by decide +kernel
theorem dX6_octet_41 : decode cX6_octet 41 = .ok (.aload_n 0, 1) := by decide +kernel
theorem dX6_octet_42 : decode cX6_octet 42 = .ok (.getfield 7, 3) := by decide +kernel
theorem dX6_octet_45 : decode cX6_octet 45 = .ok (.iload_n 1, 1) := by decide +kernel
theorem dX6_octet_46 : decode cX6_octet 46 = .ok (.iconst 0, 1) := by decide +kernel
theorem dX6_octet_47 : decode cX6_octet 47 = .ok (.iastore, 1) := by decide +kernel
theorem dX6_octet_48 : decode cX6_octet 48 = .ok (.iconst 0, 1) := by decide +kernel
theorem dX6_octet_49 : decode cX6_octet 49 = .ok (.ireturn, 1) := by decide +kernel
theorem dX6_octet_50 : decode cX6_octet 50 = .ok (.aload_n 0, 1) := by decide +kernel
theorem dX6_octet_51 : decode cX6_octet 51 = .ok (.getfield 7, 3) := by decide +kernel
theorem dX6_octet_54 : decode cX6_octet 54 = .ok (.iload_n 1, 1) := by decide +kernel
theorem dX6_octet_55 : decode cX6_octet 55 = .ok (.iaload, 1) := by decide +kernel
theorem dX6_octet_56 : decode cX6_octet 56 = .ok (.bipush 60, 2) := by decide +kernel
theorem dX6_octet_58 : decode cX6_octet 58 = .ok (.if_icmp .ne 13, 3) := by decide +kernel
theorem dX6_octet_61 : decode cX6_octet 61 = .ok (.aload_n 0, 1) := by decide +kernel
theorem dX6_octet_62 : decode cX6_octet 62 = .ok (.getfield 17, 3) := by decide +kernel
theorem dX6_octet_65 : decode cX6_octet 65 = .ok (.iload_n 1, 1) := by decide +kernel
theorem dX6_octet_66 : decode cX6_octet 66 = .ok (.iconst 1, 1) := by decide +kernel
theorem dX6_octet_67 : decode cX6_octet 67 = .ok (.bastore, 1) := by decide +kernel
theorem dX6_octet_68 : decode cX6_octet 68 = .ok (.bipush (-2), 2) := by decide +kernel
theorem dX6_octet_70 : decode cX6_octet 70 = .ok (.ireturn, 1) := by decide +kernel
theorem dX6_octet_71 : decode cX6_octet 71 = .ok (.aload_n 0, 1) := by decide +kernel
theorem dX6_octet_72 : decode cX6_octet 72 = .ok (.getfield 13, 3) := by decide +kernel
theorem dX6_octet_75 : decode cX6_octet 75 = .ok (.bipush 60, 2) := by decide +kernel
theorem dX6_octet_77 : decode cX6_octet 77 = .ok (.iload_n 1, 1) := by decide +kernel
theorem dX6_octet_78 : decode cX6_octet 78 = .ok (.imul, 1) := by decide +kernel
theorem dX6_octet_79 : decode cX6_octet 79 = .ok (.aload_n 0, 1) := by decide +kernel
theorem dX6_octet_80 : decode cX6_octet 80 = .ok (.getfield 7, 3) := by decide +kernel
theorem dX6_octet_83 : decode cX6_octet 83 = .ok (.iload_n 1, 1) := by decide +kernel
theorem dX6_octet_84 : decode cX6_octet 84 = .ok (.iaload, 1) := by decide +kernel
theorem dX6_octet_85 : decode cX6_octet 85 = .ok (.iadd, 1) := by decide +kernel
theorem dX6_octet_86 : decode cX6_octet 86 = .ok (.iload_n 2, 1) := by decide +kernel
theorem dX6_octet_87 : decode cX6_octet 87 = .ok (.i2b, 1) := by decide +kernel
theorem dX6_octet_88 : decode cX6_octet 88 = .ok (.bastore, 1) := by decide +kernel
theorem dX6_octet_89 : decode cX6_octet 89 = .ok (.aload_n 0, 1) := by decide +kernel
theorem dX6_octet_90 : decode cX6_octet 90 = .ok (.getfield 7, 3) := by decide +kernel
theorem dX6_octet_93 : decode cX6_octet 93 = .ok (.iload_n 1, 1) := by decide +kernel
theorem dX6_octet_94 : decode cX6_octet 94 = .ok (.dup2, 1) := by decide +kernel
theorem dX6_octet_95 : decode cX6_octet 95 = .ok (.iaload, 1) := by decide +kernel
theorem dX6_octet_96 : decode cX6_octet 96 = .ok (.iconst 1, 1) := by decide +kernel
theorem dX6_octet_97 : decode cX6_octet 97 = .ok (.iadd, 1) := by decide +kernel
theorem dX6_octet_98 : decode cX6_octet 98 = .ok (.iastore, 1) := by decide +kernel
theorem dX6_octet_99 : decode cX6_octet 99 = .ok (.aload_n 0, 1) := by decide +kernel
theorem dX6_octet_100 : decode cX6_octet 100 = .ok (.getfield 7, 3) := by decide +kernel
theorem dX6_octet_103 : decode cX6_octet 103 = .ok (.iload_n 1, 1) := by decide +kernel
theorem dX6_octet_104 : decode cX6_octet 104 = .ok (.iaload, 1) := by decide +kernel
theorem dX6_octet_105 : decode cX6_octet 105 = .ok (.ireturn, 1) := by decide +kernel
theorem dX6_answer_0 : decode cX6_answer 0 = .ok (.aload_n 0, 1) := by decide +kernel
theorem dX6_answer_1 : decode cX6_answer 1 = .ok (.iload_n 1, 1) := by decide +kernel
theorem dX6_answer_2 : decode cX6_answer 2 = .ok (.invokestatic 171, 3) := by decide +kernel
theorem dX6_answer_5 : decode cX6_answer 5 = .ok (.ifCond .eq 23, 3) := by decide +kernel
theorem dX6_answer_8 : decode cX6_answer 8 = .ok (.iload_n 2, 1) := by decide +kernel
theorem dX6_answer_9 : decode cX6_answer 9 = .ok (.iconst 0, 1) := by decide +kernel
theorem dX6_answer_10 : decode cX6_answer 10 = .ok (.aload_n 0, 1) := by decide +kernel
theorem dX6_answer_11 : decode cX6_answer 11 = .ok (.getfield 30, 3) := by decide +kernel
theorem dX6_answer_14 : decode cX6_answer 14 = .ok (.iload_n 1, 1) := by decide +kernel
theorem dX6_answer_15 : decode cX6_answer 15 = .ok (.iaload, 1) := by decide +kernel
theorem dX6_answer_16 : decode cX6_answer 16 = .ok (.iconst 1, 1) := by decide +kernel
theorem dX6_answer_17 : decode cX6_answer 17 = .ok (.isub, 1) := by decide +kernel
theorem dX6_answer_18 : decode cX6_answer 18 = .ok (.invokestatic 76, 3) := by decide +kernel
theorem dX6_answer_21 : decode cX6_answer 21 = .ok (.ifCond .eq 7, 3) := by decide +kernel
theorem dX6_answer_24 : decode cX6_answer 24 = .ok (.iconst 0, 1) := by decide +kernel
theorem dX6_answer_25 : decode cX6_answer 25 = .ok (.goto 4, 3) := by decide +kernel
theorem dX6_answer_28 : decode cX6_answer 28 = .ok (.iconst 1, 1) := by decide +kernel
theorem dX6_answer_29 : decode cX6_answer 29 = .ok (.putfield 72, 3) := by decide +kernel
theorem dX6_answer_32 : decode cX6_answer 32 = .ok (.aload_n 0, 1) := by decide +kernel
theorem dX6_answer_33 : decode cX6_answer 33 = .ok (.getfield 72, 3) := by decide +kernel
theorem dX6_answer_36 : decode cX6_answer 36 = .ok (.ifCond .le 7, 3) := by decide +kernel
theorem dX6_answer_39 : decode cX6_answer 39 = .ok (.iconst 0, 1) := by decide +kernel
theorem dX6_answer_40 : decode cX6_answer 40 = .ok (.goto 14, 3) := by decide +kernel
theorem dX6_answer_43 : decode cX6_answer 43 = .ok (.aload_n 0, 1) := by decide +kernel
theorem dX6_answer_44 : decode cX6_answer 44 = .ok (.getfield 33, 3) := by decide +kernel
theorem dX6_answer_47 : decode cX6_answer 47 = .ok (.bipush 30, 2) := by decide +kernel
theorem dX6_answer_49 : decode cX6_answer 49 = .ok (.iload_n 1, 1) := by decide +kernel
theorem dX6_answer_50 : decode cX6_answer 50 = .ok (.imul, 1) := by decide +kernel
theorem dX6_answer_51 : decode cX6_answer 51 = .ok (.iload_n 2, 1) := by decide +kernel
theorem dX6_answer_52 : decode cX6_answer 52 = .ok (.iadd, 1) := by decide +kernel
theorem dX6_answer_53 : decode cX6_answer 53 = .ok (.baload, 1) := by decide +kernel
theorem dX6_answer_54 : decode cX6_answer 54 = .ok (.ireturn, 1) := by decide +kernel
theorem dX6_reset_0 : decode cX6_reset 0 = .ok (.aload_n 0, 1) := by decide +kernel
theorem dX6_reset_1 : decode cX6_reset 1 = .ok (.iconst 0, 1) := by decide +kernel
theorem dX6_reset_2 : decode cX6_reset 2 = .ok (.putfield 72, 3) := by decide +kernel
theorem dX6_reset_5 : decode cX6_reset 5 = .ok (.iload_n 1, 1) := by decide +kernel
theorem dX6_reset_6 : decode cX6_reset 6 = .ok (.invokestatic 171, 3) := by decide +kernel
theorem dX6_reset_9 : decode cX6_reset 9 = .ok (.ifCond .ne 5, 3) := by decide +kernel
theorem dX6_reset_12 : decode cX6_reset 12 = .ok (.iconst (-1), 1) := by decide +kernel
theorem dX6_reset_13 : decode cX6_reset 13 = .ok (.ireturn, 1) := by decide +kernel
theorem dX6_reset_14 : decode cX6_reset 14 = .ok (.aload_n 0, 1) := by decide +kernel
theorem dX6_reset_15 : decode cX6_reset 15 = .ok (.getfield 7, 3) := by decide +kernel
theorem dX6_reset_18 : decode cX6_reset 18 = .ok (.iload_n 1, 1) := by decide +kernel
theorem dX6_reset_19 : decode cX6_reset 19 = .ok (.iaload, 1) := by decide +kernel
theorem dX6_reset_20 : decode cX6_reset 20 = .ok (.istore_n 2, 1) := by decide +kernel
theorem dX6_reset_21 : decode cX6_reset 21 = .ok (.aload_n 0, 1) := by decide +kernel
theorem dX6_reset_22 : decode cX6_reset 22 = .ok (.getfield 7, 3) := by decide +kernel
theorem dX6_reset_25 : decode cX6_reset 25 = .ok (.iload_n 1, 1) := by decide +kernel
theorem dX6_reset_26 : decode cX6_reset 26 = .ok (.iconst 0, 1) := by decide +kernel
theorem dX6_reset_27 : decode cX6_reset 27 = .ok (.iastore, 1) := by decide +kernel
theorem dX6_reset_28 : decode cX6_reset 28 = .ok (.aload_n 0, 1) := by decide +kernel
theorem dX6_reset_29 : decode cX6_reset 29 = .ok (.getfield 17, 3) := by decide +kernel
theorem dX6_reset_32 : decode cX6_reset 32 = .ok (.iload_n 1, 1) := by decide +kernel
theorem dX6_reset_33 : decode cX6_reset 33 = .ok (.iconst 0, 1) := by decide +kernel
theorem dX6_reset_34 : decode cX6_reset 34 = .ok (.bastore, 1) := by decide +kernel
theorem dX6_reset_35 : decode cX6_reset 35 = .ok (.aload_n 0, 1) := by decide +kernel
theorem dX6_reset_36 : decode cX6_reset 36 = .ok (.getfield 21, 3) := by decide +kernel
theorem dX6_reset_39 : decode cX6_reset 39 = .ok (.iload_n 1, 1) := by decide +kernel
theorem dX6_reset_40 : decode cX6_reset 40 = .ok (.iconst 0, 1) := by decide +kernel
theorem dX6_reset_41 : decode cX6_reset 41 = .ok (.bastore, 1) := by decide +kernel
theorem dX6_reset_42 : decode cX6_reset 42 = .ok (.aload_n 0, 1) := by decide +kernel
theorem dX6_reset_43 : decode cX6_reset 43 = .ok (.getfield 24, 3) := by decide +kernel
theorem dX6_reset_46 : decode cX6_reset 46 = .ok (.iload_n 1, 1) := by decide +kernel
theorem dX6_reset_47 : decode cX6_reset 47 = .ok (.iconst (-1), 1) := by decide +kernel
theorem dX6_reset_48 : decode cX6_reset 48 = .ok (.iastore, 1) := by decide +kernel
theorem dX6_reset_49 : decode cX6_reset 49 = .ok (.aload_n 0, 1) := by decide +kernel
theorem dX6_reset_50 : decode cX6_reset 50 = .ok (.getfield 30, 3) := by decide +kernel
theorem dX6_reset_53 : decode cX6_reset 53 = .ok (.iload_n 1, 1) := by decide +kernel
theorem dX6_reset_54 : decode cX6_reset 54 = .ok (.iconst 0, 1) := by decide +kernel
theorem dX6_reset_55 : decode cX6_reset 55 = .ok (.iastore, 1) := by decide +kernel
theorem dX6_reset_56 : decode cX6_reset 56 = .ok (.aload_n 0, 1) := by decide +kernel
theorem dX6_reset_57 : decode cX6_reset 57 = .ok (.getfield 36, 3) := by decide +kernel
theorem dX6_reset_60 : decode cX6_reset 60 = .ok (.iload_n 1, 1) := by decide +kernel
theorem dX6_reset_61 : decode cX6_reset 61 = .ok (.iconst 0, 1) := by decide +kernel
theorem dX6_reset_62 : decode cX6_reset 62 = .ok (.iastore, 1) := by decide +kernel
theorem dX6_reset_63 : decode cX6_reset 63 = .ok (.aload_n 0, 1) := by decide +kernel
theorem dX6_reset_64 : decode cX6_reset 64 = .ok (.getfield 27, 3) := by decide +kernel
theorem dX6_reset_67 : decode cX6_reset 67 = .ok (.iload_n 1, 1) := by decide +kernel
theorem dX6_reset_68 : decode cX6_reset 68 = .ok (.iconst 0, 1) := by decide +kernel
theorem dX6_reset_69 : decode cX6_reset 69 = .ok (.iastore, 1) := by decide +kernel
theorem dX6_reset_70 : decode cX6_reset 70 = .ok (.iload_n 2, 1) := by decide +kernel
theorem dX6_reset_71 : decode cX6_reset 71 = .ok (.ireturn, 1) := by decide +kernel
theorem dX6_offline_0 : decode cX6_offline 0 = .ok (.aload_n 0, 1) := by decide +kernel
theorem dX6_offline_1 : decode cX6_offline 1 = .ok (.iconst 0, 1) := by decide +kernel
theorem dX6_offline_2 : decode cX6_offline 2 = .ok (.putfield 72, 3) := by decide +kernel
theorem dX6_offline_5 : decode cX6_offline 5 = .ok (.iload_n 1, 1) := by decide +kernel
theorem dX6_offline_6 : decode cX6_offline 6 = .ok (.invokestatic 171, 3) := by decide +kernel
theorem dX6_offline_9 : decode cX6_offline 9 = .ok (.ifCond .eq 33, 3) := by decide +kernel
theorem dX6_offline_12 : decode cX6_offline 12 = .ok (.iload_n 2, 1) := by decide +kernel
theorem dX6_offline_13 : decode cX6_offline 13 = .ok (.iconst 0, 1) := by decide +kernel
theorem dX6_offline_14 : decode cX6_offline 14 = .ok (.iconst 1, 1) := by decide +kernel
theorem dX6_offline_15 : decode cX6_offline 15 = .ok (.invokestatic 76, 3) := by decide +kernel
theorem dX6_offline_18 : decode cX6_offline 18 = .ok (.ifCond .eq 24, 3) := by decide +kernel
theorem dX6_offline_21 : decode cX6_offline 21 = .ok (.iload_n 3, 1) := by decide +kernel
theorem dX6_offline_22 : decode cX6_offline 22 = .ok (.iconst 0, 1) := by decide +kernel
theorem dX6_offline_23 : decode cX6_offline 23 = .ok (.bipush 29, 2) := by decide +kernel
theorem dX6_offline_25 : decode cX6_offline 25 = .ok (.invokestatic 76, 3) := by decide +kernel
theorem dX6_offline_28 : decode cX6_offline 28 = .ok (.ifCond .eq 14, 3) := by decide +kernel
theorem dX6_offline_31 : decode cX6_offline 31 = .ok (.iload 4, 2) := by decide +kernel
theorem dX6_offline_33 : decode cX6_offline 33 = .ok (.iconst 0, 1) := by decide +kernel
theorem dX6_offline_34 : decode cX6_offline 34 = .ok (.bipush 29, 2) := by decide +kernel
theorem dX6_offline_36 : decode cX6_offline 36 = .ok (.invokestatic 76, 3) := by decide +kernel
theorem dX6_offline_39 : decode cX6_offline 39 = .ok (.ifCond .ne 5, 3) := by decide +kernel
theorem dX6_offline_42 : decode cX6_offline 42 = .ok (.iconst (-1), 1) := by decide +kernel
theorem dX6_offline_43 : decode cX6_offline 43 = .ok (.ireturn, 1) := by decide +kernel
theorem dX6_offline_44 : decode cX6_offline 44 = .ok (.aload_n 0, 1) := by decide +kernel
theorem dX6_offline_45 : decode cX6_offline 45 = .ok (.getfield 42, 3) := by decide +kernel
theorem dX6_offline_48 : decode cX6_offline 48 = .ok (.iload_n 1, 1) := by decide +kernel
theorem dX6_offline_49 : decode cX6_offline 49 = .ok (.iaload, 1) := by decide +kernel
theorem dX6_offline_50 : decode cX6_offline 50 = .ok (.bipush 20, 2) := by decide +kernel
theorem dX6_offline_52 : decode cX6_offline 52 = .ok (.if_icmp .ne 6, 3) := by decide +kernel
theorem dX6_offline_55 : decode cX6_offline 55 = .ok (.bipush (-2), 2) := by decide +kernel
theorem dX6_offline_57 : decode cX6_offline 57 = .ok (.ireturn, 1) := by decide +kernel
theorem dX6_offline_58 : decode cX6_offline 58 = .ok (.bipush 20, 2) := by decide +kernel
theorem dX6_offline_60 : decode cX6_offline 60 = .ok (.iload_n 1, 1) := by decide +kernel
theorem dX6_offline_61 : decode cX6_offline 61 = .ok (.imul, 1) := by decide +kernel
theorem dX6_offline_62 : decode cX6_offline 62 = .ok (.aload_n 0, 1) := by decide +kernel
theorem dX6_offline_63 : decode cX6_offline 63 = .ok (.getfield 42, 3) := by decide +kernel
theorem dX6_offline_66 : decode cX6_offline 66 = .ok (.iload_n 1, 1) := by decide +kernel
theorem dX6_offline_67 : decode cX6_offline 67 = .ok (.iaload, 1) := by decide +kernel
theorem dX6_offline_68 : decode cX6_offline 68 = .ok (.iadd, 1) := by decide +kernel
theorem dX6_offline_69 : decode cX6_offline 69 = .ok (.istore 5, 2) := by decide +kernel
theorem dX6_offline_71 : decode cX6_offline 71 = .ok (.aload_n 0, 1) := by decide +kernel
theorem dX6_offline_72 : decode cX6_offline 72 = .ok (.getfield 45, 3) := by decide +kernel
theorem dX6_offline_75 : decode cX6_offline 75 = .ok (.iload 5, 2) := by decide +kernel
theorem dX6_offline_77 : decode cX6_offline 77 = .ok (.iload_n 2, 1) := by decide +kernel
theorem dX6_offline_78 : decode cX6_offline 78 = .ok (.iastore, 1) := by decide +kernel
theorem dX6_offline_79 : decode cX6_offline 79 = .ok (.aload_n 0, 1) := by decide +kernel
theorem dX6_offline_80 : decode cX6_offline 80 = .ok (.getfield 48, 3) := by decide +kernel
theorem dX6_offline_83 : decode cX6_offline 83 = .ok (.iload 5, 2) := by decide +kernel
theorem dX6_offline_85 : decode cX6_offline 85 = .ok (.iload_n 3, 1) := by decide +kernel
theorem dX6_offline_86 : decode cX6_offline 86 = .ok (.iastore, 1) := by decide +kernel
theorem dX6_offline_87 : decode cX6_offline 87 = .ok (.aload_n 0, 1) := by decide +kernel
theorem dX6_offline_88 : decode cX6_offline 88 = .ok (.getfield 51, 3) := by decide +kernel
theorem dX6_offline_91 : decode cX6_offline 91 = .ok (.iload 5, 2) := by decide +kernel
theorem dX6_offline_93 : decode cX6_offline 93 = .ok (.iload 4, 2) := by decide +kernel
theorem dX6_offline_95 : decode cX6_offline 95 = .ok (.iastore, 1) := by decide +kernel
theorem dX6_offline_96 : decode cX6_offline 96 = .ok (.aload_n 0, 1) := by decide +kernel
theorem dX6_offline_97 : decode cX6_offline 97 = .ok (.getfield 42, 3) := by decide +kernel
theorem dX6_offline_100 : decode cX6_offline 100 = .ok (.iload_n 1, 1) := by decide +kernel
theorem dX6_offline_101 : decode cX6_offline 101 = .ok (.dup2, 1) := by decide +kernel
theorem dX6_offline_102 : decode cX6_offline 102 = .ok (.iaload, 1) := by decide +kernel
theorem dX6_offline_103 : decode cX6_offline 103 = .ok (.iconst 1, 1) := by decide +kernel
theorem dX6_offline_104 : decode cX6_offline 104 = .ok (.iadd, 1) := by decide +kernel
theorem dX6_offline_105 : decode cX6_offline 105 = .ok (.iastore, 1) := by decide +kernel
theorem dX6_offline_106 : decode cX6_offline 106 = .ok (.aload_n 0, 1) := by decide +kernel
theorem dX6_offline_107 : decode cX6_offline 107 = .ok (.getfield 42, 3) := by decide +kernel
theorem dX6_offline_110 : decode cX6_offline 110 = .ok (.iload_n 1, 1) := by decide +kernel
theorem dX6_offline_111 : decode cX6_offline 111 = .ok (.iaload, 1) := by decide +kernel
theorem dX6_offline_112 : decode cX6_offline 112 = .ok (.ireturn, 1) := by decide +kernel
theorem dX6_join_0 : decode cX6_join 0 = .ok (.aload_n 0, 1) := by decide +kernel
theorem dX6_join_1 : decode cX6_join 1 = .ok (.iconst 0, 1) := by decide +kernel
theorem dX6_join_2 : decode cX6_join 2 = .ok (.putfield 72, 3) := by decide +kernel
theorem dX6_join_5 : decode cX6_join 5 = .ok (.iload_n 1, 1) := by decide +kernel
theorem dX6_join_6 : decode cX6_join 6 = .ok (.invokestatic 171, 3) := by decide +kernel
theorem dX6_join_9 : decode cX6_join 9 = .ok (.ifCond .ne 5, 3) := by decide +kernel
theorem dX6_join_12 : decode cX6_join 12 = .ok (.iconst (-1), 1) := by decide +kernel
theorem dX6_join_13 : decode cX6_join 13 = .ok (.ireturn, 1) := by decide +kernel
theorem dX6_join_14 : decode cX6_join 14 = .ok (.iconst 0, 1) := by decide +kernel
theorem dX6_join_15 : decode cX6_join 15 = .ok (.istore_n 2, 1) := by decide +kernel
theorem dX6_join_16 : decode cX6_join 16 = .ok (.bipush 20, 2) := by decide +kernel
theorem dX6_join_18 : decode cX6_join 18 = .ok (.iload_n 1, 1) := by decide +kernel
theorem dX6_join_19 : decode cX6_join 19 = .ok (.imul, 1) := by decide +kernel
theorem dX6_join_20 : decode cX6_join 20 = .ok (.istore_n 3, 1) := by decide +kernel
theorem dX6_join_21 : decode cX6_join 21 = .ok (.iload_n 3, 1) := by decide +kernel
theorem dX6_join_22 : decode cX6_join 22 = .ok (.bipush 20, 2) := by decide +kernel
theorem dX6_join_24 : decode cX6_join 24 = .ok (.iload_n 1, 1) := by decide +kernel
theorem dX6_join_25 : decode cX6_join 25 = .ok (.imul, 1) := by decide +kernel
theorem dX6_join_26 : decode cX6_join 26 = .ok (.aload_n 0, 1) := by decide +kernel
theorem dX6_join_27 : decode cX6_join 27 = .ok (.getfield 42, 3) := by decide +kernel
theorem dX6_join_30 : decode cX6_join 30 = .ok (.iload_n 1, 1) := by decide +kernel
theorem dX6_join_31 : decode cX6_join 31 = .ok (.iaload, 1) := by decide +kernel
theorem dX6_join_32 : decode cX6_join 32 = .ok (.iadd, 1) := by decide +kernel
theorem dX6_join_33 : decode cX6_join 33 = .ok (.if_icmp .ge 75, 3) := by decide +kernel
theorem dX6_join_36 : decode cX6_join 36 = .ok (.aload_n 0, 1) := by decide +kernel
theorem dX6_join_37 : decode cX6_join 37 = .ok (.aload_n 0, 1) := by decide +kernel
theorem dX6_join_38 : decode cX6_join 38 = .ok (.getfield 48, 3) := by decide +kernel
theorem dX6_join_41 : decode cX6_join 41 = .ok (.iload_n 3, 1) := by decide +kernel
theorem dX6_join_42 : decode cX6_join 42 = .ok (.iaload, 1) := by decide +kernel
theorem dX6_join_43 : decode cX6_join 43 = .ok (.putfield 110, 3) := by decide +kernel
theorem dX6_join_46 : decode cX6_join 46 = .ok (.aload_n 0, 1) := by decide +kernel
theorem dX6_join_47 : decode cX6_join 47 = .ok (.aload_n 0, 1) := by decide +kernel
theorem dX6_join_48 : decode cX6_join 48 = .ok (.getfield 51, 3) := by decide +kernel
theorem dX6_join_51 : decode cX6_join 51 = .ok (.iload_n 3, 1) := by decide +kernel
theorem dX6_join_52 : decode cX6_join 52 = .ok (.iaload, 1) := by decide +kernel
theorem dX6_join_53 : decode cX6_join 53 = .ok (.putfield 104, 3) := by decide +kernel
theorem dX6_join_56 : decode cX6_join 56 = .ok (.aload_n 0, 1) := by decide +kernel
theorem dX6_join_57 : decode cX6_join 57 = .ok (.getfield 45, 3) := by decide +kernel
theorem dX6_join_60 : decode cX6_join 60 = .ok (.iload_n 3, 1) := by decide +kernel
theorem dX6_join_61 : decode cX6_join 61 = .ok (.iaload, 1) := by decide +kernel
theorem dX6_join_62 : decode cX6_join 62 = .ok (.ifCond .ne 12, 3) := by decide +kernel
theorem dX6_join_65 : decode cX6_join 65 = .ok (.aload_n 0, 1) := by decide +kernel
theorem dX6_join_66 : decode cX6_join 66 = .ok (.iload_n 1, 1) := by decide +kernel
theorem dX6_join_67 : decode cX6_join 67 = .ok (.iconst (-1), 1) := by decide +kernel
theorem dX6_join_68 : decode cX6_join 68 = .ok (.invokevirtual 162, 3) := by decide +kernel
theorem dX6_join_71 : decode cX6_join 71 = .ok (.goto 9, 3) := by decide +kernel
theorem dX6_join_74 : decode cX6_join 74 = .ok (.aload_n 0, 1) := by decide +kernel
theorem dX6_join_75 : decode cX6_join 75 = .ok (.iload_n 1, 1) := by decide +kernel
theorem dX6_join_76 : decode cX6_join 76 = .ok (.iconst (-1), 1) := by decide +kernel
theorem dX6_join_77 : decode cX6_join 77 = .ok (.invokevirtual 165, 3) := by decide +kernel
theorem dX6_join_80 : decode cX6_join 80 = .ok (.istore 4, 2) := by decide +kernel
theorem dX6_join_82 : decode cX6_join 82 = .ok (.iload_n 2, 1) := by decide +kernel
theorem dX6_join_83 : decode cX6_join 83 = .ok (.aload_n 0, 1) := by decide +kernel
theorem dX6_join_84 : decode cX6_join 84 = .ok (.getfield 148, 3) := by decide +kernel
theorem dX6_join_87 : decode cX6_join 87 = .ok (.ifCond .eq 12, 3) := by decide +kernel
theorem dX6_join_90 : decode cX6_join 90 = .ok (.iload 4, 2) := by decide +kernel
theorem dX6_join_92 : decode cX6_join 92 = .ok (.ifCond .lt 7, 3) := by decide +kernel
theorem dX6_join_95 : decode cX6_join 95 = .ok (.iconst 1, 1) := by decide +kernel
theorem dX6_join_96 : decode cX6_join 96 = .ok (.goto 4, 3) := by decide +kernel
theorem dX6_join_99 : decode cX6_join 99 = .ok (.iconst 0, 1) := by decide +kernel
theorem dX6_join_100 : decode cX6_join 100 = .ok (.iadd, 1) := by decide +kernel
theorem dX6_join_101 : decode cX6_join 101 = .ok (.istore_n 2, 1) := by decide +kernel
theorem dX6_join_102 : decode cX6_join 102 = .ok (.iinc 3 1, 3) := by decide +kernel
theorem dX6_join_105 : decode cX6_join 105 = .ok (.goto (-84), 3) := by decide +kernel
theorem dX6_join_108 : decode cX6_join 108 = .ok (.aload_n 0, 1) := by decide +kernel
theorem dX6_join_109 : decode cX6_join 109 = .ok (.getfield 42, 3) := by decide +kernel
theorem dX6_join_112 : decode cX6_join 112 = .ok (.iload_n 1, 1) := by decide +kernel
theorem dX6_join_113 : decode cX6_join 113 = .ok (.iconst 0, 1) := by decide +kernel
theorem dX6_join_114 : decode cX6_join 114 = .ok (.iastore, 1) := by decide +kernel
theorem dX6_join_115 : decode cX6_join 115 = .ok (.iload_n 2, 1) := by decide +kernel
theorem dX6_join_116 : decode cX6_join 116 = .ok (.ireturn, 1) := by decide +kernel
theorem dX6_owes_0 : decode cX6_owes 0 = .ok (.aload_n 0, 1) := by decide +kernel
theorem dX6_owes_1 : decode cX6_owes 1 = .ok (.iconst 0, 1) := by decide +kernel
theorem dX6_owes_2 : decode cX6_owes 2 = .ok (.putfield 72, 3) := by decide +kernel
theorem dX6_owes_5 : decode cX6_owes 5 = .ok (.iload_n 1, 1) := by decide +kernel
theorem dX6_owes_6 : decode cX6_owes 6 = .ok (.iconst 0, 1) := by decide +kernel
theorem dX6_owes_7 : decode cX6_owes 7 = .ok (.bipush 29, 2) := by decide +kernel
theorem dX6_owes_9 : decode cX6_owes 9 = .ok (.invokestatic 76, 3) := by decide +kernel
theorem dX6_owes_12 : decode cX6_owes 12 = .ok (.ifCond .eq 13, 3) := by decide +kernel
theorem dX6_owes_15 : decode cX6_owes 15 = .ok (.iload_n 2, 1) := by decide +kernel
theorem dX6_owes_16 : decode cX6_owes 16 = .ok (.iconst 0, 1) := by decide +kernel
theorem dX6_owes_17 : decode cX6_owes 17 = .ok (.ldc 176, 2) := by decide +kernel
theorem dX6_owes_19 : decode cX6_owes 19 = .ok (.invokestatic 76, 3) := by decide +kernel
theorem dX6_owes_22 : decode cX6_owes 22 = .ok (.ifCond .ne 5, 3) := by decide +kernel
theorem dX6_owes_25 : decode cX6_owes 25 = .ok (.iconst (-1), 1) := by decide +kernel
theorem dX6_owes_26 : decode cX6_owes 26 = .ok (.ireturn, 1) := by decide +kernel
theorem dX6_owes_27 : decode cX6_owes 27 = .ok (.aload_n 0, 1) := by decide +kernel
theorem dX6_owes_28 : decode cX6_owes 28 = .ok (.getfield 54, 3) := by decide +kernel
theorem dX6_owes_31 : decode cX6_owes 31 = .ok (.iload_n 1, 1) := by decide +kernel
theorem dX6_owes_32 : decode cX6_owes 32 = .ok (.iaload, 1) := by decide +kernel
theorem dX6_owes_33 : decode cX6_owes 33 = .ok (.istore_n 3, 1) := by decide +kernel
theorem dX6_owes_34 : decode cX6_owes 34 = .ok (.aload_n 0, 1) := by decide +kernel
theorem dX6_owes_35 : decode cX6_owes 35 = .ok (.getfield 54, 3) := by decide +kernel
theorem dX6_owes_38 : decode cX6_owes 38 = .ok (.iload_n 1, 1) := by decide +kernel
theorem dX6_owes_39 : decode cX6_owes 39 = .ok (.iload_n 2, 1) := by decide +kernel
theorem dX6_owes_40 : decode cX6_owes 40 = .ok (.iastore, 1) := by decide +kernel
theorem dX6_owes_41 : decode cX6_owes 41 = .ok (.iload_n 3, 1) := by decide +kernel
theorem dX6_owes_42 : decode cX6_owes 42 = .ok (.ireturn, 1) := by decide +kernel
theorem dX6_acts_0 : decode cX6_acts 0 = .ok (.aload_n 0, 1) := by decide +kernel
theorem dX6_acts_1 : decode cX6_acts 1 = .ok (.iconst 0, 1) := by decide +kernel
theorem dX6_acts_2 : decode cX6_acts 2 = .ok (.putfield 72, 3) := by decide +kernel
theorem dX6_acts_5 : decode cX6_acts 5 = .ok (.aload_n 0, 1) := by decide +kernel
theorem dX6_acts_6 : decode cX6_acts 6 = .ok (.getfield 152, 3) := by decide +kernel
theorem dX6_acts_9 : decode cX6_acts 9 = .ok (.ireturn, 1) := by decide +kernel
theorem dX6_act_0 : decode cX6_act 0 = .ok (.aload_n 0, 1) := by decide +kernel
theorem dX6_act_1 : decode cX6_act 1 = .ok (.iconst 0, 1) := by decide +kernel
theorem dX6_act_2 : decode cX6_act 2 = .ok (.putfield 72, 3) := by decide +kernel
theorem dX6_act_5 : decode cX6_act 5 = .ok (.iload_n 1, 1) := by decide +kernel
theorem dX6_act_6 : decode cX6_act 6 = .ok (.iconst 0, 1) := by decide +kernel
theorem dX6_act_7 : decode cX6_act 7 = .ok (.aload_n 0, 1) := by decide +kernel
theorem dX6_act_8 : decode cX6_act 8 = .ok (.getfield 152, 3) := by decide +kernel
theorem dX6_act_11 : decode cX6_act 11 = .ok (.iconst 1, 1) := by decide +kernel
theorem dX6_act_12 : decode cX6_act 12 = .ok (.isub, 1) := by decide +kernel
theorem dX6_act_13 : decode cX6_act 13 = .ok (.invokestatic 76, 3) := by decide +kernel
theorem dX6_act_16 : decode cX6_act 16 = .ok (.ifCond .eq 32, 3) := by decide +kernel
theorem dX6_act_19 : decode cX6_act 19 = .ok (.iload_n 1, 1) := by decide +kernel
theorem dX6_act_20 : decode cX6_act 20 = .ok (.sipush 1000, 3) := by decide +kernel
theorem dX6_act_23 : decode cX6_act 23 = .ok (.if_icmp .ge 25, 3) := by decide +kernel
theorem dX6_act_26 : decode cX6_act 26 = .ok (.iload_n 2, 1) := by decide +kernel
theorem dX6_act_27 : decode cX6_act 27 = .ok (.iconst 0, 1) := by decide +kernel
theorem dX6_act_28 : decode cX6_act 28 = .ok (.iconst 4, 1) := by decide +kernel
theorem dX6_act_29 : decode cX6_act 29 = .ok (.invokestatic 76, 3) := by decide +kernel
theorem dX6_act_32 : decode cX6_act 32 = .ok (.ifCond .eq 16, 3) := by decide +kernel
theorem dX6_act_35 : decode cX6_act 35 = .ok (.aload_n 0, 1) := by decide +kernel
theorem dX6_act_36 : decode cX6_act 36 = .ok (.getfield 69, 3) := by decide +kernel
theorem dX6_act_39 : decode cX6_act 39 = .ok (.iconst 5, 1) := by decide +kernel
theorem dX6_act_40 : decode cX6_act 40 = .ok (.iload_n 1, 1) := by decide +kernel
theorem dX6_act_41 : decode cX6_act 41 = .ok (.imul, 1) := by decide +kernel
theorem dX6_act_42 : decode cX6_act 42 = .ok (.iload_n 2, 1) := by decide +kernel
theorem dX6_act_43 : decode cX6_act 43 = .ok (.iadd, 1) := by decide +kernel
theorem dX6_act_44 : decode cX6_act 44 = .ok (.iaload, 1) := by decide +kernel
theorem dX6_act_45 : decode cX6_act 45 = .ok (.goto 4, 3) := by decide +kernel
theorem dX6_act_48 : decode cX6_act 48 = .ok (.iconst (-1), 1) := by decide +kernel
theorem dX6_act_49 : decode cX6_act 49 = .ok (.ireturn, 1) := by decide +kernel
theorem dX6_sum_0 : decode cX6_sum 0 = .ok (.aload_n 0, 1) := by decide +kernel
theorem dX6_sum_1 : decode cX6_sum 1 = .ok (.iconst 0, 1) := by decide +kernel
theorem dX6_sum_2 : decode cX6_sum 2 = .ok (.putfield 72, 3) := by decide +kernel
theorem dX6_sum_5 : decode cX6_sum 5 = .ok (.iload_n 1, 1) := by decide +kernel
theorem dX6_sum_6 : decode cX6_sum 6 = .ok (.ifCond .ge 15, 3) := by decide +kernel
theorem dX6_sum_9 : decode cX6_sum 9 = .ok (.aload_n 0, 1) := by decide +kernel
theorem dX6_sum_10 : decode cX6_sum 10 = .ok (.getfield 177, 3) := by decide +kernel
theorem dX6_sum_13 : decode cX6_sum 13 = .ok (.istore_n 2, 1) := by decide +kernel
theorem dX6_sum_14 : decode cX6_sum 14 = .ok (.aload_n 0, 1) := by decide +kernel
theorem dX6_sum_15 : decode cX6_sum 15 = .ok (.iconst 0, 1) := by decide +kernel
theorem dX6_sum_16 : decode cX6_sum 16 = .ok (.putfield 177, 3) := by decide +kernel
theorem dX6_sum_19 : decode cX6_sum 19 = .ok (.iload_n 2, 1) := by decide +kernel
theorem dX6_sum_20 : decode cX6_sum 20 = .ok (.ireturn, 1) := by decide +kernel
theorem dX6_sum_21 : decode cX6_sum 21 = .ok (.aload_n 0, 1) := by decide +kernel
theorem dX6_sum_22 : decode cX6_sum 22 = .ok (.aload_n 0, 1) := by decide +kernel
theorem dX6_sum_23 : decode cX6_sum 23 = .ok (.getfield 177, 3) := by decide +kernel
theorem dX6_sum_26 : decode cX6_sum 26 = .ok (.iload_n 1, 1) := by decide +kernel
theorem dX6_sum_27 : decode cX6_sum 27 = .ok (.sipush 255, 3) := by decide +kernel
theorem dX6_sum_30 : decode cX6_sum 30 = .ok (.iand, 1) := by decide +kernel
theorem dX6_sum_31 : decode cX6_sum 31 = .ok (.iadd, 1) := by decide +kernel
theorem dX6_sum_32 : decode cX6_sum 32 = .ok (.sipush 256, 3) := by decide +kernel
theorem dX6_sum_35 : decode cX6_sum 35 = .ok (.irem, 1) := by decide +kernel
theorem dX6_sum_36 : decode cX6_sum 36 = .ok (.putfield 177, 3) := by decide +kernel
theorem dX6_sum_39 : decode cX6_sum 39 = .ok (.aload_n 0, 1) := by decide +kernel
theorem dX6_sum_40 : decode cX6_sum 40 = .ok (.getfield 177, 3) := by decide +kernel
theorem dX6_sum_43 : decode cX6_sum 43 = .ok (.ireturn, 1) := by decide +kernel
theorem dX6_state_0 : decode cX6_state 0 = .ok (.aload_n 0, 1) := by decide +kernel
theorem dX6_state_1 : decode cX6_state 1 = .ok (.iconst 0, 1) := by decide +kernel
theorem dX6_state_2 : decode cX6_state 2 = .ok (.putfield 72, 3) := by decide +kernel
theorem dX6_state_5 : decode cX6_state 5 = .ok (.iload_n 1, 1) := by decide +kernel
theorem dX6_state_6 : decode cX6_state 6 = .ok (.invokestatic 171, 3) := by decide +kernel
theorem dX6_state_9 : decode cX6_state 9 = .ok (.ifCond .ne 5, 3) := by decide +kernel
theorem dX6_state_12 : decode cX6_state 12 = .ok (.iconst (-1), 1) := by decide +kernel
theorem dX6_state_13 : decode cX6_state 13 = .ok (.ireturn, 1) := by decide +kernel
theorem dX6_state_14 : decode cX6_state 14 = .ok (.iload_n 2, 1) := by decide +kernel
theorem dX6_state_15 : decode cX6_state 15 = .ok (.tableswitch 84 0 4 #[33, 40, 55, 70, 77], 33) := by decide +kernel
theorem dX6_state_48 : decode cX6_state 48 = .ok (.aload_n 0, 1) := by decide +kernel
theorem dX6_state_49 : decode cX6_state 49 = .ok (.getfield 24, 3) := by decide +kernel
theorem dX6_state_52 : decode cX6_state 52 = .ok (.iload_n 1, 1) := by decide +kernel
theorem dX6_state_53 : decode cX6_state 53 = .ok (.iaload, 1) := by decide +kernel
theorem dX6_state_54 : decode cX6_state 54 = .ok (.ireturn, 1) := by decide +kernel
theorem dX6_state_55 : decode cX6_state 55 = .ok (.aload_n 0, 1) := by decide +kernel
theorem dX6_state_56 : decode cX6_state 56 = .ok (.getfield 21, 3) := by decide +kernel
theorem dX6_state_59 : decode cX6_state 59 = .ok (.iload_n 1, 1) := by decide +kernel
theorem dX6_state_60 : decode cX6_state 60 = .ok (.baload, 1) := by decide +kernel
theorem dX6_state_61 : decode cX6_state 61 = .ok (.ifCond .eq 7, 3) := by decide +kernel
theorem dX6_state_64 : decode cX6_state 64 = .ok (.iconst 1, 1) := by decide +kernel
theorem dX6_state_65 : decode cX6_state 65 = .ok (.goto 4, 3) := by decide +kernel
theorem dX6_state_68 : decode cX6_state 68 = .ok (.iconst 0, 1) := by decide +kernel
theorem dX6_state_69 : decode cX6_state 69 = .ok (.ireturn, 1) := by decide +kernel
theorem dX6_state_70 : decode cX6_state 70 = .ok (.aload_n 0, 1) := by decide +kernel
theorem dX6_state_71 : decode cX6_state 71 = .ok (.getfield 17, 3) := by decide +kernel
theorem dX6_state_74 : decode cX6_state 74 = .ok (.iload_n 1, 1) := by decide +kernel
theorem dX6_state_75 : decode cX6_state 75 = .ok (.baload, 1) := by decide +kernel
theorem dX6_state_76 : decode cX6_state 76 = .ok (.ifCond .eq 7, 3) := by decide +kernel
theorem dX6_state_79 : decode cX6_state 79 = .ok (.iconst 1, 1) := by decide +kernel
theorem dX6_state_80 : decode cX6_state 80 = .ok (.goto 4, 3) := by decide +kernel
theorem dX6_state_83 : decode cX6_state 83 = .ok (.iconst 0, 1) := by decide +kernel
theorem dX6_state_84 : decode cX6_state 84 = .ok (.ireturn, 1) := by decide +kernel
theorem dX6_state_85 : decode cX6_state 85 = .ok (.aload_n 0, 1) := by decide +kernel
theorem dX6_state_86 : decode cX6_state 86 = .ok (.getfield 42, 3) := by decide +kernel
theorem dX6_state_89 : decode cX6_state 89 = .ok (.iload_n 1, 1) := by decide +kernel
theorem dX6_state_90 : decode cX6_state 90 = .ok (.iaload, 1) := by decide +kernel
theorem dX6_state_91 : decode cX6_state 91 = .ok (.ireturn, 1) := by decide +kernel
theorem dX6_state_92 : decode cX6_state 92 = .ok (.aload_n 0, 1) := by decide +kernel
theorem dX6_state_93 : decode cX6_state 93 = .ok (.getfield 27, 3) := by decide +kernel
theorem dX6_state_96 : decode cX6_state 96 = .ok (.iload_n 1, 1) := by decide +kernel
theorem dX6_state_97 : decode cX6_state 97 = .ok (.iaload, 1) := by decide +kernel
theorem dX6_state_98 : decode cX6_state 98 = .ok (.ireturn, 1) := by decide +kernel
theorem dX6_state_99 : decode cX6_state 99 = .ok (.iconst (-1), 1) := by decide +kernel
theorem dX6_state_100 : decode cX6_state 100 = .ok (.ireturn, 1) := by decide +kernel
theorem dX6_waits_0 : decode cX6_waits 0 = .ok (.aload_n 0, 1) := by decide +kernel
theorem dX6_waits_1 : decode cX6_waits 1 = .ok (.iconst 0, 1) := by decide +kernel
theorem dX6_waits_2 : decode cX6_waits 2 = .ok (.putfield 72, 3) := by decide +kernel
theorem dX6_waits_5 : decode cX6_waits 5 = .ok (.iload_n 1, 1) := by decide +kernel
theorem dX6_waits_6 : decode cX6_waits 6 = .ok (.iconst 0, 1) := by decide +kernel
theorem dX6_waits_7 : decode cX6_waits 7 = .ok (.bipush 29, 2) := by decide +kernel
theorem dX6_waits_9 : decode cX6_waits 9 = .ok (.invokestatic 76, 3) := by decide +kernel
theorem dX6_waits_12 : decode cX6_waits 12 = .ok (.ifCond .eq 33, 3) := by decide +kernel
theorem dX6_waits_15 : decode cX6_waits 15 = .ok (.iload_n 2, 1) := by decide +kernel
theorem dX6_waits_16 : decode cX6_waits 16 = .ok (.iconst 0, 1) := by decide +kernel
theorem dX6_waits_17 : decode cX6_waits 17 = .ok (.aload_n 0, 1) := by decide +kernel
theorem dX6_waits_18 : decode cX6_waits 18 = .ok (.getfield 63, 3) := by decide +kernel
theorem dX6_waits_21 : decode cX6_waits 21 = .ok (.iload_n 1, 1) := by decide +kernel
theorem dX6_waits_22 : decode cX6_waits 22 = .ok (.iaload, 1) := by decide +kernel
theorem dX6_waits_23 : decode cX6_waits 23 = .ok (.iconst 1, 1) := by decide +kernel
theorem dX6_waits_24 : decode cX6_waits 24 = .ok (.isub, 1) := by decide +kernel
theorem dX6_waits_25 : decode cX6_waits 25 = .ok (.invokestatic 76, 3) := by decide +kernel
theorem dX6_waits_28 : decode cX6_waits 28 = .ok (.ifCond .eq 17, 3) := by decide +kernel
theorem dX6_waits_31 : decode cX6_waits 31 = .ok (.aload_n 0, 1) := by decide +kernel
theorem dX6_waits_32 : decode cX6_waits 32 = .ok (.getfield 66, 3) := by decide +kernel
theorem dX6_waits_35 : decode cX6_waits 35 = .ok (.bipush 30, 2) := by decide +kernel
theorem dX6_waits_37 : decode cX6_waits 37 = .ok (.iload_n 1, 1) := by decide +kernel
theorem dX6_waits_38 : decode cX6_waits 38 = .ok (.imul, 1) := by decide +kernel
theorem dX6_waits_39 : decode cX6_waits 39 = .ok (.iload_n 2, 1) := by decide +kernel
theorem dX6_waits_40 : decode cX6_waits 40 = .ok (.iadd, 1) := by decide +kernel
theorem dX6_waits_41 : decode cX6_waits 41 = .ok (.iaload, 1) := by decide +kernel
theorem dX6_waits_42 : decode cX6_waits 42 = .ok (.goto 4, 3) := by decide +kernel
theorem dX6_waits_45 : decode cX6_waits 45 = .ok (.iconst (-1), 1) := by decide +kernel
theorem dX6_waits_46 : decode cX6_waits 46 = .ok (.ireturn, 1) := by decide +kernel
