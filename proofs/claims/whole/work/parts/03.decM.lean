theorem dX6_init_0 : decode cX6_init 0 = .ok (.aload_n 0, 1) := by decide +kernel
theorem dX6_init_1 : decode cX6_init 1 = .ok (.invokespecial 1, 3) := by decide +kernel
theorem dX6_init_4 : decode cX6_init 4 = .ok (.aload_n 0, 1) := by decide +kernel
theorem dX6_init_5 : decode cX6_init 5 = .ok (.bipush 6, 2) := by decide +kernel
theorem dX6_init_7 : decode cX6_init 7 = .ok (.newarray .int, 2) := by decide +kernel
theorem dX6_init_9 : decode cX6_init 9 = .ok (.dup, 1) := by decide +kernel
theorem dX6_init_10 : decode cX6_init 10 = .ok (.iconst 0, 1) := by decide +kernel
theorem dX6_init_11 : decode cX6_init 11 = .ok (.iconst 0, 1) := by decide +kernel
theorem dX6_init_12 : decode cX6_init 12 = .ok (.iastore, 1) := by decide +kernel
theorem dX6_init_13 : decode cX6_init 13 = .ok (.dup, 1) := by decide +kernel
theorem dX6_init_14 : decode cX6_init 14 = .ok (.iconst 1, 1) := by decide +kernel
theorem dX6_init_15 : decode cX6_init 15 = .ok (.iconst 1, 1) := by decide +kernel
theorem dX6_init_16 : decode cX6_init 16 = .ok (.iastore, 1) := by decide +kernel
theorem dX6_init_17 : decode cX6_init 17 = .ok (.dup, 1) := by decide +kernel
theorem dX6_init_18 : decode cX6_init 18 = .ok (.iconst 2, 1) := by decide +kernel
theorem dX6_init_19 : decode cX6_init 19 = .ok (.iconst 2, 1) := by decide +kernel
theorem dX6_init_20 : decode cX6_init 20 = .ok (.iastore, 1) := by decide +kernel
theorem dX6_init_21 : decode cX6_init 21 = .ok (.dup, 1) := by decide +kernel
theorem dX6_init_22 : decode cX6_init 22 = .ok (.iconst 3, 1) := by decide +kernel
theorem dX6_init_23 : decode cX6_init 23 = .ok (.iconst 3, 1) := by decide +kernel
theorem dX6_init_24 : decode cX6_init 24 = .ok (.iastore, 1) := by decide +kernel
theorem dX6_init_25 : decode cX6_init 25 = .ok (.dup, 1) := by decide +kernel
theorem dX6_init_26 : decode cX6_init 26 = .ok (.iconst 4, 1) := by decide +kernel
theorem dX6_init_27 : decode cX6_init 27 = .ok (.iconst 4, 1) := by decide +kernel
theorem dX6_init_28 : decode cX6_init 28 = .ok (.iastore, 1) := by decide +kernel
theorem dX6_init_29 : decode cX6_init 29 = .ok (.dup, 1) := by decide +kernel
theorem dX6_init_30 : decode cX6_init 30 = .ok (.iconst 5, 1) := by decide +kernel
theorem dX6_init_31 : decode cX6_init 31 = .ok (.iconst 5, 1) := by decide +kernel
theorem dX6_init_32 : decode cX6_init 32 = .ok (.iastore, 1) := by decide +kernel
theorem dX6_init_33 : decode cX6_init 33 = .ok (.putfield 7, 3) := by decide +kernel
theorem dX6_init_36 : decode cX6_init 36 = .ok (.aload_n 0, 1) := by decide +kernel
theorem dX6_init_37 : decode cX6_init 37 = .ok (.iconst 5, 1) := by decide +kernel
theorem dX6_init_38 : decode cX6_init 38 = .ok (.newarray .int, 2) := by decide +kernel
theorem dX6_init_40 : decode cX6_init 40 = .ok (.putfield 13, 3) := by decide +kernel
theorem dX6_init_43 : decode cX6_init 43 = .ok (.aload_n 0, 1) := by decide +kernel
theorem dX6_init_44 : decode cX6_init 44 = .ok (.iconst 4, 1) := by decide +kernel
theorem dX6_init_45 : decode cX6_init 45 = .ok (.newarray .int, 2) := by decide +kernel
theorem dX6_init_47 : decode cX6_init 47 = .ok (.putfield 16, 3) := by decide +kernel
theorem dX6_init_50 : decode cX6_init 50 = .ok (.aload_n 0, 1) := by decide +kernel
theorem dX6_init_51 : decode cX6_init 51 = .ok (.iconst 5, 1) := by decide +kernel
theorem dX6_init_52 : decode cX6_init 52 = .ok (.newarray .int, 2) := by decide +kernel
theorem dX6_init_54 : decode cX6_init 54 = .ok (.putfield 19, 3) := by decide +kernel
theorem dX6_init_57 : decode cX6_init 57 = .ok (.aload_n 0, 1) := by decide +kernel
theorem dX6_init_58 : decode cX6_init 58 = .ok (.iconst 4, 1) := by decide +kernel
theorem dX6_init_59 : decode cX6_init 59 = .ok (.newarray .int, 2) := by decide +kernel
theorem dX6_init_61 : decode cX6_init 61 = .ok (.putfield 22, 3) := by decide +kernel
theorem dX6_init_64 : decode cX6_init 64 = .ok (.aload_n 0, 1) := by decide +kernel
theorem dX6_init_65 : decode cX6_init 65 = .ok (.iconst 4, 1) := by decide +kernel
theorem dX6_init_66 : decode cX6_init 66 = .ok (.newarray .int, 2) := by decide +kernel
theorem dX6_init_68 : decode cX6_init 68 = .ok (.putfield 25, 3) := by decide +kernel
theorem dX6_init_71 : decode cX6_init 71 = .ok (.aload_n 0, 1) := by decide +kernel
theorem dX6_init_72 : decode cX6_init 72 = .ok (.iconst 4, 1) := by decide +kernel
theorem dX6_init_73 : decode cX6_init 73 = .ok (.newarray .int, 2) := by decide +kernel
theorem dX6_init_75 : decode cX6_init 75 = .ok (.putfield 28, 3) := by decide +kernel
theorem dX6_init_78 : decode cX6_init 78 = .ok (.aload_n 0, 1) := by decide +kernel
theorem dX6_init_79 : decode cX6_init 79 = .ok (.iconst 4, 1) := by decide +kernel
theorem dX6_init_80 : decode cX6_init 80 = .ok (.newarray .int, 2) := by decide +kernel
theorem dX6_init_82 : decode cX6_init 82 = .ok (.putfield 31, 3) := by decide +kernel
theorem dX6_init_85 : decode cX6_init 85 = .ok (.aload_n 0, 1) := by decide +kernel
theorem dX6_init_86 : decode cX6_init 86 = .ok (.iconst 4, 1) := by decide +kernel
theorem dX6_init_87 : decode cX6_init 87 = .ok (.newarray .int, 2) := by decide +kernel
theorem dX6_init_89 : decode cX6_init 89 = .ok (.putfield 34, 3) := by decide +kernel
theorem dX6_init_92 : decode cX6_init 92 = .ok (.aload_n 0, 1) := by decide +kernel
theorem dX6_init_93 : decode cX6_init 93 = .ok (.bipush 6, 2) := by decide +kernel
theorem dX6_init_95 : decode cX6_init 95 = .ok (.newarray .int, 2) := by decide +kernel
theorem dX6_init_97 : decode cX6_init 97 = .ok (.putfield 37, 3) := by decide +kernel
theorem dX6_init_100 : decode cX6_init 100 = .ok (.aload_n 0, 1) := by decide +kernel
theorem dX6_init_101 : decode cX6_init 101 = .ok (.bipush 14, 2) := by decide +kernel
theorem dX6_init_103 : decode cX6_init 103 = .ok (.newarray .byte, 2) := by decide +kernel
theorem dX6_init_105 : decode cX6_init 105 = .ok (.putfield 40, 3) := by decide +kernel
theorem dX6_init_108 : decode cX6_init 108 = .ok (.aload_n 0, 1) := by decide +kernel
theorem dX6_init_109 : decode cX6_init 109 = .ok (.iconst 5, 1) := by decide +kernel
theorem dX6_init_110 : decode cX6_init 110 = .ok (.newarray .int, 2) := by decide +kernel
theorem dX6_init_112 : decode cX6_init 112 = .ok (.putfield 44, 3) := by decide +kernel
theorem dX6_init_115 : decode cX6_init 115 = .ok (.aload_n 0, 1) := by decide +kernel
theorem dX6_init_116 : decode cX6_init 116 = .ok (.iconst 5, 1) := by decide +kernel
theorem dX6_init_117 : decode cX6_init 117 = .ok (.newarray .int, 2) := by decide +kernel
theorem dX6_init_119 : decode cX6_init 119 = .ok (.putfield 47, 3) := by decide +kernel
theorem dX6_init_122 : decode cX6_init 122 = .ok (.aload_n 0, 1) := by decide +kernel
theorem dX6_init_123 : decode cX6_init 123 = .ok (.sipush 640, 3) := by decide +kernel
theorem dX6_init_126 : decode cX6_init 126 = .ok (.newarray .long, 2) := by decide +kernel
theorem dX6_init_128 : decode cX6_init 128 = .ok (.putfield 50, 3) := by decide +kernel
theorem dX6_init_131 : decode cX6_init 131 = .ok (.aload_n 0, 1) := by decide +kernel
theorem dX6_init_132 : decode cX6_init 132 = .ok (.iconst 4, 1) := by decide +kernel
theorem dX6_init_133 : decode cX6_init 133 = .ok (.newarray .long, 2) := by decide +kernel
theorem dX6_init_135 : decode cX6_init 135 = .ok (.putfield 54, 3) := by decide +kernel
theorem dX6_init_138 : decode cX6_init 138 = .ok (.aload_n 0, 1) := by decide +kernel
theorem dX6_init_139 : decode cX6_init 139 = .ok (.iconst 4, 1) := by decide +kernel
theorem dX6_init_140 : decode cX6_init 140 = .ok (.newarray .int, 2) := by decide +kernel
theorem dX6_init_142 : decode cX6_init 142 = .ok (.putfield 57, 3) := by decide +kernel
theorem dX6_init_145 : decode cX6_init 145 = .ok (.aload_n 0, 1) := by decide +kernel
theorem dX6_init_146 : decode cX6_init 146 = .ok (.iconst 4, 1) := by decide +kernel
theorem dX6_init_147 : decode cX6_init 147 = .ok (.newarray .int, 2) := by decide +kernel
theorem dX6_init_149 : decode cX6_init 149 = .ok (.putfield 60, 3) := by decide +kernel
theorem dX6_init_152 : decode cX6_init 152 = .ok (.aload_n 0, 1) := by decide +kernel
theorem dX6_init_153 : decode cX6_init 153 = .ok (.iconst 4, 1) := by decide +kernel
theorem dX6_init_154 : decode cX6_init 154 = .ok (.newarray .int, 2) := by decide +kernel
theorem dX6_init_156 : decode cX6_init 156 = .ok (.putfield 63, 3) := by decide +kernel
theorem dX6_init_159 : decode cX6_init 159 = .ok (.aload_n 0, 1) := by decide +kernel
theorem dX6_init_160 : decode cX6_init 160 = .ok (.bipush 6, 2) := by decide +kernel
theorem dX6_init_162 : decode cX6_init 162 = .ok (.newarray .int, 2) := by decide +kernel
theorem dX6_init_164 : decode cX6_init 164 = .ok (.putfield 66, 3) := by decide +kernel
theorem dX6_init_167 : decode cX6_init 167 = .ok (.return_, 1) := by decide +kernel
theorem dX6_within_0 : decode cX6_within 0 = .ok (.iload_n 0, 1) := by decide +kernel
theorem dX6_within_1 : decode cX6_within 1 = .ok (.iload_n 1, 1) := by decide +kernel
theorem dX6_within_2 : decode cX6_within 2 = .ok (.if_icmp .lt 12, 3) := by decide +kernel
theorem dX6_within_5 : decode cX6_within 5 = .ok (.iload_n 0, 1) := by decide +kernel
theorem dX6_within_6 : decode cX6_within 6 = .ok (.iload_n 2, 1) := by decide +kernel
theorem dX6_within_7 : decode cX6_within 7 = .ok (.if_icmp .gt 7, 3) := by decide +kernel
theorem dX6_within_10 : decode cX6_within 10 = .ok (.iconst 1, 1) := by decide +kernel
theorem dX6_within_11 : decode cX6_within 11 = .ok (.goto 4, 3) := by decide +kernel
theorem dX6_within_14 : decode cX6_within 14 = .ok (.iconst 0, 1) := by decide +kernel
theorem dX6_within_15 : decode cX6_within 15 = .ok (.ireturn, 1) := by decide +kernel
theorem dX6_letter_0 : decode cX6_letter 0 = .ok (.iload_n 1, 1) := by decide +kernel
theorem dX6_letter_1 : decode cX6_letter 1 = .ok (.bipush 32, 2) := by decide +kernel
theorem dX6_letter_3 : decode cX6_letter 3 = .ok (.bipush 126, 2) := by decide +kernel
theorem dX6_letter_5 : decode cX6_letter 5 = .ok (.invokestatic 69, 3) := by decide +kernel
theorem dX6_letter_8 : decode cX6_letter 8 = .ok (.ifCond .ne 6, 3) := by decide +kernel
theorem dX6_letter_11 : decode cX6_letter 11 = .ok (.bipush (-102), 2) := by decide +kernel
theorem dX6_letter_13 : decode cX6_letter 13 = .ok (.ireturn, 1) := by decide +kernel
theorem dX6_letter_14 : decode cX6_letter 14 = .ok (.aload_n 0, 1) := by decide +kernel
theorem dX6_letter_15 : decode cX6_letter 15 = .ok (.getfield 73, 3) := by decide +kernel
theorem dX6_letter_18 : decode cX6_letter 18 = .ok (.bipush 14, 2) := by decide +kernel
theorem dX6_letter_20 : decode cX6_letter 20 = .ok (.if_icmp .ne 6, 3) := by decide +kernel
theorem dX6_letter_23 : decode cX6_letter 23 = .ok (.bipush (-104), 2) := by decide +kernel
theorem dX6_letter_25 : decode cX6_letter 25 = .ok (.ireturn, 1) := by decide +kernel
theorem dX6_letter_26 : decode cX6_letter 26 = .ok (.aload_n 0, 1) := by decide +kernel
theorem dX6_letter_27 : decode cX6_letter 27 = .ok (.getfield 40, 3) := by decide +kernel
theorem dX6_letter_30 : decode cX6_letter 30 = .ok (.aload_n 0, 1) := by decide +kernel
theorem dX6_letter_31 : decode cX6_letter 31 = .ok (.getfield 73, 3) := by decide +kernel
theorem dX6_letter_34 : decode cX6_letter 34 = .ok (.iload_n 1, 1) := by decide +kernel
theorem dX6_letter_35 : decode cX6_letter 35 = .ok (.i2b, 1) := by decide +kernel
theorem dX6_letter_36 : decode cX6_letter 36 = .ok (.bastore, 1) := by decide +kernel
theorem dX6_letter_37 : decode cX6_letter 37 = .ok (.aload_n 0, 1) := by decide +kernel
theorem dX6_letter_38 : decode cX6_letter 38 = .ok (.dup, 1) := by decide +kernel
theorem dX6_letter_39 : decode cX6_letter 39 = .ok (.getfield 73, 3) := by decide +kernel
theorem dX6_letter_42 : decode cX6_letter 42 = .ok (.iconst 1, 1) := by decide +kernel
theorem dX6_letter_43 : decode cX6_letter 43 = .ok (.iadd, 1) := by decide +kernel
theorem dX6_letter_44 : decode cX6_letter 44 = .ok (.putfield 73, 3) := by decide +kernel
theorem dX6_letter_47 : decode cX6_letter 47 = .ok (.aload_n 0, 1) := by decide +kernel
theorem dX6_letter_48 : decode cX6_letter 48 = .ok (.getfield 73, 3) := by decide +kernel
theorem dX6_letter_51 : decode cX6_letter 51 = .ok (.ireturn, 1) := by decide +kernel
theorem dX6_blank_0 : decode cX6_blank 0 = .ok (.aload_n 0, 1) := by decide +kernel
theorem dX6_blank_1 : decode cX6_blank 1 = .ok (.getfield 73, 3) := by decide +kernel
theorem dX6_blank_4 : decode cX6_blank 4 = .ok (.istore_n 1, 1) := by decide +kernel
theorem dX6_blank_5 : decode cX6_blank 5 = .ok (.aload_n 0, 1) := by decide +kernel
theorem dX6_blank_6 : decode cX6_blank 6 = .ok (.iconst 0, 1) := by decide +kernel
theorem dX6_blank_7 : decode cX6_blank 7 = .ok (.putfield 73, 3) := by decide +kernel
theorem dX6_blank_10 : decode cX6_blank 10 = .ok (.iload_n 1, 1) := by decide +kernel
theorem dX6_blank_11 : decode cX6_blank 11 = .ok (.ireturn, 1) := by decide +kernel
theorem dX6_nextState_0 : decode cX6_nextState 0 = .ok (.iload_n 1, 1) := by decide +kernel
theorem dX6_nextState_1 : decode cX6_nextState 1 = .ok (.iconst 2, 1) := by decide +kernel
theorem dX6_nextState_2 : decode cX6_nextState 2 = .ok (.if_icmp .ne 61, 3) := by decide +kernel
theorem dX6_nextState_5 : decode cX6_nextState 5 = .ok (.iload_n 2, 1) := by decide +kernel
theorem dX6_nextState_6 : decode cX6_nextState 6 = .ok (.bipush 38, 2) := by decide +kernel
theorem dX6_nextState_8 : decode cX6_nextState 8 = .ok (.if_icmp .eq 9, 3) := by decide +kernel
theorem dX6_nextState_11 : decode cX6_nextState 11 = .ok (.iload_n 2, 1) := by decide +kernel
theorem dX6_nextState_12 : decode cX6_nextState 12 = .ok (.bipush 43, 2) := by decide +kernel
theorem dX6_nextState_14 : decode cX6_nextState 14 = .ok (.if_icmp .ne 15, 3) := by decide +kernel
theorem dX6_nextState_17 : decode cX6_nextState 17 = .ok (.aload_n 0, 1) := by decide +kernel
theorem dX6_nextState_18 : decode cX6_nextState 18 = .ok (.getfield 77, 3) := by decide +kernel
theorem dX6_nextState_21 : decode cX6_nextState 21 = .ok (.iconst 4, 1) := by decide +kernel
theorem dX6_nextState_22 : decode cX6_nextState 22 = .ok (.if_icmp .ge 7, 3) := by decide +kernel
theorem dX6_nextState_25 : decode cX6_nextState 25 = .ok (.iconst 1, 1) := by decide +kernel
theorem dX6_nextState_26 : decode cX6_nextState 26 = .ok (.goto 4, 3) := by decide +kernel
theorem dX6_nextState_29 : decode cX6_nextState 29 = .ok (.iconst 0, 1) := by decide +kernel
theorem dX6_nextState_30 : decode cX6_nextState 30 = .ok (.istore_n 3, 1) := by decide +kernel
theorem dX6_nextState_31 : decode cX6_nextState 31 = .ok (.aload_n 0, 1) := by decide +kernel
theorem dX6_nextState_32 : decode cX6_nextState 32 = .ok (.getfield 47, 3) := by decide +kernel
theorem dX6_nextState_35 : decode cX6_nextState 35 = .ok (.aload_n 0, 1) := by decide +kernel
theorem dX6_nextState_36 : decode cX6_nextState 36 = .ok (.getfield 77, 3) := by decide +kernel
theorem dX6_nextState_39 : decode cX6_nextState 39 = .ok (.iconst 1, 1) := by decide +kernel
theorem dX6_nextState_40 : decode cX6_nextState 40 = .ok (.isub, 1) := by decide +kernel
theorem dX6_nextState_41 : decode cX6_nextState 41 = .ok (.iload_n 2, 1) := by decide +kernel
theorem dX6_nextState_42 : decode cX6_nextState 42 = .ok (.bipush 43, 2) := by decide +kernel
theorem dX6_nextState_44 : decode cX6_nextState 44 = .ok (.if_icmp .ne 7, 3) := by decide +kernel
theorem dX6_nextState_47 : decode cX6_nextState 47 = .ok (.iconst 1, 1) := by decide +kernel
theorem dX6_nextState_48 : decode cX6_nextState 48 = .ok (.goto 4, 3) := by decide +kernel
theorem dX6_nextState_51 : decode cX6_nextState 51 = .ok (.iconst 0, 1) := by decide +kernel
theorem dX6_nextState_52 : decode cX6_nextState 52 = .ok (.iastore, 1) := by decide +kernel
theorem dX6_nextState_53 : decode cX6_nextState 53 = .ok (.iload_n 3, 1) := by decide +kernel
theorem dX6_nextState_54 : decode cX6_nextState 54 = .ok (.ifCond .eq 7, 3) := by decide +kernel
theorem dX6_nextState_57 : decode cX6_nextState 57 = .ok (.iconst 0, 1) := by decide +kernel
theorem dX6_nextState_58 : decode cX6_nextState 58 = .ok (.goto 4, 3) := by decide +kernel
theorem dX6_nextState_61 : decode cX6_nextState 61 = .ok (.iconst (-1), 1) := by decide +kernel
theorem dX6_nextState_62 : decode cX6_nextState 62 = .ok (.ireturn, 1) := by decide +kernel
theorem dX6_nextState_63 : decode cX6_nextState 63 = .ok (.iload_n 1, 1) := by decide +kernel
theorem dX6_nextState_64 : decode cX6_nextState 64 = .ok (.ifCond .ne 11, 3) := by decide +kernel
theorem dX6_nextState_67 : decode cX6_nextState 67 = .ok (.iload_n 2, 1) := by decide +kernel
theorem dX6_nextState_68 : decode cX6_nextState 68 = .ok (.bipush 110, 2) := by decide +kernel
theorem dX6_nextState_70 : decode cX6_nextState 70 = .ok (.if_icmp .ne 5, 3) := by decide +kernel
theorem dX6_nextState_73 : decode cX6_nextState 73 = .ok (.iconst 1, 1) := by decide +kernel
theorem dX6_nextState_74 : decode cX6_nextState 74 = .ok (.ireturn, 1) := by decide +kernel
theorem dX6_nextState_75 : decode cX6_nextState 75 = .ok (.iload_n 2, 1) := by decide +kernel
theorem dX6_nextState_76 : decode cX6_nextState 76 = .ok (.bipush 97, 2) := by decide +kernel
theorem dX6_nextState_78 : decode cX6_nextState 78 = .ok (.bipush 102, 2) := by decide +kernel
theorem dX6_nextState_80 : decode cX6_nextState 80 = .ok (.invokestatic 69, 3) := by decide +kernel
theorem dX6_nextState_83 : decode cX6_nextState 83 = .ok (.ifCond .ne 5, 3) := by decide +kernel
theorem dX6_nextState_86 : decode cX6_nextState 86 = .ok (.iconst (-1), 1) := by decide +kernel
theorem dX6_nextState_87 : decode cX6_nextState 87 = .ok (.ireturn, 1) := by decide +kernel
theorem dX6_nextState_88 : decode cX6_nextState 88 = .ok (.aload_n 0, 1) := by decide +kernel
theorem dX6_nextState_89 : decode cX6_nextState 89 = .ok (.getfield 44, 3) := by decide +kernel
theorem dX6_nextState_92 : decode cX6_nextState 92 = .ok (.aload_n 0, 1) := by decide +kernel
theorem dX6_nextState_93 : decode cX6_nextState 93 = .ok (.getfield 77, 3) := by decide +kernel
theorem dX6_nextState_96 : decode cX6_nextState 96 = .ok (.iconst 2, 1) := by decide +kernel
theorem dX6_nextState_97 : decode cX6_nextState 97 = .ok (.iload_n 2, 1) := by decide +kernel
theorem dX6_nextState_98 : decode cX6_nextState 98 = .ok (.bipush 97, 2) := by decide +kernel
theorem dX6_nextState_100 : decode cX6_nextState 100 = .ok (.isub, 1) := by decide +kernel
theorem dX6_nextState_101 : decode cX6_nextState 101 = .ok (.imul, 1) := by decide +kernel
theorem dX6_nextState_102 : decode cX6_nextState 102 = .ok (.iload_n 1, 1) := by decide +kernel
theorem dX6_nextState_103 : decode cX6_nextState 103 = .ok (.iadd, 1) := by decide +kernel
theorem dX6_nextState_104 : decode cX6_nextState 104 = .ok (.iastore, 1) := by decide +kernel
theorem dX6_nextState_105 : decode cX6_nextState 105 = .ok (.aload_n 0, 1) := by decide +kernel
theorem dX6_nextState_106 : decode cX6_nextState 106 = .ok (.dup, 1) := by decide +kernel
theorem dX6_nextState_107 : decode cX6_nextState 107 = .ok (.getfield 77, 3) := by decide +kernel
theorem dX6_nextState_110 : decode cX6_nextState 110 = .ok (.iconst 1, 1) := by decide +kernel
theorem dX6_nextState_111 : decode cX6_nextState 111 = .ok (.iadd, 1) := by decide +kernel
theorem dX6_nextState_112 : decode cX6_nextState 112 = .ok (.putfield 77, 3) := by decide +kernel
theorem dX6_nextState_115 : decode cX6_nextState 115 = .ok (.iconst 2, 1) := by decide +kernel
theorem dX6_nextState_116 : decode cX6_nextState 116 = .ok (.ireturn, 1) := by decide +kernel
theorem dX6_readSaying_0 : decode cX6_readSaying 0 = .ok (.aload_n 0, 1) := by decide +kernel
theorem dX6_readSaying_1 : decode cX6_readSaying 1 = .ok (.iconst 0, 1) := by decide +kernel
theorem dX6_readSaying_2 : decode cX6_readSaying 2 = .ok (.putfield 77, 3) := by decide +kernel
theorem dX6_readSaying_5 : decode cX6_readSaying 5 = .ok (.iconst 0, 1) := by decide +kernel
theorem dX6_readSaying_6 : decode cX6_readSaying 6 = .ok (.istore_n 1, 1) := by decide +kernel
theorem dX6_readSaying_7 : decode cX6_readSaying 7 = .ok (.iconst 0, 1) := by decide +kernel
theorem dX6_readSaying_8 : decode cX6_readSaying 8 = .ok (.istore_n 2, 1) := by decide +kernel
theorem dX6_readSaying_9 : decode cX6_readSaying 9 = .ok (.iconst 1, 1) := by decide +kernel
theorem dX6_readSaying_10 : decode cX6_readSaying 10 = .ok (.istore_n 3, 1) := by decide +kernel
theorem dX6_readSaying_11 : decode cX6_readSaying 11 = .ok (.iload_n 2, 1) := by decide +kernel
theorem dX6_readSaying_12 : decode cX6_readSaying 12 = .ok (.aload_n 0, 1) := by decide +kernel
theorem dX6_readSaying_13 : decode cX6_readSaying 13 = .ok (.getfield 73, 3) := by decide +kernel
theorem dX6_readSaying_16 : decode cX6_readSaying 16 = .ok (.if_icmp .ge 58, 3) := by decide +kernel
theorem dX6_readSaying_19 : decode cX6_readSaying 19 = .ok (.iload_n 3, 1) := by decide +kernel
theorem dX6_readSaying_20 : decode cX6_readSaying 20 = .ok (.ifCond .eq 54, 3) := by decide +kernel
theorem dX6_readSaying_23 : decode cX6_readSaying 23 = .ok (.aload_n 0, 1) := by decide +kernel
theorem dX6_readSaying_24 : decode cX6_readSaying 24 = .ok (.iload_n 1, 1) := by decide +kernel
theorem dX6_readSaying_25 : decode cX6_readSaying 25 = .ok (.aload_n 0, 1) := by decide +kernel
theorem dX6_readSaying_26 : decode cX6_readSaying 26 = .ok (.getfield 40, 3) := by decide +kernel
theorem dX6_readSaying_29 : decode cX6_readSaying 29 = .ok (.iload_n 2, 1) := by decide +kernel
theorem dX6_readSaying_30 : decode cX6_readSaying 30 = .ok (.baload, 1) := by decide +kernel
theorem dX6_readSaying_31 : decode cX6_readSaying 31 = .ok (.invokevirtual 80, 3) := by decide +kernel
theorem dX6_readSaying_34 : decode cX6_readSaying 34 = .ok (.istore 4, 2) := by decide +kernel
theorem dX6_readSaying_36 : decode cX6_readSaying 36 = .ok (.iload 4, 2) := by decide +kernel
theorem dX6_readSaying_38 : decode cX6_readSaying 38 = .ok (.iconst (-1), 1) := by decide +kernel
theorem dX6_readSaying_39 : decode cX6_readSaying 39 = .ok (.if_icmp .eq 7, 3) := by decide +kernel
theorem dX6_readSaying_42 : decode cX6_readSaying 42 = .ok (.iconst 1, 1) := by decide +kernel
theorem dX6_readSaying_43 : decode cX6_readSaying 43 = .ok (.goto 4, 3) := by decide +kernel
theorem dX6_readSaying_46 : decode cX6_readSaying 46 = .ok (.iconst 0, 1) := by decide +kernel
theorem dX6_readSaying_47 : decode cX6_readSaying 47 = .ok (.istore_n 3, 1) := by decide +kernel
theorem dX6_readSaying_48 : decode cX6_readSaying 48 = .ok (.iload_n 3, 1) := by decide +kernel
theorem dX6_readSaying_49 : decode cX6_readSaying 49 = .ok (.ifCond .eq 8, 3) := by decide +kernel
theorem dX6_readSaying_52 : decode cX6_readSaying 52 = .ok (.iload 4, 2) := by decide +kernel
theorem dX6_readSaying_54 : decode cX6_readSaying 54 = .ok (.goto 4, 3) := by decide +kernel
theorem dX6_readSaying_57 : decode cX6_readSaying 57 = .ok (.iload_n 1, 1) := by decide +kernel
theorem dX6_readSaying_58 : decode cX6_readSaying 58 = .ok (.istore_n 1, 1) := by decide +kernel
theorem dX6_readSaying_59 : decode cX6_readSaying 59 = .ok (.iload_n 2, 1) := by decide +kernel
theorem dX6_readSaying_60 : decode cX6_readSaying 60 = .ok (.iload_n 3, 1) := by decide +kernel
theorem dX6_readSaying_61 : decode cX6_readSaying 61 = .ok (.ifCond .eq 7, 3) := by decide +kernel
theorem dX6_readSaying_64 : decode cX6_readSaying 64 = .ok (.iconst 1, 1) := by decide +kernel
theorem dX6_readSaying_65 : decode cX6_readSaying 65 = .ok (.goto 4, 3) := by decide +kernel
theorem dX6_readSaying_68 : decode cX6_readSaying 68 = .ok (.iconst 0, 1) := by decide +kernel
theorem dX6_readSaying_69 : decode cX6_readSaying 69 = .ok (.iadd, 1) := by decide +kernel
theorem dX6_readSaying_70 : decode cX6_readSaying 70 = .ok (.istore_n 2, 1) := by decide +kernel
theorem dX6_readSaying_71 : decode cX6_readSaying 71 = .ok (.goto (-60), 3) := by decide +kernel
theorem dX6_readSaying_74 : decode cX6_readSaying 74 = .ok (.aload_n 0, 1) := by decide +kernel
theorem dX6_readSaying_75 : decode cX6_readSaying 75 = .ok (.iload_n 2, 1) := by decide +kernel
theorem dX6_readSaying_76 : decode cX6_readSaying 76 = .ok (.putfield 84, 3) := by decide +kernel
theorem dX6_readSaying_79 : decode cX6_readSaying 79 = .ok (.aload_n 0, 1) := by decide +kernel
theorem dX6_readSaying_80 : decode cX6_readSaying 80 = .ok (.iload_n 2, 1) := by decide +kernel
theorem dX6_readSaying_81 : decode cX6_readSaying 81 = .ok (.aload_n 0, 1) := by decide +kernel
theorem dX6_readSaying_82 : decode cX6_readSaying 82 = .ok (.getfield 73, 3) := by decide +kernel
theorem dX6_readSaying_85 : decode cX6_readSaying 85 = .ok (.if_icmp .ne 12, 3) := by decide +kernel
theorem dX6_readSaying_88 : decode cX6_readSaying 88 = .ok (.iload_n 1, 1) := by decide +kernel
theorem dX6_readSaying_89 : decode cX6_readSaying 89 = .ok (.iconst 2, 1) := by decide +kernel
theorem dX6_readSaying_90 : decode cX6_readSaying 90 = .ok (.if_icmp .ne 7, 3) := by decide +kernel
theorem dX6_readSaying_93 : decode cX6_readSaying 93 = .ok (.iconst 1, 1) := by decide +kernel
theorem dX6_readSaying_94 : decode cX6_readSaying 94 = .ok (.goto 4, 3) := by decide +kernel
theorem dX6_readSaying_97 : decode cX6_readSaying 97 = .ok (.iconst 0, 1) := by decide +kernel
theorem dX6_readSaying_98 : decode cX6_readSaying 98 = .ok (.putfield 87, 3) := by decide +kernel
theorem dX6_readSaying_101 : decode cX6_readSaying 101 = .ok (.return_, 1) := by decide +kernel
theorem dX6_readSenses_0 : decode cX6_readSenses 0 = .ok (.iconst 0, 1) := by decide +kernel
theorem dX6_readSenses_1 : decode cX6_readSenses 1 = .ok (.istore_n 1, 1) := by decide +kernel
theorem dX6_readSenses_2 : decode cX6_readSenses 2 = .ok (.iload_n 1, 1) := by decide +kernel
theorem dX6_readSenses_3 : decode cX6_readSenses 3 = .ok (.aload_n 0, 1) := by decide +kernel
theorem dX6_readSenses_4 : decode cX6_readSenses 4 = .ok (.getfield 73, 3) := by decide +kernel
theorem dX6_readSenses_7 : decode cX6_readSenses 7 = .ok (.if_icmp .ge 31, 3) := by decide +kernel
theorem dX6_readSenses_10 : decode cX6_readSenses 10 = .ok (.iload_n 1, 1) := by decide +kernel
theorem dX6_readSenses_11 : decode cX6_readSenses 11 = .ok (.bipush 6, 2) := by decide +kernel
theorem dX6_readSenses_13 : decode cX6_readSenses 13 = .ok (.if_icmp .ge 25, 3) := by decide +kernel
theorem dX6_readSenses_16 : decode cX6_readSenses 16 = .ok (.aload_n 0, 1) := by decide +kernel
theorem dX6_readSenses_17 : decode cX6_readSenses 17 = .ok (.getfield 40, 3) := by decide +kernel
theorem dX6_readSenses_20 : decode cX6_readSenses 20 = .ok (.iload_n 1, 1) := by decide +kernel
theorem dX6_readSenses_21 : decode cX6_readSenses 21 = .ok (.baload, 1) := by decide +kernel
theorem dX6_readSenses_22 : decode cX6_readSenses 22 = .ok (.bipush 48, 2) := by decide +kernel
theorem dX6_readSenses_24 : decode cX6_readSenses 24 = .ok (.bipush 53, 2) := by decide +kernel
theorem dX6_readSenses_26 : decode cX6_readSenses 26 = .ok (.invokestatic 69, 3) := by decide +kernel
theorem dX6_readSenses_29 : decode cX6_readSenses 29 = .ok (.ifCond .eq 9, 3) := by decide +kernel
theorem dX6_readSenses_32 : decode cX6_readSenses 32 = .ok (.iinc 1 1, 3) := by decide +kernel
theorem dX6_readSenses_35 : decode cX6_readSenses 35 = .ok (.goto (-33), 3) := by decide +kernel
theorem dX6_readSenses_38 : decode cX6_readSenses 38 = .ok (.aload_n 0, 1) := by decide +kernel
theorem dX6_readSenses_39 : decode cX6_readSenses 39 = .ok (.iload_n 1, 1) := by decide +kernel
theorem dX6_readSenses_40 : decode cX6_readSenses 40 = .ok (.putfield 84, 3) := by decide +kernel
theorem dX6_readSenses_43 : decode cX6_readSenses 43 = .ok (.aload_n 0, 1) := by decide +kernel
theorem dX6_readSenses_44 : decode cX6_readSenses 44 = .ok (.iload_n 1, 1) := by decide +kernel
theorem dX6_readSenses_45 : decode cX6_readSenses 45 = .ok (.aload_n 0, 1) := by decide +kernel
theorem dX6_readSenses_46 : decode cX6_readSenses 46 = .ok (.getfield 73, 3) := by decide +kernel
theorem dX6_readSenses_49 : decode cX6_readSenses 49 = .ok (.if_icmp .ne 13, 3) := by decide +kernel
theorem dX6_readSenses_52 : decode cX6_readSenses 52 = .ok (.iload_n 1, 1) := by decide +kernel
theorem dX6_readSenses_53 : decode cX6_readSenses 53 = .ok (.bipush 6, 2) := by decide +kernel
theorem dX6_readSenses_55 : decode cX6_readSenses 55 = .ok (.if_icmp .ne 7, 3) := by decide +kernel
theorem dX6_readSenses_58 : decode cX6_readSenses 58 = .ok (.iconst 1, 1) := by decide +kernel
theorem dX6_readSenses_59 : decode cX6_readSenses 59 = .ok (.goto 4, 3) := by decide +kernel
theorem dX6_readSenses_62 : decode cX6_readSenses 62 = .ok (.iconst 0, 1) := by decide +kernel
theorem dX6_readSenses_63 : decode cX6_readSenses 63 = .ok (.putfield 87, 3) := by decide +kernel
theorem dX6_readSenses_66 : decode cX6_readSenses 66 = .ok (.return_, 1) := by decide +kernel
theorem dX6_fault_0 : decode cX6_fault 0 = .ok (.iload_n 1, 1) := by decide +kernel
theorem dX6_fault_1 : decode cX6_fault 1 = .ok (.iconst 0, 1) := by decide +kernel
theorem dX6_fault_2 : decode cX6_fault 2 = .ok (.iconst 1, 1) := by decide +kernel
theorem dX6_fault_3 : decode cX6_fault 3 = .ok (.invokestatic 69, 3) := by decide +kernel
theorem dX6_fault_6 : decode cX6_fault 6 = .ok (.ifCond .ne 6, 3) := by decide +kernel
theorem dX6_fault_9 : decode cX6_fault 9 = .ok (.bipush (-102), 2) := by decide +kernel
theorem dX6_fault_11 : decode cX6_fault 11 = .ok (.ireturn, 1) := by decide +kernel
theorem dX6_fault_12 : decode cX6_fault 12 = .ok (.iload_n 1, 1) := by decide +kernel
theorem dX6_fault_13 : decode cX6_fault 13 = .ok (.ifCond .ne 10, 3) := by decide +kernel
theorem dX6_fault_16 : decode cX6_fault 16 = .ok (.aload_n 0, 1) := by decide +kernel
theorem dX6_fault_17 : decode cX6_fault 17 = .ok (.invokevirtual 91, 3) := by decide +kernel
theorem dX6_fault_20 : decode cX6_fault 20 = .ok (.goto 7, 3) := by decide +kernel
theorem dX6_fault_23 : decode cX6_fault 23 = .ok (.aload_n 0, 1) := by decide +kernel
theorem dX6_fault_24 : decode cX6_fault 24 = .ok (.invokevirtual 94, 3) := by decide +kernel
theorem dX6_fault_27 : decode cX6_fault 27 = .ok (.aload_n 0, 1) := by decide +kernel
theorem dX6_fault_28 : decode cX6_fault 28 = .ok (.getfield 84, 3) := by decide +kernel
theorem dX6_fault_31 : decode cX6_fault 31 = .ok (.ireturn, 1) := by decide +kernel
theorem dX6_say_0 : decode cX6_say 0 = .ok (.aload_n 0, 1) := by decide +kernel
theorem dX6_say_1 : decode cX6_say 1 = .ok (.invokevirtual 91, 3) := by decide +kernel
theorem dX6_say_4 : decode cX6_say 4 = .ok (.aload_n 0, 1) := by decide +kernel
theorem dX6_say_5 : decode cX6_say 5 = .ok (.getfield 87, 3) := by decide +kernel
theorem dX6_say_8 : decode cX6_say 8 = .ok (.ifCond .ne 6, 3) := by decide +kernel
theorem dX6_say_11 : decode cX6_say 11 = .ok (.bipush (-103), 2) := by decide +kernel
theorem dX6_say_13 : decode cX6_say 13 = .ok (.ireturn, 1) := by decide +kernel
theorem dX6_say_14 : decode cX6_say 14 = .ok (.aload_n 0, 1) := by decide +kernel
theorem dX6_say_15 : decode cX6_say 15 = .ok (.aload_n 0, 1) := by decide +kernel
theorem dX6_say_16 : decode cX6_say 16 = .ok (.getfield 97, 3) := by decide +kernel
theorem dX6_say_19 : decode cX6_say 19 = .ok (.putfield 100, 3) := by decide +kernel
theorem dX6_say_22 : decode cX6_say 22 = .ok (.aload_n 0, 1) := by decide +kernel
theorem dX6_say_23 : decode cX6_say 23 = .ok (.aload_n 0, 1) := by decide +kernel
theorem dX6_say_24 : decode cX6_say 24 = .ok (.getfield 77, 3) := by decide +kernel
theorem dX6_say_27 : decode cX6_say 27 = .ok (.putfield 97, 3) := by decide +kernel
theorem dX6_say_30 : decode cX6_say 30 = .ok (.iconst 0, 1) := by decide +kernel
theorem dX6_say_31 : decode cX6_say 31 = .ok (.istore_n 1, 1) := by decide +kernel
theorem dX6_say_32 : decode cX6_say 32 = .ok (.iload_n 1, 1) := by decide +kernel
theorem dX6_say_33 : decode cX6_say 33 = .ok (.iconst 4, 1) := by decide +kernel
theorem dX6_say_34 : decode cX6_say 34 = .ok (.if_icmp .ge 33, 3) := by decide +kernel
theorem dX6_say_37 : decode cX6_say 37 = .ok (.aload_n 0, 1) := by decide +kernel
theorem dX6_say_38 : decode cX6_say 38 = .ok (.getfield 19, 3) := by decide +kernel
theorem dX6_say_41 : decode cX6_say 41 = .ok (.iload_n 1, 1) := by decide +kernel
theorem dX6_say_42 : decode cX6_say 42 = .ok (.aload_n 0, 1) := by decide +kernel
theorem dX6_say_43 : decode cX6_say 43 = .ok (.getfield 13, 3) := by decide +kernel
theorem dX6_say_46 : decode cX6_say 46 = .ok (.iload_n 1, 1) := by decide +kernel
theorem dX6_say_47 : decode cX6_say 47 = .ok (.iaload, 1) := by decide +kernel
theorem dX6_say_48 : decode cX6_say 48 = .ok (.iastore, 1) := by decide +kernel
theorem dX6_say_49 : decode cX6_say 49 = .ok (.aload_n 0, 1) := by decide +kernel
theorem dX6_say_50 : decode cX6_say 50 = .ok (.getfield 13, 3) := by decide +kernel
theorem dX6_say_53 : decode cX6_say 53 = .ok (.iload_n 1, 1) := by decide +kernel
theorem dX6_say_54 : decode cX6_say 54 = .ok (.aload_n 0, 1) := by decide +kernel
theorem dX6_say_55 : decode cX6_say 55 = .ok (.getfield 44, 3) := by decide +kernel
theorem dX6_say_58 : decode cX6_say 58 = .ok (.iload_n 1, 1) := by decide +kernel
theorem dX6_say_59 : decode cX6_say 59 = .ok (.iaload, 1) := by decide +kernel
theorem dX6_say_60 : decode cX6_say 60 = .ok (.iastore, 1) := by decide +kernel
theorem dX6_say_61 : decode cX6_say 61 = .ok (.iinc 1 1, 3) := by decide +kernel
theorem dX6_say_64 : decode cX6_say 64 = .ok (.goto (-32), 3) := by decide +kernel
theorem dX6_say_67 : decode cX6_say 67 = .ok (.iconst 0, 1) := by decide +kernel
theorem dX6_say_68 : decode cX6_say 68 = .ok (.istore_n 1, 1) := by decide +kernel
theorem dX6_say_69 : decode cX6_say 69 = .ok (.iload_n 1, 1) := by decide +kernel
theorem dX6_say_70 : decode cX6_say 70 = .ok (.iconst 3, 1) := by decide +kernel
theorem dX6_say_71 : decode cX6_say 71 = .ok (.if_icmp .ge 33, 3) := by decide +kernel
theorem dX6_say_74 : decode cX6_say 74 = .ok (.aload_n 0, 1) := by decide +kernel
theorem dX6_say_75 : decode cX6_say 75 = .ok (.getfield 22, 3) := by decide +kernel
theorem dX6_say_78 : decode cX6_say 78 = .ok (.iload_n 1, 1) := by decide +kernel
theorem dX6_say_79 : decode cX6_say 79 = .ok (.aload_n 0, 1) := by decide +kernel
theorem dX6_say_80 : decode cX6_say 80 = .ok (.getfield 16, 3) := by decide +kernel
theorem dX6_say_83 : decode cX6_say 83 = .ok (.iload_n 1, 1) := by decide +kernel
theorem dX6_say_84 : decode cX6_say 84 = .ok (.iaload, 1) := by decide +kernel
theorem dX6_say_85 : decode cX6_say 85 = .ok (.iastore, 1) := by decide +kernel
theorem dX6_say_86 : decode cX6_say 86 = .ok (.aload_n 0, 1) := by decide +kernel
theorem dX6_say_87 : decode cX6_say 87 = .ok (.getfield 16, 3) := by decide +kernel
theorem dX6_say_90 : decode cX6_say 90 = .ok (.iload_n 1, 1) := by decide +kernel
theorem dX6_say_91 : decode cX6_say 91 = .ok (.aload_n 0, 1) := by decide +kernel
theorem dX6_say_92 : decode cX6_say 92 = .ok (.getfield 47, 3) := by decide +kernel
theorem dX6_say_95 : decode cX6_say 95 = .ok (.iload_n 1, 1) := by decide +kernel
theorem dX6_say_96 : decode cX6_say 96 = .ok (.iaload, 1) := by decide +kernel
theorem dX6_say_97 : decode cX6_say 97 = .ok (.iastore, 1) := by decide +kernel
theorem dX6_say_98 : decode cX6_say 98 = .ok (.iinc 1 1, 3) := by decide +kernel
theorem dX6_say_101 : decode cX6_say 101 = .ok (.goto (-32), 3) := by decide +kernel
theorem dX6_say_104 : decode cX6_say 104 = .ok (.aload_n 0, 1) := by decide +kernel
theorem dX6_say_105 : decode cX6_say 105 = .ok (.dup, 1) := by decide +kernel
theorem dX6_say_106 : decode cX6_say 106 = .ok (.getfield 103, 3) := by decide +kernel
theorem dX6_say_109 : decode cX6_say 109 = .ok (.iconst 1, 1) := by decide +kernel
theorem dX6_say_110 : decode cX6_say 110 = .ok (.iadd, 1) := by decide +kernel
theorem dX6_say_111 : decode cX6_say 111 = .ok (.putfield 103, 3) := by decide +kernel
theorem dX6_say_114 : decode cX6_say 114 = .ok (.aload_n 0, 1) := by decide +kernel
theorem dX6_say_115 : decode cX6_say 115 = .ok (.iconst 0, 1) := by decide +kernel
theorem dX6_say_116 : decode cX6_say 116 = .ok (.putfield 73, 3) := by decide +kernel
theorem dX6_say_119 : decode cX6_say 119 = .ok (.aload_n 0, 1) := by decide +kernel
theorem dX6_say_120 : decode cX6_say 120 = .ok (.aload_n 0, 1) := by decide +kernel
theorem dX6_say_121 : decode cX6_say 121 = .ok (.getfield 97, 3) := by decide +kernel
theorem dX6_say_124 : decode cX6_say 124 = .ok (.iconst 0, 1) := by decide +kernel
theorem dX6_say_125 : decode cX6_say 125 = .ok (.invokevirtual 106, 3) := by decide +kernel
theorem dX6_say_128 : decode cX6_say 128 = .ok (.aload_n 0, 1) := by decide +kernel
theorem dX6_say_129 : decode cX6_say 129 = .ok (.getfield 110, 3) := by decide +kernel
theorem dX6_say_132 : decode cX6_say 132 = .ok (.ireturn, 1) := by decide +kernel
theorem dX6_senses_0 : decode cX6_senses 0 = .ok (.aload_n 0, 1) := by decide +kernel
theorem dX6_senses_1 : decode cX6_senses 1 = .ok (.invokevirtual 94, 3) := by decide +kernel
theorem dX6_senses_4 : decode cX6_senses 4 = .ok (.aload_n 0, 1) := by decide +kernel
theorem dX6_senses_5 : decode cX6_senses 5 = .ok (.getfield 87, 3) := by decide +kernel
theorem dX6_senses_8 : decode cX6_senses 8 = .ok (.ifCond .ne 6, 3) := by decide +kernel
theorem dX6_senses_11 : decode cX6_senses 11 = .ok (.bipush (-103), 2) := by decide +kernel
theorem dX6_senses_13 : decode cX6_senses 13 = .ok (.ireturn, 1) := by decide +kernel
theorem dX6_senses_14 : decode cX6_senses 14 = .ok (.iconst 0, 1) := by decide +kernel
theorem dX6_senses_15 : decode cX6_senses 15 = .ok (.istore_n 1, 1) := by decide +kernel
theorem dX6_senses_16 : decode cX6_senses 16 = .ok (.iconst 0, 1) := by decide +kernel
theorem dX6_senses_17 : decode cX6_senses 17 = .ok (.istore_n 2, 1) := by decide +kernel
theorem dX6_senses_18 : decode cX6_senses 18 = .ok (.iload_n 2, 1) := by decide +kernel
theorem dX6_senses_19 : decode cX6_senses 19 = .ok (.bipush 6, 2) := by decide +kernel
theorem dX6_senses_21 : decode cX6_senses 21 = .ok (.if_icmp .ge 42, 3) := by decide +kernel
theorem dX6_senses_24 : decode cX6_senses 24 = .ok (.aload_n 0, 1) := by decide +kernel
theorem dX6_senses_25 : decode cX6_senses 25 = .ok (.getfield 7, 3) := by decide +kernel
theorem dX6_senses_28 : decode cX6_senses 28 = .ok (.iload_n 2, 1) := by decide +kernel
theorem dX6_senses_29 : decode cX6_senses 29 = .ok (.aload_n 0, 1) := by decide +kernel
theorem dX6_senses_30 : decode cX6_senses 30 = .ok (.getfield 40, 3) := by decide +kernel
theorem dX6_senses_33 : decode cX6_senses 33 = .ok (.iload_n 2, 1) := by decide +kernel
theorem dX6_senses_34 : decode cX6_senses 34 = .ok (.baload, 1) := by decide +kernel
theorem dX6_senses_35 : decode cX6_senses 35 = .ok (.bipush 48, 2) := by decide +kernel
theorem dX6_senses_37 : decode cX6_senses 37 = .ok (.isub, 1) := by decide +kernel
theorem dX6_senses_38 : decode cX6_senses 38 = .ok (.iastore, 1) := by decide +kernel
theorem dX6_senses_39 : decode cX6_senses 39 = .ok (.iload_n 1, 1) := by decide +kernel
theorem dX6_senses_40 : decode cX6_senses 40 = .ok (.aload_n 0, 1) := by decide +kernel
theorem dX6_senses_41 : decode cX6_senses 41 = .ok (.getfield 7, 3) := by decide +kernel
theorem dX6_senses_44 : decode cX6_senses 44 = .ok (.iload_n 2, 1) := by decide +kernel
theorem dX6_senses_45 : decode cX6_senses 45 = .ok (.iaload, 1) := by decide +kernel
theorem dX6_senses_46 : decode cX6_senses 46 = .ok (.iload_n 2, 1) := by decide +kernel
theorem dX6_senses_47 : decode cX6_senses 47 = .ok (.if_icmp .ne 7, 3) := by decide +kernel
theorem dX6_senses_50 : decode cX6_senses 50 = .ok (.iconst 0, 1) := by decide +kernel
theorem dX6_senses_51 : decode cX6_senses 51 = .ok (.goto 4, 3) := by decide +kernel
theorem dX6_senses_54 : decode cX6_senses 54 = .ok (.iconst 1, 1) := by decide +kernel
theorem dX6_senses_55 : decode cX6_senses 55 = .ok (.iadd, 1) := by decide +kernel
theorem dX6_senses_56 : decode cX6_senses 56 = .ok (.istore_n 1, 1) := by decide +kernel
theorem dX6_senses_57 : decode cX6_senses 57 = .ok (.iinc 2 1, 3) := by decide +kernel
theorem dX6_senses_60 : decode cX6_senses 60 = .ok (.goto (-42), 3) := by decide +kernel
theorem dX6_senses_63 : decode cX6_senses 63 = .ok (.aload_n 0, 1) := by decide +kernel
theorem dX6_senses_64 : decode cX6_senses 64 = .ok (.iconst 0, 1) := by decide +kernel
theorem dX6_senses_65 : decode cX6_senses 65 = .ok (.putfield 73, 3) := by decide +kernel
theorem dX6_senses_68 : decode cX6_senses 68 = .ok (.iload_n 1, 1) := by decide +kernel
theorem dX6_senses_69 : decode cX6_senses 69 = .ok (.ireturn, 1) := by decide +kernel
theorem dX6_isLetter_0 : decode cX6_isLetter 0 = .ok (.iload_n 0, 1) := by decide +kernel
theorem dX6_isLetter_1 : decode cX6_isLetter 1 = .ok (.iconst 0, 1) := by decide +kernel
theorem dX6_isLetter_2 : decode cX6_isLetter 2 = .ok (.iconst 5, 1) := by decide +kernel
theorem dX6_isLetter_3 : decode cX6_isLetter 3 = .ok (.invokestatic 69, 3) := by decide +kernel
theorem dX6_isLetter_6 : decode cX6_isLetter 6 = .ok (.ireturn, 1) := by decide +kernel
theorem dX6_sense_0 : decode cX6_sense 0 = .ok (.iload_n 1, 1) := by decide +kernel
theorem dX6_sense_1 : decode cX6_sense 1 = .ok (.invokestatic 113, 3) := by decide +kernel
theorem dX6_sense_4 : decode cX6_sense 4 = .ok (.ifCond .eq 12, 3) := by decide +kernel
theorem dX6_sense_7 : decode cX6_sense 7 = .ok (.aload_n 0, 1) := by decide +kernel
theorem dX6_sense_8 : decode cX6_sense 8 = .ok (.getfield 7, 3) := by decide +kernel
theorem dX6_sense_11 : decode cX6_sense 11 = .ok (.iload_n 1, 1) := by decide +kernel
theorem dX6_sense_12 : decode cX6_sense 12 = .ok (.iaload, 1) := by decide +kernel
theorem dX6_sense_13 : decode cX6_sense 13 = .ok (.goto 5, 3) := by decide +kernel
theorem dX6_sense_16 : decode cX6_sense 16 = .ok (.bipush (-101), 2) := by decide +kernel
theorem dX6_sense_18 : decode cX6_sense 18 = .ok (.ireturn, 1) := by decide +kernel
theorem dX6_worldsOf_0 : decode cX6_worldsOf 0 = .ok (.lconst 0, 1) := by decide +kernel
theorem dX6_worldsOf_1 : decode cX6_worldsOf 1 = .ok (.lstore_n 1, 1) := by decide +kernel
theorem dX6_worldsOf_2 : decode cX6_worldsOf 2 = .ok (.iconst 0, 1) := by decide +kernel
theorem dX6_worldsOf_3 : decode cX6_worldsOf 3 = .ok (.istore_n 3, 1) := by decide +kernel
theorem dX6_worldsOf_4 : decode cX6_worldsOf 4 = .ok (.iload_n 3, 1) := by decide +kernel
theorem dX6_worldsOf_5 : decode cX6_worldsOf 5 = .ok (.bipush 64, 2) := by decide +kernel
theorem dX6_worldsOf_7 : decode cX6_worldsOf 7 = .ok (.if_icmp .ge 28, 3) := by decide +kernel
theorem dX6_worldsOf_10 : decode cX6_worldsOf 10 = .ok (.lload_n 1, 1) := by decide +kernel
theorem dX6_worldsOf_11 : decode cX6_worldsOf 11 = .ok (.iload_n 3, 1) := by decide +kernel
theorem dX6_worldsOf_12 : decode cX6_worldsOf 12 = .ok (.iload_n 0, 1) := by decide +kernel
theorem dX6_worldsOf_13 : decode cX6_worldsOf 13 = .ok (.ishr, 1) := by decide +kernel
theorem dX6_worldsOf_14 : decode cX6_worldsOf 14 = .ok (.iconst 1, 1) := by decide +kernel
theorem dX6_worldsOf_15 : decode cX6_worldsOf 15 = .ok (.iand, 1) := by decide +kernel
theorem dX6_worldsOf_16 : decode cX6_worldsOf 16 = .ok (.iconst 1, 1) := by decide +kernel
theorem dX6_worldsOf_17 : decode cX6_worldsOf 17 = .ok (.if_icmp .ne 9, 3) := by decide +kernel
theorem dX6_worldsOf_20 : decode cX6_worldsOf 20 = .ok (.lconst 1, 1) := by decide +kernel
theorem dX6_worldsOf_21 : decode cX6_worldsOf 21 = .ok (.iload_n 3, 1) := by decide +kernel
theorem dX6_worldsOf_22 : decode cX6_worldsOf 22 = .ok (.lshl, 1) := by decide +kernel
theorem dX6_worldsOf_23 : decode cX6_worldsOf 23 = .ok (.goto 4, 3) := by decide +kernel
theorem dX6_worldsOf_26 : decode cX6_worldsOf 26 = .ok (.lconst 0, 1) := by decide +kernel
theorem dX6_worldsOf_27 : decode cX6_worldsOf 27 = .ok (.lor, 1) := by decide +kernel
theorem dX6_worldsOf_28 : decode cX6_worldsOf 28 = .ok (.lstore_n 1, 1) := by decide +kernel
theorem dX6_worldsOf_29 : decode cX6_worldsOf 29 = .ok (.iinc 3 1, 3) := by decide +kernel
theorem dX6_worldsOf_32 : decode cX6_worldsOf 32 = .ok (.goto (-28), 3) := by decide +kernel
theorem dX6_worldsOf_35 : decode cX6_worldsOf 35 = .ok (.lload_n 1, 1) := by decide +kernel
theorem dX6_worldsOf_36 : decode cX6_worldsOf 36 = .ok (.lreturn, 1) := by decide +kernel
theorem dX6_brackets_0 : decode cX6_brackets 0 = .ok (.iload_n 0, 1) := by decide +kernel
theorem dX6_brackets_1 : decode cX6_brackets 1 = .ok (.iconst 3, 1) := by decide +kernel
theorem dX6_brackets_2 : decode cX6_brackets 2 = .ok (.if_icmp .ge 7, 3) := by decide +kernel
theorem dX6_brackets_5 : decode cX6_brackets 5 = .ok (.iconst 1, 1) := by decide +kernel
theorem dX6_brackets_6 : decode cX6_brackets 6 = .ok (.goto 13, 3) := by decide +kernel
theorem dX6_brackets_9 : decode cX6_brackets 9 = .ok (.iload_n 0, 1) := by decide +kernel
theorem dX6_brackets_10 : decode cX6_brackets 10 = .ok (.iconst 3, 1) := by decide +kernel
theorem dX6_brackets_11 : decode cX6_brackets 11 = .ok (.if_icmp .ne 7, 3) := by decide +kernel
theorem dX6_brackets_14 : decode cX6_brackets 14 = .ok (.iconst 2, 1) := by decide +kernel
theorem dX6_brackets_15 : decode cX6_brackets 15 = .ok (.goto 4, 3) := by decide +kernel
theorem dX6_brackets_18 : decode cX6_brackets 18 = .ok (.iconst 5, 1) := by decide +kernel
theorem dX6_brackets_19 : decode cX6_brackets 19 = .ok (.ireturn, 1) := by decide +kernel
theorem dX6_wordAt_0 : decode cX6_wordAt 0 = .ok (.iload_n 2, 1) := by decide +kernel
theorem dX6_wordAt_1 : decode cX6_wordAt 1 = .ok (.ifCond .ne 12, 3) := by decide +kernel
theorem dX6_wordAt_4 : decode cX6_wordAt 4 = .ok (.aload_n 0, 1) := by decide +kernel
theorem dX6_wordAt_5 : decode cX6_wordAt 5 = .ok (.getfield 13, 3) := by decide +kernel
theorem dX6_wordAt_8 : decode cX6_wordAt 8 = .ok (.iload_n 1, 1) := by decide +kernel
theorem dX6_wordAt_9 : decode cX6_wordAt 9 = .ok (.iaload, 1) := by decide +kernel
theorem dX6_wordAt_10 : decode cX6_wordAt 10 = .ok (.goto 9, 3) := by decide +kernel
theorem dX6_wordAt_13 : decode cX6_wordAt 13 = .ok (.aload_n 0, 1) := by decide +kernel
theorem dX6_wordAt_14 : decode cX6_wordAt 14 = .ok (.getfield 19, 3) := by decide +kernel
theorem dX6_wordAt_17 : decode cX6_wordAt 17 = .ok (.iload_n 1, 1) := by decide +kernel
theorem dX6_wordAt_18 : decode cX6_wordAt 18 = .ok (.iaload, 1) := by decide +kernel
theorem dX6_wordAt_19 : decode cX6_wordAt 19 = .ok (.ireturn, 1) := by decide +kernel
theorem dX6_joinAt_0 : decode cX6_joinAt 0 = .ok (.iload_n 2, 1) := by decide +kernel
theorem dX6_joinAt_1 : decode cX6_joinAt 1 = .ok (.ifCond .ne 12, 3) := by decide +kernel
theorem dX6_joinAt_4 : decode cX6_joinAt 4 = .ok (.aload_n 0, 1) := by decide +kernel
theorem dX6_joinAt_5 : decode cX6_joinAt 5 = .ok (.getfield 16, 3) := by decide +kernel
theorem dX6_joinAt_8 : decode cX6_joinAt 8 = .ok (.iload_n 1, 1) := by decide +kernel
theorem dX6_joinAt_9 : decode cX6_joinAt 9 = .ok (.iaload, 1) := by decide +kernel
theorem dX6_joinAt_10 : decode cX6_joinAt 10 = .ok (.goto 9, 3) := by decide +kernel
theorem dX6_joinAt_13 : decode cX6_joinAt 13 = .ok (.aload_n 0, 1) := by decide +kernel
theorem dX6_joinAt_14 : decode cX6_joinAt 14 = .ok (.getfield 22, 3) := by decide +kernel
theorem dX6_joinAt_17 : decode cX6_joinAt 17 = .ok (.iload_n 1, 1) := by decide +kernel
theorem dX6_joinAt_18 : decode cX6_joinAt 18 = .ok (.iaload, 1) := by decide +kernel
theorem dX6_joinAt_19 : decode cX6_joinAt 19 = .ok (.ireturn, 1) := by decide +kernel
theorem dX6_bothMany_0 : decode cX6_bothMany 0 = .ok (.iconst 0, 1) := by decide +kernel
theorem dX6_bothMany_1 : decode cX6_bothMany 1 = .ok (.istore_n 3, 1) := by decide +kernel
theorem dX6_bothMany_2 : decode cX6_bothMany 2 = .ok (.iconst 0, 1) := by decide +kernel
theorem dX6_bothMany_3 : decode cX6_bothMany 3 = .ok (.istore 4, 2) := by decide +kernel
theorem dX6_bothMany_5 : decode cX6_bothMany 5 = .ok (.iload 4, 2) := by decide +kernel
theorem dX6_bothMany_7 : decode cX6_bothMany 7 = .ok (.iload_n 1, 1) := by decide +kernel
theorem dX6_bothMany_8 : decode cX6_bothMany 8 = .ok (.iconst 1, 1) := by decide +kernel
theorem dX6_bothMany_9 : decode cX6_bothMany 9 = .ok (.isub, 1) := by decide +kernel
theorem dX6_bothMany_10 : decode cX6_bothMany 10 = .ok (.if_icmp .ge 28, 3) := by decide +kernel
theorem dX6_bothMany_13 : decode cX6_bothMany 13 = .ok (.iload_n 3, 1) := by decide +kernel
theorem dX6_bothMany_14 : decode cX6_bothMany 14 = .ok (.aload_n 0, 1) := by decide +kernel
theorem dX6_bothMany_15 : decode cX6_bothMany 15 = .ok (.iload 4, 2) := by decide +kernel
theorem dX6_bothMany_17 : decode cX6_bothMany 17 = .ok (.iload_n 2, 1) := by decide +kernel
theorem dX6_bothMany_18 : decode cX6_bothMany 18 = .ok (.invokevirtual 117, 3) := by decide +kernel
theorem dX6_bothMany_21 : decode cX6_bothMany 21 = .ok (.iconst 1, 1) := by decide +kernel
theorem dX6_bothMany_22 : decode cX6_bothMany 22 = .ok (.if_icmp .ne 7, 3) := by decide +kernel
theorem dX6_bothMany_25 : decode cX6_bothMany 25 = .ok (.iconst 1, 1) := by decide +kernel
theorem dX6_bothMany_26 : decode cX6_bothMany 26 = .ok (.goto 4, 3) := by decide +kernel
theorem dX6_bothMany_29 : decode cX6_bothMany 29 = .ok (.iconst 0, 1) := by decide +kernel
theorem dX6_bothMany_30 : decode cX6_bothMany 30 = .ok (.iadd, 1) := by decide +kernel
theorem dX6_bothMany_31 : decode cX6_bothMany 31 = .ok (.istore_n 3, 1) := by decide +kernel
theorem dX6_bothMany_32 : decode cX6_bothMany 32 = .ok (.iinc 4 1, 3) := by decide +kernel
theorem dX6_bothMany_35 : decode cX6_bothMany 35 = .ok (.goto (-30), 3) := by decide +kernel
theorem dX6_bothMany_38 : decode cX6_bothMany 38 = .ok (.iload_n 3, 1) := by decide +kernel
theorem dX6_bothMany_39 : decode cX6_bothMany 39 = .ok (.ireturn, 1) := by decide +kernel
theorem dX6_lay_0 : decode cX6_lay 0 = .ok (.iconst 1, 1) := by decide +kernel
theorem dX6_lay_1 : decode cX6_lay 1 = .ok (.iload_n 1, 1) := by decide +kernel
theorem dX6_lay_2 : decode cX6_lay 2 = .ok (.ishl, 1) := by decide +kernel
theorem dX6_lay_3 : decode cX6_lay 3 = .ok (.istore_n 3, 1) := by decide +kernel
theorem dX6_lay_4 : decode cX6_lay 4 = .ok (.iconst 1, 1) := by decide +kernel
theorem dX6_lay_5 : decode cX6_lay 5 = .ok (.aload_n 0, 1) := by decide +kernel
theorem dX6_lay_6 : decode cX6_lay 6 = .ok (.iload_n 1, 1) := by decide +kernel
theorem dX6_lay_7 : decode cX6_lay 7 = .ok (.iload_n 2, 1) := by decide +kernel
theorem dX6_lay_8 : decode cX6_lay 8 = .ok (.invokevirtual 120, 3) := by decide +kernel
theorem dX6_lay_11 : decode cX6_lay 11 = .ok (.ishl, 1) := by decide +kernel
theorem dX6_lay_12 : decode cX6_lay 12 = .ok (.istore 4, 2) := by decide +kernel
theorem dX6_lay_14 : decode cX6_lay 14 = .ok (.aload_n 0, 1) := by decide +kernel
theorem dX6_lay_15 : decode cX6_lay 15 = .ok (.iload_n 1, 1) := by decide +kernel
theorem dX6_lay_16 : decode cX6_lay 16 = .ok (.ifCond .ne 7, 3) := by decide +kernel
theorem dX6_lay_19 : decode cX6_lay 19 = .ok (.iconst 0, 1) := by decide +kernel
theorem dX6_lay_20 : decode cX6_lay 20 = .ok (.goto 12, 3) := by decide +kernel
theorem dX6_lay_23 : decode cX6_lay 23 = .ok (.iload_n 1, 1) := by decide +kernel
theorem dX6_lay_24 : decode cX6_lay 24 = .ok (.invokestatic 123, 3) := by decide +kernel
theorem dX6_lay_27 : decode cX6_lay 27 = .ok (.iload 4, 2) := by decide +kernel
theorem dX6_lay_29 : decode cX6_lay 29 = .ok (.imul, 1) := by decide +kernel
theorem dX6_lay_30 : decode cX6_lay 30 = .ok (.iload_n 3, 1) := by decide +kernel
theorem dX6_lay_31 : decode cX6_lay 31 = .ok (.imul, 1) := by decide +kernel
theorem dX6_lay_32 : decode cX6_lay 32 = .ok (.putfield 110, 3) := by decide +kernel
theorem dX6_lay_35 : decode cX6_lay 35 = .ok (.iconst 0, 1) := by decide +kernel
theorem dX6_lay_36 : decode cX6_lay 36 = .ok (.istore 5, 2) := by decide +kernel
theorem dX6_lay_38 : decode cX6_lay 38 = .ok (.iload 5, 2) := by decide +kernel
theorem dX6_lay_40 : decode cX6_lay 40 = .ok (.aload_n 0, 1) := by decide +kernel
theorem dX6_lay_41 : decode cX6_lay 41 = .ok (.getfield 110, 3) := by decide +kernel
theorem dX6_lay_44 : decode cX6_lay 44 = .ok (.if_icmp .ge 198, 3) := by decide +kernel
theorem dX6_lay_47 : decode cX6_lay 47 = .ok (.iload 5, 2) := by decide +kernel
theorem dX6_lay_49 : decode cX6_lay 49 = .ok (.iload_n 3, 1) := by decide +kernel
theorem dX6_lay_50 : decode cX6_lay 50 = .ok (.irem, 1) := by decide +kernel
theorem dX6_lay_51 : decode cX6_lay 51 = .ok (.istore 6, 2) := by decide +kernel
theorem dX6_lay_53 : decode cX6_lay 53 = .ok (.iload 5, 2) := by decide +kernel
theorem dX6_lay_55 : decode cX6_lay 55 = .ok (.iload_n 3, 1) := by decide +kernel
theorem dX6_lay_56 : decode cX6_lay 56 = .ok (.idiv, 1) := by decide +kernel
theorem dX6_lay_57 : decode cX6_lay 57 = .ok (.iload 4, 2) := by decide +kernel
theorem dX6_lay_59 : decode cX6_lay 59 = .ok (.irem, 1) := by decide +kernel
theorem dX6_lay_60 : decode cX6_lay 60 = .ok (.istore 7, 2) := by decide +kernel
theorem dX6_lay_62 : decode cX6_lay 62 = .ok (.iconst 0, 1) := by decide +kernel
theorem dX6_lay_63 : decode cX6_lay 63 = .ok (.istore 8, 2) := by decide +kernel
theorem dX6_lay_65 : decode cX6_lay 65 = .ok (.iload 8, 2) := by decide +kernel
theorem dX6_lay_67 : decode cX6_lay 67 = .ok (.iload_n 1, 1) := by decide +kernel
theorem dX6_lay_68 : decode cX6_lay 68 = .ok (.if_icmp .ge 79, 3) := by decide +kernel
theorem dX6_lay_71 : decode cX6_lay 71 = .ok (.aload_n 0, 1) := by decide +kernel
theorem dX6_lay_72 : decode cX6_lay 72 = .ok (.iload 8, 2) := by decide +kernel
theorem dX6_lay_74 : decode cX6_lay 74 = .ok (.iload_n 2, 1) := by decide +kernel
theorem dX6_lay_75 : decode cX6_lay 75 = .ok (.invokevirtual 127, 3) := by decide +kernel
theorem dX6_lay_78 : decode cX6_lay 78 = .ok (.iconst 2, 1) := by decide +kernel
theorem dX6_lay_79 : decode cX6_lay 79 = .ok (.idiv, 1) := by decide +kernel
theorem dX6_lay_80 : decode cX6_lay 80 = .ok (.istore 9, 2) := by decide +kernel
theorem dX6_lay_82 : decode cX6_lay 82 = .ok (.iload 6, 2) := by decide +kernel
theorem dX6_lay_84 : decode cX6_lay 84 = .ok (.iload 8, 2) := by decide +kernel
theorem dX6_lay_86 : decode cX6_lay 86 = .ok (.ishr, 1) := by decide +kernel
theorem dX6_lay_87 : decode cX6_lay 87 = .ok (.iconst 1, 1) := by decide +kernel
theorem dX6_lay_88 : decode cX6_lay 88 = .ok (.iand, 1) := by decide +kernel
theorem dX6_lay_89 : decode cX6_lay 89 = .ok (.iconst 1, 1) := by decide +kernel
theorem dX6_lay_90 : decode cX6_lay 90 = .ok (.if_icmp .ne 13, 3) := by decide +kernel
theorem dX6_lay_93 : decode cX6_lay 93 = .ok (.aload_n 0, 1) := by decide +kernel
theorem dX6_lay_94 : decode cX6_lay 94 = .ok (.getfield 7, 3) := by decide +kernel
theorem dX6_lay_97 : decode cX6_lay 97 = .ok (.iload 9, 2) := by decide +kernel
theorem dX6_lay_99 : decode cX6_lay 99 = .ok (.iaload, 1) := by decide +kernel
theorem dX6_lay_100 : decode cX6_lay 100 = .ok (.goto 5, 3) := by decide +kernel
theorem dX6_lay_103 : decode cX6_lay 103 = .ok (.iload 9, 2) := by decide +kernel
theorem dX6_lay_105 : decode cX6_lay 105 = .ok (.invokestatic 130, 3) := by decide +kernel
theorem dX6_lay_108 : decode cX6_lay 108 = .ok (.lstore 10, 2) := by decide +kernel
theorem dX6_lay_110 : decode cX6_lay 110 = .ok (.aload_n 0, 1) := by decide +kernel
theorem dX6_lay_111 : decode cX6_lay 111 = .ok (.getfield 54, 3) := by decide +kernel
theorem dX6_lay_114 : decode cX6_lay 114 = .ok (.iload 8, 2) := by decide +kernel
theorem dX6_lay_116 : decode cX6_lay 116 = .ok (.aload_n 0, 1) := by decide +kernel
theorem dX6_lay_117 : decode cX6_lay 117 = .ok (.iload 8, 2) := by decide +kernel
theorem dX6_lay_119 : decode cX6_lay 119 = .ok (.iload_n 2, 1) := by decide +kernel
theorem dX6_lay_120 : decode cX6_lay 120 = .ok (.invokevirtual 127, 3) := by decide +kernel
theorem dX6_lay_123 : decode cX6_lay 123 = .ok (.iconst 2, 1) := by decide +kernel
theorem dX6_lay_124 : decode cX6_lay 124 = .ok (.irem, 1) := by decide +kernel
theorem dX6_lay_125 : decode cX6_lay 125 = .ok (.iconst 1, 1) := by decide +kernel
theorem dX6_lay_126 : decode cX6_lay 126 = .ok (.if_icmp .ne 12, 3) := by decide +kernel
theorem dX6_lay_129 : decode cX6_lay 129 = .ok (.lload 10, 2) := by decide +kernel
theorem dX6_lay_131 : decode cX6_lay 131 = .ok (.ldc2_w 134, 3) := by decide +kernel
theorem dX6_lay_134 : decode cX6_lay 134 = .ok (.lxor, 1) := by decide +kernel
theorem dX6_lay_135 : decode cX6_lay 135 = .ok (.goto 5, 3) := by decide +kernel
theorem dX6_lay_138 : decode cX6_lay 138 = .ok (.lload 10, 2) := by decide +kernel
theorem dX6_lay_140 : decode cX6_lay 140 = .ok (.lastore, 1) := by decide +kernel
theorem dX6_lay_141 : decode cX6_lay 141 = .ok (.iinc 8 1, 3) := by decide +kernel
theorem dX6_lay_144 : decode cX6_lay 144 = .ok (.goto (-79), 3) := by decide +kernel
theorem dX6_lay_147 : decode cX6_lay 147 = .ok (.iconst 0, 1) := by decide +kernel
theorem dX6_lay_148 : decode cX6_lay 148 = .ok (.istore 8, 2) := by decide +kernel
theorem dX6_lay_150 : decode cX6_lay 150 = .ok (.iconst 0, 1) := by decide +kernel
theorem dX6_lay_151 : decode cX6_lay 151 = .ok (.istore 9, 2) := by decide +kernel
theorem dX6_lay_153 : decode cX6_lay 153 = .ok (.iload 9, 2) := by decide +kernel
theorem dX6_lay_155 : decode cX6_lay 155 = .ok (.iload_n 1, 1) := by decide +kernel
theorem dX6_lay_156 : decode cX6_lay 156 = .ok (.iconst 1, 1) := by decide +kernel
theorem dX6_lay_157 : decode cX6_lay 157 = .ok (.isub, 1) := by decide +kernel
theorem dX6_lay_158 : decode cX6_lay 158 = .ok (.if_icmp .ge 59, 3) := by decide +kernel
theorem dX6_lay_161 : decode cX6_lay 161 = .ok (.aload_n 0, 1) := by decide +kernel
theorem dX6_lay_162 : decode cX6_lay 162 = .ok (.getfield 57, 3) := by decide +kernel
theorem dX6_lay_165 : decode cX6_lay 165 = .ok (.iload 9, 2) := by decide +kernel
theorem dX6_lay_167 : decode cX6_lay 167 = .ok (.aload_n 0, 1) := by decide +kernel
theorem dX6_lay_168 : decode cX6_lay 168 = .ok (.iload 9, 2) := by decide +kernel
theorem dX6_lay_170 : decode cX6_lay 170 = .ok (.iload_n 2, 1) := by decide +kernel
theorem dX6_lay_171 : decode cX6_lay 171 = .ok (.invokevirtual 117, 3) := by decide +kernel
theorem dX6_lay_174 : decode cX6_lay 174 = .ok (.iconst 1, 1) := by decide +kernel
theorem dX6_lay_175 : decode cX6_lay 175 = .ok (.if_icmp .ne 13, 3) := by decide +kernel
theorem dX6_lay_178 : decode cX6_lay 178 = .ok (.iload 7, 2) := by decide +kernel
theorem dX6_lay_180 : decode cX6_lay 180 = .ok (.iload 8, 2) := by decide +kernel
theorem dX6_lay_182 : decode cX6_lay 182 = .ok (.ishr, 1) := by decide +kernel
theorem dX6_lay_183 : decode cX6_lay 183 = .ok (.iconst 1, 1) := by decide +kernel
theorem dX6_lay_184 : decode cX6_lay 184 = .ok (.iand, 1) := by decide +kernel
theorem dX6_lay_185 : decode cX6_lay 185 = .ok (.goto 4, 3) := by decide +kernel
theorem dX6_lay_188 : decode cX6_lay 188 = .ok (.iconst 0, 1) := by decide +kernel
theorem dX6_lay_189 : decode cX6_lay 189 = .ok (.iastore, 1) := by decide +kernel
theorem dX6_lay_190 : decode cX6_lay 190 = .ok (.iload 8, 2) := by decide +kernel
theorem dX6_lay_192 : decode cX6_lay 192 = .ok (.aload_n 0, 1) := by decide +kernel
theorem dX6_lay_193 : decode cX6_lay 193 = .ok (.iload 9, 2) := by decide +kernel
theorem dX6_lay_195 : decode cX6_lay 195 = .ok (.iload_n 2, 1) := by decide +kernel
theorem dX6_lay_196 : decode cX6_lay 196 = .ok (.invokevirtual 117, 3) := by decide +kernel
theorem dX6_lay_199 : decode cX6_lay 199 = .ok (.iconst 1, 1) := by decide +kernel
theorem dX6_lay_200 : decode cX6_lay 200 = .ok (.if_icmp .ne 7, 3) := by decide +kernel
theorem dX6_lay_203 : decode cX6_lay 203 = .ok (.iconst 1, 1) := by decide +kernel
theorem dX6_lay_204 : decode cX6_lay 204 = .ok (.goto 4, 3) := by decide +kernel
theorem dX6_lay_207 : decode cX6_lay 207 = .ok (.iconst 0, 1) := by decide +kernel
theorem dX6_lay_208 : decode cX6_lay 208 = .ok (.iadd, 1) := by decide +kernel
theorem dX6_lay_209 : decode cX6_lay 209 = .ok (.istore 8, 2) := by decide +kernel
theorem dX6_lay_211 : decode cX6_lay 211 = .ok (.iinc 9 1, 3) := by decide +kernel
theorem dX6_lay_214 : decode cX6_lay 214 = .ok (.goto (-61), 3) := by decide +kernel
theorem dX6_lay_217 : decode cX6_lay 217 = .ok (.aload_n 0, 1) := by decide +kernel
theorem dX6_lay_218 : decode cX6_lay 218 = .ok (.getfield 50, 3) := by decide +kernel
theorem dX6_lay_221 : decode cX6_lay 221 = .ok (.iload 5, 2) := by decide +kernel
theorem dX6_lay_223 : decode cX6_lay 223 = .ok (.aload_n 0, 1) := by decide +kernel
theorem dX6_lay_224 : decode cX6_lay 224 = .ok (.iload_n 1, 1) := by decide +kernel
theorem dX6_lay_225 : decode cX6_lay 225 = .ok (.iload 5, 2) := by decide +kernel
theorem dX6_lay_227 : decode cX6_lay 227 = .ok (.iload_n 3, 1) := by decide +kernel
theorem dX6_lay_228 : decode cX6_lay 228 = .ok (.idiv, 1) := by decide +kernel
theorem dX6_lay_229 : decode cX6_lay 229 = .ok (.iload 4, 2) := by decide +kernel
theorem dX6_lay_231 : decode cX6_lay 231 = .ok (.idiv, 1) := by decide +kernel
theorem dX6_lay_232 : decode cX6_lay 232 = .ok (.invokevirtual 136, 3) := by decide +kernel
theorem dX6_lay_235 : decode cX6_lay 235 = .ok (.lastore, 1) := by decide +kernel
theorem dX6_lay_236 : decode cX6_lay 236 = .ok (.iinc 5 1, 3) := by decide +kernel
theorem dX6_lay_239 : decode cX6_lay 239 = .ok (.goto (-201), 3) := by decide +kernel
theorem dX6_lay_242 : decode cX6_lay 242 = .ok (.return_, 1) := by decide +kernel
theorem dX6_joined_0 : decode cX6_joined 0 = .ok (.iload_n 2, 1) := by decide +kernel
theorem dX6_joined_1 : decode cX6_joined 1 = .ok (.iconst 1, 1) := by decide +kernel
theorem dX6_joined_2 : decode cX6_joined 2 = .ok (.if_icmp .ne 9, 3) := by decide +kernel
theorem dX6_joined_5 : decode cX6_joined 5 = .ok (.lload_n 0, 1) := by decide +kernel
theorem dX6_joined_6 : decode cX6_joined 6 = .ok (.lload_n 3, 1) := by decide +kernel
theorem dX6_joined_7 : decode cX6_joined 7 = .ok (.lor, 1) := by decide +kernel
theorem dX6_joined_8 : decode cX6_joined 8 = .ok (.goto 6, 3) := by decide +kernel
theorem dX6_joined_11 : decode cX6_joined 11 = .ok (.lload_n 0, 1) := by decide +kernel
theorem dX6_joined_12 : decode cX6_joined 12 = .ok (.lload_n 3, 1) := by decide +kernel
theorem dX6_joined_13 : decode cX6_joined 13 = .ok (.land, 1) := by decide +kernel
theorem dX6_joined_14 : decode cX6_joined 14 = .ok (.lreturn, 1) := by decide +kernel
theorem dX6_bracketed_0 : decode cX6_bracketed 0 = .ok (.aload_n 0, 1) := by decide +kernel
theorem dX6_bracketed_1 : decode cX6_bracketed 1 = .ok (.getfield 54, 3) := by decide +kernel
theorem dX6_bracketed_4 : decode cX6_bracketed 4 = .ok (.iconst 0, 1) := by decide +kernel
theorem dX6_bracketed_5 : decode cX6_bracketed 5 = .ok (.laload, 1) := by decide +kernel
theorem dX6_bracketed_6 : decode cX6_bracketed 6 = .ok (.lstore_n 3, 1) := by decide +kernel
theorem dX6_bracketed_7 : decode cX6_bracketed 7 = .ok (.aload_n 0, 1) := by decide +kernel
theorem dX6_bracketed_8 : decode cX6_bracketed 8 = .ok (.getfield 54, 3) := by decide +kernel
theorem dX6_bracketed_11 : decode cX6_bracketed 11 = .ok (.iconst 1, 1) := by decide +kernel
theorem dX6_bracketed_12 : decode cX6_bracketed 12 = .ok (.laload, 1) := by decide +kernel
theorem dX6_bracketed_13 : decode cX6_bracketed 13 = .ok (.lstore 5, 2) := by decide +kernel
theorem dX6_bracketed_15 : decode cX6_bracketed 15 = .ok (.aload_n 0, 1) := by decide +kernel
theorem dX6_bracketed_16 : decode cX6_bracketed 16 = .ok (.getfield 54, 3) := by decide +kernel
theorem dX6_bracketed_19 : decode cX6_bracketed 19 = .ok (.iconst 2, 1) := by decide +kernel
theorem dX6_bracketed_20 : decode cX6_bracketed 20 = .ok (.laload, 1) := by decide +kernel
theorem dX6_bracketed_21 : decode cX6_bracketed 21 = .ok (.lstore 7, 2) := by decide +kernel
theorem dX6_bracketed_23 : decode cX6_bracketed 23 = .ok (.iload_n 1, 1) := by decide +kernel
theorem dX6_bracketed_24 : decode cX6_bracketed 24 = .ok (.iconst 1, 1) := by decide +kernel
theorem dX6_bracketed_25 : decode cX6_bracketed 25 = .ok (.if_icmp .ne 5, 3) := by decide +kernel
theorem dX6_bracketed_28 : decode cX6_bracketed 28 = .ok (.lload_n 3, 1) := by decide +kernel
theorem dX6_bracketed_29 : decode cX6_bracketed 29 = .ok (.lreturn, 1) := by decide +kernel
theorem dX6_bracketed_30 : decode cX6_bracketed 30 = .ok (.iload_n 1, 1) := by decide +kernel
theorem dX6_bracketed_31 : decode cX6_bracketed 31 = .ok (.iconst 2, 1) := by decide +kernel
theorem dX6_bracketed_32 : decode cX6_bracketed 32 = .ok (.if_icmp .ne 16, 3) := by decide +kernel
theorem dX6_bracketed_35 : decode cX6_bracketed 35 = .ok (.lload_n 3, 1) := by decide +kernel
theorem dX6_bracketed_36 : decode cX6_bracketed 36 = .ok (.aload_n 0, 1) := by decide +kernel
theorem dX6_bracketed_37 : decode cX6_bracketed 37 = .ok (.getfield 57, 3) := by decide +kernel
theorem dX6_bracketed_40 : decode cX6_bracketed 40 = .ok (.iconst 0, 1) := by decide +kernel
theorem dX6_bracketed_41 : decode cX6_bracketed 41 = .ok (.iaload, 1) := by decide +kernel
theorem dX6_bracketed_42 : decode cX6_bracketed 42 = .ok (.lload 5, 2) := by decide +kernel
theorem dX6_bracketed_44 : decode cX6_bracketed 44 = .ok (.invokestatic 140, 3) := by decide +kernel
theorem dX6_bracketed_47 : decode cX6_bracketed 47 = .ok (.lreturn, 1) := by decide +kernel
theorem dX6_bracketed_48 : decode cX6_bracketed 48 = .ok (.iload_n 1, 1) := by decide +kernel
theorem dX6_bracketed_49 : decode cX6_bracketed 49 = .ok (.iconst 3, 1) := by decide +kernel
theorem dX6_bracketed_50 : decode cX6_bracketed 50 = .ok (.if_icmp .ne 57, 3) := by decide +kernel
theorem dX6_bracketed_53 : decode cX6_bracketed 53 = .ok (.iload_n 2, 1) := by decide +kernel
theorem dX6_bracketed_54 : decode cX6_bracketed 54 = .ok (.ifCond .ne 29, 3) := by decide +kernel
theorem dX6_bracketed_57 : decode cX6_bracketed 57 = .ok (.lload_n 3, 1) := by decide +kernel
theorem dX6_bracketed_58 : decode cX6_bracketed 58 = .ok (.aload_n 0, 1) := by decide +kernel
theorem dX6_bracketed_59 : decode cX6_bracketed 59 = .ok (.getfield 57, 3) := by decide +kernel
theorem dX6_bracketed_62 : decode cX6_bracketed 62 = .ok (.iconst 0, 1) := by decide +kernel
theorem dX6_bracketed_63 : decode cX6_bracketed 63 = .ok (.iaload, 1) := by decide +kernel
theorem dX6_bracketed_64 : decode cX6_bracketed 64 = .ok (.lload 5, 2) := by decide +kernel
theorem dX6_bracketed_66 : decode cX6_bracketed 66 = .ok (.invokestatic 140, 3) := by decide +kernel
theorem dX6_bracketed_69 : decode cX6_bracketed 69 = .ok (.aload_n 0, 1) := by decide +kernel
theorem dX6_bracketed_70 : decode cX6_bracketed 70 = .ok (.getfield 57, 3) := by decide +kernel
theorem dX6_bracketed_73 : decode cX6_bracketed 73 = .ok (.iconst 1, 1) := by decide +kernel
theorem dX6_bracketed_74 : decode cX6_bracketed 74 = .ok (.iaload, 1) := by decide +kernel
theorem dX6_bracketed_75 : decode cX6_bracketed 75 = .ok (.lload 7, 2) := by decide +kernel
theorem dX6_bracketed_77 : decode cX6_bracketed 77 = .ok (.invokestatic 140, 3) := by decide +kernel
theorem dX6_bracketed_80 : decode cX6_bracketed 80 = .ok (.goto 26, 3) := by decide +kernel
theorem dX6_bracketed_83 : decode cX6_bracketed 83 = .ok (.lload_n 3, 1) := by decide +kernel
theorem dX6_bracketed_84 : decode cX6_bracketed 84 = .ok (.aload_n 0, 1) := by decide +kernel
theorem dX6_bracketed_85 : decode cX6_bracketed 85 = .ok (.getfield 57, 3) := by decide +kernel
theorem dX6_bracketed_88 : decode cX6_bracketed 88 = .ok (.iconst 0, 1) := by decide +kernel
theorem dX6_bracketed_89 : decode cX6_bracketed 89 = .ok (.iaload, 1) := by decide +kernel
theorem dX6_bracketed_90 : decode cX6_bracketed 90 = .ok (.lload 5, 2) := by decide +kernel
theorem dX6_bracketed_92 : decode cX6_bracketed 92 = .ok (.aload_n 0, 1) := by decide +kernel
theorem dX6_bracketed_93 : decode cX6_bracketed 93 = .ok (.getfield 57, 3) := by decide +kernel
theorem dX6_bracketed_96 : decode cX6_bracketed 96 = .ok (.iconst 1, 1) := by decide +kernel
theorem dX6_bracketed_97 : decode cX6_bracketed 97 = .ok (.iaload, 1) := by decide +kernel
theorem dX6_bracketed_98 : decode cX6_bracketed 98 = .ok (.lload 7, 2) := by decide +kernel
theorem dX6_bracketed_100 : decode cX6_bracketed 100 = .ok (.invokestatic 140, 3) := by decide +kernel
theorem dX6_bracketed_103 : decode cX6_bracketed 103 = .ok (.invokestatic 140, 3) := by decide +kernel
theorem dX6_bracketed_106 : decode cX6_bracketed 106 = .ok (.lreturn, 1) := by decide +kernel
theorem dX6_bracketed_107 : decode cX6_bracketed 107 = .ok (.aload_n 0, 1) := by decide +kernel
theorem dX6_bracketed_108 : decode cX6_bracketed 108 = .ok (.iload_n 2, 1) := by decide +kernel
theorem dX6_bracketed_109 : decode cX6_bracketed 109 = .ok (.lload_n 3, 1) := by decide +kernel
theorem dX6_bracketed_110 : decode cX6_bracketed 110 = .ok (.lload 5, 2) := by decide +kernel
theorem dX6_bracketed_112 : decode cX6_bracketed 112 = .ok (.lload 7, 2) := by decide +kernel
theorem dX6_bracketed_114 : decode cX6_bracketed 114 = .ok (.aload_n 0, 1) := by decide +kernel
theorem dX6_bracketed_115 : decode cX6_bracketed 115 = .ok (.getfield 54, 3) := by decide +kernel
theorem dX6_bracketed_118 : decode cX6_bracketed 118 = .ok (.iconst 3, 1) := by decide +kernel
theorem dX6_bracketed_119 : decode cX6_bracketed 119 = .ok (.laload, 1) := by decide +kernel
theorem dX6_bracketed_120 : decode cX6_bracketed 120 = .ok (.invokevirtual 144, 3) := by decide +kernel
theorem dX6_bracketed_123 : decode cX6_bracketed 123 = .ok (.lreturn, 1) := by decide +kernel
theorem dX6_ofFour_0 : decode cX6_ofFour 0 = .ok (.aload_n 0, 1) := by decide +kernel
theorem dX6_ofFour_1 : decode cX6_ofFour 1 = .ok (.getfield 57, 3) := by decide +kernel
theorem dX6_ofFour_4 : decode cX6_ofFour 4 = .ok (.iconst 0, 1) := by decide +kernel
theorem dX6_ofFour_5 : decode cX6_ofFour 5 = .ok (.iaload, 1) := by decide +kernel
theorem dX6_ofFour_6 : decode cX6_ofFour 6 = .ok (.istore 10, 2) := by decide +kernel
theorem dX6_ofFour_8 : decode cX6_ofFour 8 = .ok (.aload_n 0, 1) := by decide +kernel
theorem dX6_ofFour_9 : decode cX6_ofFour 9 = .ok (.getfield 57, 3) := by decide +kernel
theorem dX6_ofFour_12 : decode cX6_ofFour 12 = .ok (.iconst 1, 1) := by decide +kernel
theorem dX6_ofFour_13 : decode cX6_ofFour 13 = .ok (.iaload, 1) := by decide +kernel
theorem dX6_ofFour_14 : decode cX6_ofFour 14 = .ok (.istore 11, 2) := by decide +kernel
theorem dX6_ofFour_16 : decode cX6_ofFour 16 = .ok (.aload_n 0, 1) := by decide +kernel
theorem dX6_ofFour_17 : decode cX6_ofFour 17 = .ok (.getfield 57, 3) := by decide +kernel
theorem dX6_ofFour_20 : decode cX6_ofFour 20 = .ok (.iconst 2, 1) := by decide +kernel
theorem dX6_ofFour_21 : decode cX6_ofFour 21 = .ok (.iaload, 1) := by decide +kernel
theorem dX6_ofFour_22 : decode cX6_ofFour 22 = .ok (.istore 12, 2) := by decide +kernel
theorem dX6_ofFour_24 : decode cX6_ofFour 24 = .ok (.iload_n 1, 1) := by decide +kernel
theorem dX6_ofFour_25 : decode cX6_ofFour 25 = .ok (.tableswitch 123 0 3 #[31, 54, 77, 100], 31) := by decide +kernel
theorem dX6_ofFour_56 : decode cX6_ofFour 56 = .ok (.lload_n 2, 1) := by decide +kernel
theorem dX6_ofFour_57 : decode cX6_ofFour 57 = .ok (.iload 10, 2) := by decide +kernel
theorem dX6_ofFour_59 : decode cX6_ofFour 59 = .ok (.lload 4, 2) := by decide +kernel
theorem dX6_ofFour_61 : decode cX6_ofFour 61 = .ok (.invokestatic 140, 3) := by decide +kernel
theorem dX6_ofFour_64 : decode cX6_ofFour 64 = .ok (.iload 11, 2) := by decide +kernel
theorem dX6_ofFour_66 : decode cX6_ofFour 66 = .ok (.lload 6, 2) := by decide +kernel
theorem dX6_ofFour_68 : decode cX6_ofFour 68 = .ok (.invokestatic 140, 3) := by decide +kernel
theorem dX6_ofFour_71 : decode cX6_ofFour 71 = .ok (.iload 12, 2) := by decide +kernel
theorem dX6_ofFour_73 : decode cX6_ofFour 73 = .ok (.lload 8, 2) := by decide +kernel
theorem dX6_ofFour_75 : decode cX6_ofFour 75 = .ok (.invokestatic 140, 3) := by decide +kernel
theorem dX6_ofFour_78 : decode cX6_ofFour 78 = .ok (.lreturn, 1) := by decide +kernel
theorem dX6_ofFour_79 : decode cX6_ofFour 79 = .ok (.lload_n 2, 1) := by decide +kernel
theorem dX6_ofFour_80 : decode cX6_ofFour 80 = .ok (.iload 10, 2) := by decide +kernel
theorem dX6_ofFour_82 : decode cX6_ofFour 82 = .ok (.lload 4, 2) := by decide +kernel
theorem dX6_ofFour_84 : decode cX6_ofFour 84 = .ok (.iload 11, 2) := by decide +kernel
theorem dX6_ofFour_86 : decode cX6_ofFour 86 = .ok (.lload 6, 2) := by decide +kernel
theorem dX6_ofFour_88 : decode cX6_ofFour 88 = .ok (.invokestatic 140, 3) := by decide +kernel
theorem dX6_ofFour_91 : decode cX6_ofFour 91 = .ok (.invokestatic 140, 3) := by decide +kernel
theorem dX6_ofFour_94 : decode cX6_ofFour 94 = .ok (.iload 12, 2) := by decide +kernel
theorem dX6_ofFour_96 : decode cX6_ofFour 96 = .ok (.lload 8, 2) := by decide +kernel
theorem dX6_ofFour_98 : decode cX6_ofFour 98 = .ok (.invokestatic 140, 3) := by decide +kernel
theorem dX6_ofFour_101 : decode cX6_ofFour 101 = .ok (.lreturn, 1) := by decide +kernel
theorem dX6_ofFour_102 : decode cX6_ofFour 102 = .ok (.lload_n 2, 1) := by decide +kernel
theorem dX6_ofFour_103 : decode cX6_ofFour 103 = .ok (.iload 10, 2) := by decide +kernel
theorem dX6_ofFour_105 : decode cX6_ofFour 105 = .ok (.lload 4, 2) := by decide +kernel
theorem dX6_ofFour_107 : decode cX6_ofFour 107 = .ok (.invokestatic 140, 3) := by decide +kernel
theorem dX6_ofFour_110 : decode cX6_ofFour 110 = .ok (.iload 11, 2) := by decide +kernel
theorem dX6_ofFour_112 : decode cX6_ofFour 112 = .ok (.lload 6, 2) := by decide +kernel
theorem dX6_ofFour_114 : decode cX6_ofFour 114 = .ok (.iload 12, 2) := by decide +kernel
theorem dX6_ofFour_116 : decode cX6_ofFour 116 = .ok (.lload 8, 2) := by decide +kernel
theorem dX6_ofFour_118 : decode cX6_ofFour 118 = .ok (.invokestatic 140, 3) := by decide +kernel
theorem dX6_ofFour_121 : decode cX6_ofFour 121 = .ok (.invokestatic 140, 3) := by decide +kernel
theorem dX6_ofFour_124 : decode cX6_ofFour 124 = .ok (.lreturn, 1) := by decide +kernel
theorem dX6_ofFour_125 : decode cX6_ofFour 125 = .ok (.lload_n 2, 1) := by decide +kernel
theorem dX6_ofFour_126 : decode cX6_ofFour 126 = .ok (.iload 10, 2) := by decide +kernel
theorem dX6_ofFour_128 : decode cX6_ofFour 128 = .ok (.lload 4, 2) := by decide +kernel
theorem dX6_ofFour_130 : decode cX6_ofFour 130 = .ok (.iload 11, 2) := by decide +kernel
theorem dX6_ofFour_132 : decode cX6_ofFour 132 = .ok (.lload 6, 2) := by decide +kernel
theorem dX6_ofFour_134 : decode cX6_ofFour 134 = .ok (.invokestatic 140, 3) := by decide +kernel
theorem dX6_ofFour_137 : decode cX6_ofFour 137 = .ok (.iload 12, 2) := by decide +kernel
theorem dX6_ofFour_139 : decode cX6_ofFour 139 = .ok (.lload 8, 2) := by decide +kernel
theorem dX6_ofFour_141 : decode cX6_ofFour 141 = .ok (.invokestatic 140, 3) := by decide +kernel
theorem dX6_ofFour_144 : decode cX6_ofFour 144 = .ok (.invokestatic 140, 3) := by decide +kernel
theorem dX6_ofFour_147 : decode cX6_ofFour 147 = .ok (.lreturn, 1) := by decide +kernel
theorem dX6_ofFour_148 : decode cX6_ofFour 148 = .ok (.lload_n 2, 1) := by decide +kernel
theorem dX6_ofFour_149 : decode cX6_ofFour 149 = .ok (.iload 10, 2) := by decide +kernel
theorem dX6_ofFour_151 : decode cX6_ofFour 151 = .ok (.lload 4, 2) := by decide +kernel
theorem dX6_ofFour_153 : decode cX6_ofFour 153 = .ok (.iload 11, 2) := by decide +kernel
theorem dX6_ofFour_155 : decode cX6_ofFour 155 = .ok (.lload 6, 2) := by decide +kernel
theorem dX6_ofFour_157 : decode cX6_ofFour 157 = .ok (.iload 12, 2) := by decide +kernel
theorem dX6_ofFour_159 : decode cX6_ofFour 159 = .ok (.lload 8, 2) := by decide +kernel
theorem dX6_ofFour_161 : decode cX6_ofFour 161 = .ok (.invokestatic 140, 3) := by decide +kernel
theorem dX6_ofFour_164 : decode cX6_ofFour 164 = .ok (.invokestatic 140, 3) := by decide +kernel
theorem dX6_ofFour_167 : decode cX6_ofFour 167 = .ok (.invokestatic 140, 3) := by decide +kernel
theorem dX6_ofFour_170 : decode cX6_ofFour 170 = .ok (.lreturn, 1) := by decide +kernel
theorem dX6_size_0 : decode cX6_size 0 = .ok (.iconst 0, 1) := by decide +kernel
theorem dX6_size_1 : decode cX6_size 1 = .ok (.istore_n 2, 1) := by decide +kernel
theorem dX6_size_2 : decode cX6_size 2 = .ok (.iconst 0, 1) := by decide +kernel
theorem dX6_size_3 : decode cX6_size 3 = .ok (.istore_n 3, 1) := by decide +kernel
theorem dX6_size_4 : decode cX6_size 4 = .ok (.iload_n 3, 1) := by decide +kernel
theorem dX6_size_5 : decode cX6_size 5 = .ok (.bipush 64, 2) := by decide +kernel
theorem dX6_size_7 : decode cX6_size 7 = .ok (.if_icmp .ge 18, 3) := by decide +kernel
theorem dX6_size_10 : decode cX6_size 10 = .ok (.iload_n 2, 1) := by decide +kernel
theorem dX6_size_11 : decode cX6_size 11 = .ok (.lload_n 0, 1) := by decide +kernel
theorem dX6_size_12 : decode cX6_size 12 = .ok (.iload_n 3, 1) := by decide +kernel
theorem dX6_size_13 : decode cX6_size 13 = .ok (.lshr, 1) := by decide +kernel
theorem dX6_size_14 : decode cX6_size 14 = .ok (.lconst 1, 1) := by decide +kernel
theorem dX6_size_15 : decode cX6_size 15 = .ok (.land, 1) := by decide +kernel
theorem dX6_size_16 : decode cX6_size 16 = .ok (.l2i, 1) := by decide +kernel
theorem dX6_size_17 : decode cX6_size 17 = .ok (.iadd, 1) := by decide +kernel
theorem dX6_size_18 : decode cX6_size 18 = .ok (.istore_n 2, 1) := by decide +kernel
theorem dX6_size_19 : decode cX6_size 19 = .ok (.iinc 3 1, 3) := by decide +kernel
theorem dX6_size_22 : decode cX6_size 22 = .ok (.goto (-18), 3) := by decide +kernel
theorem dX6_size_25 : decode cX6_size 25 = .ok (.iload_n 2, 1) := by decide +kernel
theorem dX6_size_26 : decode cX6_size 26 = .ok (.ireturn, 1) := by decide +kernel
theorem dX6_isIn_0 : decode cX6_isIn 0 = .ok (.lload_n 0, 1) := by decide +kernel
theorem dX6_isIn_1 : decode cX6_isIn 1 = .ok (.iload_n 2, 1) := by decide +kernel
theorem dX6_isIn_2 : decode cX6_isIn 2 = .ok (.lshr, 1) := by decide +kernel
theorem dX6_isIn_3 : decode cX6_isIn 3 = .ok (.lconst 1, 1) := by decide +kernel
theorem dX6_isIn_4 : decode cX6_isIn 4 = .ok (.land, 1) := by decide +kernel
theorem dX6_isIn_5 : decode cX6_isIn 5 = .ok (.lconst 1, 1) := by decide +kernel
theorem dX6_isIn_6 : decode cX6_isIn 6 = .ok (.lcmp, 1) := by decide +kernel
theorem dX6_isIn_7 : decode cX6_isIn 7 = .ok (.ifCond .ne 7, 3) := by decide +kernel
theorem dX6_isIn_10 : decode cX6_isIn 10 = .ok (.iconst 1, 1) := by decide +kernel
theorem dX6_isIn_11 : decode cX6_isIn 11 = .ok (.goto 4, 3) := by decide +kernel
theorem dX6_isIn_14 : decode cX6_isIn 14 = .ok (.iconst 0, 1) := by decide +kernel
theorem dX6_isIn_15 : decode cX6_isIn 15 = .ok (.ireturn, 1) := by decide +kernel
theorem dX6_isReading_0 : decode cX6_isReading 0 = .ok (.aload_n 0, 1) := by decide +kernel
theorem dX6_isReading_1 : decode cX6_isReading 1 = .ok (.aload_n 0, 1) := by decide +kernel
theorem dX6_isReading_2 : decode cX6_isReading 2 = .ok (.getfield 97, 3) := by decide +kernel
theorem dX6_isReading_5 : decode cX6_isReading 5 = .ok (.iconst 0, 1) := by decide +kernel
theorem dX6_isReading_6 : decode cX6_isReading 6 = .ok (.invokevirtual 106, 3) := by decide +kernel
theorem dX6_isReading_9 : decode cX6_isReading 9 = .ok (.iload_n 1, 1) := by decide +kernel
theorem dX6_isReading_10 : decode cX6_isReading 10 = .ok (.iconst 0, 1) := by decide +kernel
theorem dX6_isReading_11 : decode cX6_isReading 11 = .ok (.aload_n 0, 1) := by decide +kernel
theorem dX6_isReading_12 : decode cX6_isReading 12 = .ok (.getfield 110, 3) := by decide +kernel
theorem dX6_isReading_15 : decode cX6_isReading 15 = .ok (.iconst 1, 1) := by decide +kernel
theorem dX6_isReading_16 : decode cX6_isReading 16 = .ok (.isub, 1) := by decide +kernel
theorem dX6_isReading_17 : decode cX6_isReading 17 = .ok (.invokestatic 69, 3) := by decide +kernel
theorem dX6_isReading_20 : decode cX6_isReading 20 = .ok (.ireturn, 1) := by decide +kernel
theorem dX6_isWorld_0 : decode cX6_isWorld 0 = .ok (.iload_n 0, 1) := by decide +kernel
theorem dX6_isWorld_1 : decode cX6_isWorld 1 = .ok (.iconst 0, 1) := by decide +kernel
theorem dX6_isWorld_2 : decode cX6_isWorld 2 = .ok (.bipush 63, 2) := by decide +kernel
theorem dX6_isWorld_4 : decode cX6_isWorld 4 = .ok (.invokestatic 69, 3) := by decide +kernel
theorem dX6_isWorld_7 : decode cX6_isWorld 7 = .ok (.ireturn, 1) := by decide +kernel
theorem dX6_reading_0 : decode cX6_reading 0 = .ok (.aload_n 0, 1) := by decide +kernel
theorem dX6_reading_1 : decode cX6_reading 1 = .ok (.iload_n 1, 1) := by decide +kernel
theorem dX6_reading_2 : decode cX6_reading 2 = .ok (.invokevirtual 148, 3) := by decide +kernel
theorem dX6_reading_5 : decode cX6_reading 5 = .ok (.ifCond .eq 15, 3) := by decide +kernel
theorem dX6_reading_8 : decode cX6_reading 8 = .ok (.aload_n 0, 1) := by decide +kernel
theorem dX6_reading_9 : decode cX6_reading 9 = .ok (.getfield 50, 3) := by decide +kernel
theorem dX6_reading_12 : decode cX6_reading 12 = .ok (.iload_n 1, 1) := by decide +kernel
theorem dX6_reading_13 : decode cX6_reading 13 = .ok (.laload, 1) := by decide +kernel
theorem dX6_reading_14 : decode cX6_reading 14 = .ok (.invokestatic 151, 3) := by decide +kernel
theorem dX6_reading_17 : decode cX6_reading 17 = .ok (.goto 5, 3) := by decide +kernel
theorem dX6_reading_20 : decode cX6_reading 20 = .ok (.bipush (-101), 2) := by decide +kernel
theorem dX6_reading_22 : decode cX6_reading 22 = .ok (.ireturn, 1) := by decide +kernel
theorem dX6_isSo_0 : decode cX6_isSo 0 = .ok (.aload_n 0, 1) := by decide +kernel
theorem dX6_isSo_1 : decode cX6_isSo 1 = .ok (.iload_n 1, 1) := by decide +kernel
theorem dX6_isSo_2 : decode cX6_isSo 2 = .ok (.invokevirtual 148, 3) := by decide +kernel
theorem dX6_isSo_5 : decode cX6_isSo 5 = .ok (.ifCond .eq 10, 3) := by decide +kernel
theorem dX6_isSo_8 : decode cX6_isSo 8 = .ok (.iload_n 2, 1) := by decide +kernel
theorem dX6_isSo_9 : decode cX6_isSo 9 = .ok (.invokestatic 155, 3) := by decide +kernel
theorem dX6_isSo_12 : decode cX6_isSo 12 = .ok (.ifCond .ne 6, 3) := by decide +kernel
theorem dX6_isSo_15 : decode cX6_isSo 15 = .ok (.bipush (-101), 2) := by decide +kernel
theorem dX6_isSo_17 : decode cX6_isSo 17 = .ok (.ireturn, 1) := by decide +kernel
theorem dX6_isSo_18 : decode cX6_isSo 18 = .ok (.aload_n 0, 1) := by decide +kernel
theorem dX6_isSo_19 : decode cX6_isSo 19 = .ok (.getfield 50, 3) := by decide +kernel
theorem dX6_isSo_22 : decode cX6_isSo 22 = .ok (.iload_n 1, 1) := by decide +kernel
theorem dX6_isSo_23 : decode cX6_isSo 23 = .ok (.laload, 1) := by decide +kernel
theorem dX6_isSo_24 : decode cX6_isSo 24 = .ok (.iload_n 2, 1) := by decide +kernel
theorem dX6_isSo_25 : decode cX6_isSo 25 = .ok (.invokestatic 158, 3) := by decide +kernel
theorem dX6_isSo_28 : decode cX6_isSo 28 = .ok (.ifCond .eq 7, 3) := by decide +kernel
theorem dX6_isSo_31 : decode cX6_isSo 31 = .ok (.iconst 1, 1) := by decide +kernel
theorem dX6_isSo_32 : decode cX6_isSo 32 = .ok (.goto 4, 3) := by decide +kernel
theorem dX6_isSo_35 : decode cX6_isSo 35 = .ok (.iconst 0, 1) := by decide +kernel
theorem dX6_isSo_36 : decode cX6_isSo 36 = .ok (.ireturn, 1) := by decide +kernel
theorem dX6_comeNow_0 : decode cX6_comeNow 0 = .ok (.iconst 0, 1) := by decide +kernel
theorem dX6_comeNow_1 : decode cX6_comeNow 1 = .ok (.istore_n 2, 1) := by decide +kernel
theorem dX6_comeNow_2 : decode cX6_comeNow 2 = .ok (.iconst (-1), 1) := by decide +kernel
theorem dX6_comeNow_3 : decode cX6_comeNow 3 = .ok (.istore_n 3, 1) := by decide +kernel
theorem dX6_comeNow_4 : decode cX6_comeNow 4 = .ok (.iconst 0, 1) := by decide +kernel
theorem dX6_comeNow_5 : decode cX6_comeNow 5 = .ok (.istore 4, 2) := by decide +kernel
theorem dX6_comeNow_7 : decode cX6_comeNow 7 = .ok (.iload 4, 2) := by decide +kernel
theorem dX6_comeNow_9 : decode cX6_comeNow 9 = .ok (.aload_n 0, 1) := by decide +kernel
theorem dX6_comeNow_10 : decode cX6_comeNow 10 = .ok (.getfield 110, 3) := by decide +kernel
theorem dX6_comeNow_13 : decode cX6_comeNow 13 = .ok (.if_icmp .ge 55, 3) := by decide +kernel
theorem dX6_comeNow_16 : decode cX6_comeNow 16 = .ok (.aload_n 0, 1) := by decide +kernel
theorem dX6_comeNow_17 : decode cX6_comeNow 17 = .ok (.getfield 50, 3) := by decide +kernel
theorem dX6_comeNow_20 : decode cX6_comeNow 20 = .ok (.iload 4, 2) := by decide +kernel
theorem dX6_comeNow_22 : decode cX6_comeNow 22 = .ok (.laload, 1) := by decide +kernel
theorem dX6_comeNow_23 : decode cX6_comeNow 23 = .ok (.aload_n 0, 1) := by decide +kernel
theorem dX6_comeNow_24 : decode cX6_comeNow 24 = .ok (.getfield 162, 3) := by decide +kernel
theorem dX6_comeNow_27 : decode cX6_comeNow 27 = .ok (.invokestatic 158, 3) := by decide +kernel
theorem dX6_comeNow_30 : decode cX6_comeNow 30 = .ok (.istore 5, 2) := by decide +kernel
theorem dX6_comeNow_32 : decode cX6_comeNow 32 = .ok (.iload_n 2, 1) := by decide +kernel
theorem dX6_comeNow_33 : decode cX6_comeNow 33 = .ok (.iload 5, 2) := by decide +kernel
theorem dX6_comeNow_35 : decode cX6_comeNow 35 = .ok (.ifCond .eq 7, 3) := by decide +kernel
theorem dX6_comeNow_38 : decode cX6_comeNow 38 = .ok (.iconst 1, 1) := by decide +kernel
theorem dX6_comeNow_39 : decode cX6_comeNow 39 = .ok (.goto 4, 3) := by decide +kernel
theorem dX6_comeNow_42 : decode cX6_comeNow 42 = .ok (.iconst 0, 1) := by decide +kernel
theorem dX6_comeNow_43 : decode cX6_comeNow 43 = .ok (.iadd, 1) := by decide +kernel
theorem dX6_comeNow_44 : decode cX6_comeNow 44 = .ok (.istore_n 2, 1) := by decide +kernel
theorem dX6_comeNow_45 : decode cX6_comeNow 45 = .ok (.iload 5, 2) := by decide +kernel
theorem dX6_comeNow_47 : decode cX6_comeNow 47 = .ok (.ifCond .eq 13, 3) := by decide +kernel
theorem dX6_comeNow_50 : decode cX6_comeNow 50 = .ok (.iload_n 3, 1) := by decide +kernel
theorem dX6_comeNow_51 : decode cX6_comeNow 51 = .ok (.iconst (-1), 1) := by decide +kernel
theorem dX6_comeNow_52 : decode cX6_comeNow 52 = .ok (.if_icmp .ne 8, 3) := by decide +kernel
theorem dX6_comeNow_55 : decode cX6_comeNow 55 = .ok (.iload 4, 2) := by decide +kernel
theorem dX6_comeNow_57 : decode cX6_comeNow 57 = .ok (.goto 4, 3) := by decide +kernel
theorem dX6_comeNow_60 : decode cX6_comeNow 60 = .ok (.iload_n 3, 1) := by decide +kernel
theorem dX6_comeNow_61 : decode cX6_comeNow 61 = .ok (.istore_n 3, 1) := by decide +kernel
theorem dX6_comeNow_62 : decode cX6_comeNow 62 = .ok (.iinc 4 1, 3) := by decide +kernel
theorem dX6_comeNow_65 : decode cX6_comeNow 65 = .ok (.goto (-58), 3) := by decide +kernel
theorem dX6_comeNow_68 : decode cX6_comeNow 68 = .ok (.iload_n 1, 1) := by decide +kernel
theorem dX6_comeNow_69 : decode cX6_comeNow 69 = .ok (.ifCond .ne 7, 3) := by decide +kernel
theorem dX6_comeNow_72 : decode cX6_comeNow 72 = .ok (.iload_n 2, 1) := by decide +kernel
theorem dX6_comeNow_73 : decode cX6_comeNow 73 = .ok (.goto 4, 3) := by decide +kernel
theorem dX6_comeNow_76 : decode cX6_comeNow 76 = .ok (.iload_n 3, 1) := by decide +kernel
theorem dX6_comeNow_77 : decode cX6_comeNow 77 = .ok (.ireturn, 1) := by decide +kernel
theorem dX6_come_0 : decode cX6_come 0 = .ok (.iload_n 1, 1) := by decide +kernel
theorem dX6_come_1 : decode cX6_come 1 = .ok (.iconst 0, 1) := by decide +kernel
theorem dX6_come_2 : decode cX6_come 2 = .ok (.iconst 1, 1) := by decide +kernel
theorem dX6_come_3 : decode cX6_come 3 = .ok (.invokestatic 69, 3) := by decide +kernel
theorem dX6_come_6 : decode cX6_come 6 = .ok (.ifCond .ne 6, 3) := by decide +kernel
theorem dX6_come_9 : decode cX6_come 9 = .ok (.bipush (-102), 2) := by decide +kernel
theorem dX6_come_11 : decode cX6_come 11 = .ok (.ireturn, 1) := by decide +kernel
theorem dX6_come_12 : decode cX6_come 12 = .ok (.aload_n 0, 1) := by decide +kernel
theorem dX6_come_13 : decode cX6_come 13 = .ok (.getfield 97, 3) := by decide +kernel
theorem dX6_come_16 : decode cX6_come 16 = .ok (.ifCond .ne 6, 3) := by decide +kernel
theorem dX6_come_19 : decode cX6_come 19 = .ok (.bipush (-103), 2) := by decide +kernel
theorem dX6_come_21 : decode cX6_come 21 = .ok (.ireturn, 1) := by decide +kernel
theorem dX6_come_22 : decode cX6_come 22 = .ok (.aload_n 0, 1) := by decide +kernel
theorem dX6_come_23 : decode cX6_come 23 = .ok (.aload_n 0, 1) := by decide +kernel
theorem dX6_come_24 : decode cX6_come 24 = .ok (.getfield 97, 3) := by decide +kernel
theorem dX6_come_27 : decode cX6_come 27 = .ok (.iconst 0, 1) := by decide +kernel
theorem dX6_come_28 : decode cX6_come 28 = .ok (.invokevirtual 106, 3) := by decide +kernel
theorem dX6_come_31 : decode cX6_come 31 = .ok (.aload_n 0, 1) := by decide +kernel
theorem dX6_come_32 : decode cX6_come 32 = .ok (.iload_n 1, 1) := by decide +kernel
theorem dX6_come_33 : decode cX6_come 33 = .ok (.invokevirtual 165, 3) := by decide +kernel
theorem dX6_come_36 : decode cX6_come 36 = .ok (.ireturn, 1) := by decide +kernel
theorem dX6_isFact_0 : decode cX6_isFact 0 = .ok (.iload_n 0, 1) := by decide +kernel
theorem dX6_isFact_1 : decode cX6_isFact 1 = .ok (.iconst 0, 1) := by decide +kernel
theorem dX6_isFact_2 : decode cX6_isFact 2 = .ok (.iconst 5, 1) := by decide +kernel
theorem dX6_isFact_3 : decode cX6_isFact 3 = .ok (.invokestatic 69, 3) := by decide +kernel
theorem dX6_isFact_6 : decode cX6_isFact 6 = .ok (.ireturn, 1) := by decide +kernel
theorem dX6_fact_0 : decode cX6_fact 0 = .ok (.iload_n 1, 1) := by decide +kernel
theorem dX6_fact_1 : decode cX6_fact 1 = .ok (.invokestatic 168, 3) := by decide +kernel
theorem dX6_fact_4 : decode cX6_fact 4 = .ok (.ifCond .eq 14, 3) := by decide +kernel
theorem dX6_fact_7 : decode cX6_fact 7 = .ok (.aload_n 0, 1) := by decide +kernel
theorem dX6_fact_8 : decode cX6_fact 8 = .ok (.getfield 162, 3) := by decide +kernel
theorem dX6_fact_11 : decode cX6_fact 11 = .ok (.iload_n 1, 1) := by decide +kernel
theorem dX6_fact_12 : decode cX6_fact 12 = .ok (.ishr, 1) := by decide +kernel
theorem dX6_fact_13 : decode cX6_fact 13 = .ok (.iconst 1, 1) := by decide +kernel
theorem dX6_fact_14 : decode cX6_fact 14 = .ok (.iand, 1) := by decide +kernel
theorem dX6_fact_15 : decode cX6_fact 15 = .ok (.goto 5, 3) := by decide +kernel
theorem dX6_fact_18 : decode cX6_fact 18 = .ok (.bipush (-101), 2) := by decide +kernel
theorem dX6_fact_20 : decode cX6_fact 20 = .ok (.ireturn, 1) := by decide +kernel
theorem dX6_with_0 : decode cX6_with 0 = .ok (.iload_n 0, 1) := by decide +kernel
theorem dX6_with_1 : decode cX6_with 1 = .ok (.iconst 1, 1) := by decide +kernel
theorem dX6_with_2 : decode cX6_with 2 = .ok (.iload_n 1, 1) := by decide +kernel
theorem dX6_with_3 : decode cX6_with 3 = .ok (.ishl, 1) := by decide +kernel
theorem dX6_with_4 : decode cX6_with 4 = .ok (.iconst (-1), 1) := by decide +kernel
theorem dX6_with_5 : decode cX6_with 5 = .ok (.ixor, 1) := by decide +kernel
theorem dX6_with_6 : decode cX6_with 6 = .ok (.iand, 1) := by decide +kernel
theorem dX6_with_7 : decode cX6_with 7 = .ok (.iload_n 2, 1) := by decide +kernel
theorem dX6_with_8 : decode cX6_with 8 = .ok (.iload_n 1, 1) := by decide +kernel
theorem dX6_with_9 : decode cX6_with 9 = .ok (.ishl, 1) := by decide +kernel
theorem dX6_with_10 : decode cX6_with 10 = .ok (.ior, 1) := by decide +kernel
theorem dX6_with_11 : decode cX6_with 11 = .ok (.ireturn, 1) := by decide +kernel
theorem dX6_set_0 : decode cX6_set 0 = .ok (.iload_n 1, 1) := by decide +kernel
theorem dX6_set_1 : decode cX6_set 1 = .ok (.invokestatic 168, 3) := by decide +kernel
theorem dX6_set_4 : decode cX6_set 4 = .ok (.ifCond .ne 6, 3) := by decide +kernel
theorem dX6_set_7 : decode cX6_set 7 = .ok (.bipush (-101), 2) := by decide +kernel
theorem dX6_set_9 : decode cX6_set 9 = .ok (.ireturn, 1) := by decide +kernel
theorem dX6_set_10 : decode cX6_set 10 = .ok (.iload_n 2, 1) := by decide +kernel
theorem dX6_set_11 : decode cX6_set 11 = .ok (.iconst 0, 1) := by decide +kernel
theorem dX6_set_12 : decode cX6_set 12 = .ok (.iconst 1, 1) := by decide +kernel
theorem dX6_set_13 : decode cX6_set 13 = .ok (.invokestatic 69, 3) := by decide +kernel
theorem dX6_set_16 : decode cX6_set 16 = .ok (.ifCond .ne 6, 3) := by decide +kernel
theorem dX6_set_19 : decode cX6_set 19 = .ok (.bipush (-102), 2) := by decide +kernel
theorem dX6_set_21 : decode cX6_set 21 = .ok (.ireturn, 1) := by decide +kernel
theorem dX6_set_22 : decode cX6_set 22 = .ok (.aload_n 0, 1) := by decide +kernel
theorem dX6_set_23 : decode cX6_set 23 = .ok (.getfield 162, 3) := by decide +kernel
theorem dX6_set_26 : decode cX6_set 26 = .ok (.iload_n 1, 1) := by decide +kernel
theorem dX6_set_27 : decode cX6_set 27 = .ok (.ishr, 1) := by decide +kernel
theorem dX6_set_28 : decode cX6_set 28 = .ok (.iconst 1, 1) := by decide +kernel
theorem dX6_set_29 : decode cX6_set 29 = .ok (.iand, 1) := by decide +kernel
theorem dX6_set_30 : decode cX6_set 30 = .ok (.istore_n 3, 1) := by decide +kernel
theorem dX6_set_31 : decode cX6_set 31 = .ok (.aload_n 0, 1) := by decide +kernel
theorem dX6_set_32 : decode cX6_set 32 = .ok (.aload_n 0, 1) := by decide +kernel
theorem dX6_set_33 : decode cX6_set 33 = .ok (.getfield 162, 3) := by decide +kernel
theorem dX6_set_36 : decode cX6_set 36 = .ok (.iload_n 1, 1) := by decide +kernel
theorem dX6_set_37 : decode cX6_set 37 = .ok (.iload_n 2, 1) := by decide +kernel
theorem dX6_set_38 : decode cX6_set 38 = .ok (.invokestatic 171, 3) := by decide +kernel
theorem dX6_set_41 : decode cX6_set 41 = .ok (.putfield 162, 3) := by decide +kernel
theorem dX6_set_44 : decode cX6_set 44 = .ok (.iload_n 3, 1) := by decide +kernel
theorem dX6_set_45 : decode cX6_set 45 = .ok (.ireturn, 1) := by decide +kernel
theorem dX6_isHearer_0 : decode cX6_isHearer 0 = .ok (.iload_n 1, 1) := by decide +kernel
theorem dX6_isHearer_1 : decode cX6_isHearer 1 = .ok (.iconst 0, 1) := by decide +kernel
theorem dX6_isHearer_2 : decode cX6_isHearer 2 = .ok (.aload_n 0, 1) := by decide +kernel
theorem dX6_isHearer_3 : decode cX6_isHearer 3 = .ok (.getfield 175, 3) := by decide +kernel
theorem dX6_isHearer_6 : decode cX6_isHearer 6 = .ok (.iconst 1, 1) := by decide +kernel
theorem dX6_isHearer_7 : decode cX6_isHearer 7 = .ok (.isub, 1) := by decide +kernel
theorem dX6_isHearer_8 : decode cX6_isHearer 8 = .ok (.invokestatic 69, 3) := by decide +kernel
theorem dX6_isHearer_11 : decode cX6_isHearer 11 = .ok (.ireturn, 1) := by decide +kernel
theorem dX6_hearer_0 : decode cX6_hearer 0 = .ok (.iload_n 2, 1) := by decide +kernel
theorem dX6_hearer_1 : decode cX6_hearer 1 = .ok (.invokestatic 168, 3) := by decide +kernel
theorem dX6_hearer_4 : decode cX6_hearer 4 = .ok (.ifCond .ne 6, 3) := by decide +kernel
theorem dX6_hearer_7 : decode cX6_hearer 7 = .ok (.bipush (-101), 2) := by decide +kernel
theorem dX6_hearer_9 : decode cX6_hearer 9 = .ok (.ireturn, 1) := by decide +kernel
theorem dX6_hearer_10 : decode cX6_hearer 10 = .ok (.iload_n 1, 1) := by decide +kernel
theorem dX6_hearer_11 : decode cX6_hearer 11 = .ok (.iconst 0, 1) := by decide +kernel
theorem dX6_hearer_12 : decode cX6_hearer 12 = .ok (.iconst 4, 1) := by decide +kernel
theorem dX6_hearer_13 : decode cX6_hearer 13 = .ok (.invokestatic 69, 3) := by decide +kernel
theorem dX6_hearer_16 : decode cX6_hearer 16 = .ok (.ifCond .eq 12, 3) := by decide +kernel
theorem dX6_hearer_19 : decode cX6_hearer 19 = .ok (.iload_n 3, 1) := by decide +kernel
theorem dX6_hearer_20 : decode cX6_hearer 20 = .ok (.iconst 0, 1) := by decide +kernel
theorem dX6_hearer_21 : decode cX6_hearer 21 = .ok (.iconst 1, 1) := by decide +kernel
theorem dX6_hearer_22 : decode cX6_hearer 22 = .ok (.invokestatic 69, 3) := by decide +kernel
theorem dX6_hearer_25 : decode cX6_hearer 25 = .ok (.ifCond .ne 6, 3) := by decide +kernel
theorem dX6_hearer_28 : decode cX6_hearer 28 = .ok (.bipush (-102), 2) := by decide +kernel
theorem dX6_hearer_30 : decode cX6_hearer 30 = .ok (.ireturn, 1) := by decide +kernel
theorem dX6_hearer_31 : decode cX6_hearer 31 = .ok (.aload_n 0, 1) := by decide +kernel
theorem dX6_hearer_32 : decode cX6_hearer 32 = .ok (.getfield 175, 3) := by decide +kernel
theorem dX6_hearer_35 : decode cX6_hearer 35 = .ok (.iconst 4, 1) := by decide +kernel
theorem dX6_hearer_36 : decode cX6_hearer 36 = .ok (.if_icmp .ne 6, 3) := by decide +kernel
theorem dX6_hearer_39 : decode cX6_hearer 39 = .ok (.bipush (-104), 2) := by decide +kernel
theorem dX6_hearer_41 : decode cX6_hearer 41 = .ok (.ireturn, 1) := by decide +kernel
theorem dX6_hearer_42 : decode cX6_hearer 42 = .ok (.aload_n 0, 1) := by decide +kernel
theorem dX6_hearer_43 : decode cX6_hearer 43 = .ok (.getfield 25, 3) := by decide +kernel
theorem dX6_hearer_46 : decode cX6_hearer 46 = .ok (.aload_n 0, 1) := by decide +kernel
theorem dX6_hearer_47 : decode cX6_hearer 47 = .ok (.getfield 175, 3) := by decide +kernel
theorem dX6_hearer_50 : decode cX6_hearer 50 = .ok (.iload_n 1, 1) := by decide +kernel
theorem dX6_hearer_51 : decode cX6_hearer 51 = .ok (.iastore, 1) := by decide +kernel
theorem dX6_hearer_52 : decode cX6_hearer 52 = .ok (.aload_n 0, 1) := by decide +kernel
theorem dX6_hearer_53 : decode cX6_hearer 53 = .ok (.getfield 28, 3) := by decide +kernel
theorem dX6_hearer_56 : decode cX6_hearer 56 = .ok (.aload_n 0, 1) := by decide +kernel
theorem dX6_hearer_57 : decode cX6_hearer 57 = .ok (.getfield 175, 3) := by decide +kernel
theorem dX6_hearer_60 : decode cX6_hearer 60 = .ok (.iload_n 2, 1) := by decide +kernel
theorem dX6_hearer_61 : decode cX6_hearer 61 = .ok (.iastore, 1) := by decide +kernel
theorem dX6_hearer_62 : decode cX6_hearer 62 = .ok (.aload_n 0, 1) := by decide +kernel
theorem dX6_hearer_63 : decode cX6_hearer 63 = .ok (.getfield 31, 3) := by decide +kernel
theorem dX6_hearer_66 : decode cX6_hearer 66 = .ok (.aload_n 0, 1) := by decide +kernel
theorem dX6_hearer_67 : decode cX6_hearer 67 = .ok (.getfield 175, 3) := by decide +kernel
theorem dX6_hearer_70 : decode cX6_hearer 70 = .ok (.iload_n 3, 1) := by decide +kernel
theorem dX6_hearer_71 : decode cX6_hearer 71 = .ok (.iastore, 1) := by decide +kernel
theorem dX6_hearer_72 : decode cX6_hearer 72 = .ok (.aload_n 0, 1) := by decide +kernel
theorem dX6_hearer_73 : decode cX6_hearer 73 = .ok (.getfield 34, 3) := by decide +kernel
theorem dX6_hearer_76 : decode cX6_hearer 76 = .ok (.aload_n 0, 1) := by decide +kernel
theorem dX6_hearer_77 : decode cX6_hearer 77 = .ok (.getfield 175, 3) := by decide +kernel
theorem dX6_hearer_80 : decode cX6_hearer 80 = .ok (.iconst 0, 1) := by decide +kernel
theorem dX6_hearer_81 : decode cX6_hearer 81 = .ok (.iastore, 1) := by decide +kernel
theorem dX6_hearer_82 : decode cX6_hearer 82 = .ok (.aload_n 0, 1) := by decide +kernel
theorem dX6_hearer_83 : decode cX6_hearer 83 = .ok (.dup, 1) := by decide +kernel
theorem dX6_hearer_84 : decode cX6_hearer 84 = .ok (.getfield 175, 3) := by decide +kernel
theorem dX6_hearer_87 : decode cX6_hearer 87 = .ok (.iconst 1, 1) := by decide +kernel
theorem dX6_hearer_88 : decode cX6_hearer 88 = .ok (.iadd, 1) := by decide +kernel
theorem dX6_hearer_89 : decode cX6_hearer 89 = .ok (.putfield 175, 3) := by decide +kernel
theorem dX6_hearer_92 : decode cX6_hearer 92 = .ok (.aload_n 0, 1) := by decide +kernel
theorem dX6_hearer_93 : decode cX6_hearer 93 = .ok (.getfield 175, 3) := by decide +kernel
theorem dX6_hearer_96 : decode cX6_hearer 96 = .ok (.iconst 1, 1) := by decide +kernel
theorem dX6_hearer_97 : decode cX6_hearer 97 = .ok (.isub, 1) := by decide +kernel
theorem dX6_hearer_98 : decode cX6_hearer 98 = .ok (.ireturn, 1) := by decide +kernel
theorem dX6_takes_0 : decode cX6_takes 0 = .ok (.aload_n 0, 1) := by decide +kernel
theorem dX6_takes_1 : decode cX6_takes 1 = .ok (.getfield 25, 3) := by decide +kernel
theorem dX6_takes_4 : decode cX6_takes 4 = .ok (.iload_n 1, 1) := by decide +kernel
theorem dX6_takes_5 : decode cX6_takes 5 = .ok (.iaload, 1) := by decide +kernel
theorem dX6_takes_6 : decode cX6_takes 6 = .ok (.ifCond .eq 10, 3) := by decide +kernel
theorem dX6_takes_9 : decode cX6_takes 9 = .ok (.aload_n 0, 1) := by decide +kernel
theorem dX6_takes_10 : decode cX6_takes 10 = .ok (.getfield 110, 3) := by decide +kernel
theorem dX6_takes_13 : decode cX6_takes 13 = .ok (.ifCond .ne 16, 3) := by decide +kernel
theorem dX6_takes_16 : decode cX6_takes 16 = .ok (.aload_n 0, 1) := by decide +kernel
theorem dX6_takes_17 : decode cX6_takes 17 = .ok (.getfield 110, 3) := by decide +kernel
theorem dX6_takes_20 : decode cX6_takes 20 = .ok (.ifCond .ne 7, 3) := by decide +kernel
theorem dX6_takes_23 : decode cX6_takes 23 = .ok (.iconst (-1), 1) := by decide +kernel
theorem dX6_takes_24 : decode cX6_takes 24 = .ok (.goto 4, 3) := by decide +kernel
theorem dX6_takes_27 : decode cX6_takes 27 = .ok (.iconst 0, 1) := by decide +kernel
theorem dX6_takes_28 : decode cX6_takes 28 = .ok (.ireturn, 1) := by decide +kernel
theorem dX6_takes_29 : decode cX6_takes 29 = .ok (.aload_n 0, 1) := by decide +kernel
theorem dX6_takes_30 : decode cX6_takes 30 = .ok (.getfield 25, 3) := by decide +kernel
theorem dX6_takes_33 : decode cX6_takes 33 = .ok (.iload_n 1, 1) := by decide +kernel
theorem dX6_takes_34 : decode cX6_takes 34 = .ok (.iaload, 1) := by decide +kernel
theorem dX6_takes_35 : decode cX6_takes 35 = .ok (.iconst 1, 1) := by decide +kernel
theorem dX6_takes_36 : decode cX6_takes 36 = .ok (.if_icmp .ne 10, 3) := by decide +kernel
theorem dX6_takes_39 : decode cX6_takes 39 = .ok (.aload_n 0, 1) := by decide +kernel
theorem dX6_takes_40 : decode cX6_takes 40 = .ok (.getfield 110, 3) := by decide +kernel
theorem dX6_takes_43 : decode cX6_takes 43 = .ok (.iconst 1, 1) := by decide +kernel
theorem dX6_takes_44 : decode cX6_takes 44 = .ok (.isub, 1) := by decide +kernel
theorem dX6_takes_45 : decode cX6_takes 45 = .ok (.ireturn, 1) := by decide +kernel
theorem dX6_takes_46 : decode cX6_takes 46 = .ok (.iconst 0, 1) := by decide +kernel
theorem dX6_takes_47 : decode cX6_takes 47 = .ok (.istore_n 2, 1) := by decide +kernel
theorem dX6_takes_48 : decode cX6_takes 48 = .ok (.iconst 1, 1) := by decide +kernel
theorem dX6_takes_49 : decode cX6_takes 49 = .ok (.istore_n 3, 1) := by decide +kernel
theorem dX6_takes_50 : decode cX6_takes 50 = .ok (.iload_n 3, 1) := by decide +kernel
theorem dX6_takes_51 : decode cX6_takes 51 = .ok (.aload_n 0, 1) := by decide +kernel
theorem dX6_takes_52 : decode cX6_takes 52 = .ok (.getfield 110, 3) := by decide +kernel
theorem dX6_takes_55 : decode cX6_takes 55 = .ok (.if_icmp .ge 64, 3) := by decide +kernel
theorem dX6_takes_58 : decode cX6_takes 58 = .ok (.aload_n 0, 1) := by decide +kernel
theorem dX6_takes_59 : decode cX6_takes 59 = .ok (.getfield 50, 3) := by decide +kernel
theorem dX6_takes_62 : decode cX6_takes 62 = .ok (.iload_n 3, 1) := by decide +kernel
theorem dX6_takes_63 : decode cX6_takes 63 = .ok (.laload, 1) := by decide +kernel
theorem dX6_takes_64 : decode cX6_takes 64 = .ok (.invokestatic 151, 3) := by decide +kernel
theorem dX6_takes_67 : decode cX6_takes 67 = .ok (.istore 4, 2) := by decide +kernel
theorem dX6_takes_69 : decode cX6_takes 69 = .ok (.aload_n 0, 1) := by decide +kernel
theorem dX6_takes_70 : decode cX6_takes 70 = .ok (.getfield 50, 3) := by decide +kernel
theorem dX6_takes_73 : decode cX6_takes 73 = .ok (.iload_n 2, 1) := by decide +kernel
theorem dX6_takes_74 : decode cX6_takes 74 = .ok (.laload, 1) := by decide +kernel
theorem dX6_takes_75 : decode cX6_takes 75 = .ok (.invokestatic 151, 3) := by decide +kernel
theorem dX6_takes_78 : decode cX6_takes 78 = .ok (.istore 5, 2) := by decide +kernel
theorem dX6_takes_80 : decode cX6_takes 80 = .ok (.aload_n 0, 1) := by decide +kernel
theorem dX6_takes_81 : decode cX6_takes 81 = .ok (.getfield 25, 3) := by decide +kernel
theorem dX6_takes_84 : decode cX6_takes 84 = .ok (.iload_n 1, 1) := by decide +kernel
theorem dX6_takes_85 : decode cX6_takes 85 = .ok (.iaload, 1) := by decide +kernel
theorem dX6_takes_86 : decode cX6_takes 86 = .ok (.iconst 2, 1) := by decide +kernel
theorem dX6_takes_87 : decode cX6_takes 87 = .ok (.if_icmp .ne 13, 3) := by decide +kernel
theorem dX6_takes_90 : decode cX6_takes 90 = .ok (.iload 4, 2) := by decide +kernel
theorem dX6_takes_92 : decode cX6_takes 92 = .ok (.iload 5, 2) := by decide +kernel
theorem dX6_takes_94 : decode cX6_takes 94 = .ok (.if_icmp .le 17, 3) := by decide +kernel
theorem dX6_takes_97 : decode cX6_takes 97 = .ok (.goto 10, 3) := by decide +kernel
theorem dX6_takes_100 : decode cX6_takes 100 = .ok (.iload 4, 2) := by decide +kernel
theorem dX6_takes_102 : decode cX6_takes 102 = .ok (.iload 5, 2) := by decide +kernel
theorem dX6_takes_104 : decode cX6_takes 104 = .ok (.if_icmp .ge 7, 3) := by decide +kernel
theorem dX6_takes_107 : decode cX6_takes 107 = .ok (.iload_n 3, 1) := by decide +kernel
theorem dX6_takes_108 : decode cX6_takes 108 = .ok (.goto 4, 3) := by decide +kernel
theorem dX6_takes_111 : decode cX6_takes 111 = .ok (.iload_n 2, 1) := by decide +kernel
theorem dX6_takes_112 : decode cX6_takes 112 = .ok (.istore_n 2, 1) := by decide +kernel
theorem dX6_takes_113 : decode cX6_takes 113 = .ok (.iinc 3 1, 3) := by decide +kernel
theorem dX6_takes_116 : decode cX6_takes 116 = .ok (.goto (-66), 3) := by decide +kernel
theorem dX6_takes_119 : decode cX6_takes 119 = .ok (.iload_n 2, 1) := by decide +kernel
theorem dX6_takes_120 : decode cX6_takes 120 = .ok (.ireturn, 1) := by decide +kernel
theorem dX6_actsBy_0 : decode cX6_actsBy 0 = .ok (.aload_n 0, 1) := by decide +kernel
theorem dX6_actsBy_1 : decode cX6_actsBy 1 = .ok (.getfield 50, 3) := by decide +kernel
theorem dX6_actsBy_4 : decode cX6_actsBy 4 = .ok (.iload_n 2, 1) := by decide +kernel
theorem dX6_actsBy_5 : decode cX6_actsBy 5 = .ok (.laload, 1) := by decide +kernel
theorem dX6_actsBy_6 : decode cX6_actsBy 6 = .ok (.iload_n 3, 1) := by decide +kernel
theorem dX6_actsBy_7 : decode cX6_actsBy 7 = .ok (.invokestatic 158, 3) := by decide +kernel
theorem dX6_actsBy_10 : decode cX6_actsBy 10 = .ok (.aload_n 0, 1) := by decide +kernel
theorem dX6_actsBy_11 : decode cX6_actsBy 11 = .ok (.getfield 25, 3) := by decide +kernel
theorem dX6_actsBy_14 : decode cX6_actsBy 14 = .ok (.iload_n 1, 1) := by decide +kernel
theorem dX6_actsBy_15 : decode cX6_actsBy 15 = .ok (.iaload, 1) := by decide +kernel
theorem dX6_actsBy_16 : decode cX6_actsBy 16 = .ok (.iconst 4, 1) := by decide +kernel
theorem dX6_actsBy_17 : decode cX6_actsBy 17 = .ok (.if_icmp .ne 7, 3) := by decide +kernel
theorem dX6_actsBy_20 : decode cX6_actsBy 20 = .ok (.iconst 1, 1) := by decide +kernel
theorem dX6_actsBy_21 : decode cX6_actsBy 21 = .ok (.goto 4, 3) := by decide +kernel
theorem dX6_actsBy_24 : decode cX6_actsBy 24 = .ok (.iconst 0, 1) := by decide +kernel
theorem dX6_actsBy_25 : decode cX6_actsBy 25 = .ok (.if_icmp .ne 7, 3) := by decide +kernel
theorem dX6_actsBy_28 : decode cX6_actsBy 28 = .ok (.iconst 1, 1) := by decide +kernel
theorem dX6_actsBy_29 : decode cX6_actsBy 29 = .ok (.goto 4, 3) := by decide +kernel
theorem dX6_actsBy_32 : decode cX6_actsBy 32 = .ok (.iconst 0, 1) := by decide +kernel
theorem dX6_actsBy_33 : decode cX6_actsBy 33 = .ok (.ireturn, 1) := by decide +kernel
theorem dX6_behind_0 : decode cX6_behind 0 = .ok (.aload_n 0, 1) := by decide +kernel
theorem dX6_behind_1 : decode cX6_behind 1 = .ok (.iload_n 1, 1) := by decide +kernel
theorem dX6_behind_2 : decode cX6_behind 2 = .ok (.iload_n 2, 1) := by decide +kernel
theorem dX6_behind_3 : decode cX6_behind 3 = .ok (.iload_n 3, 1) := by decide +kernel
theorem dX6_behind_4 : decode cX6_behind 4 = .ok (.invokevirtual 178, 3) := by decide +kernel
theorem dX6_behind_7 : decode cX6_behind 7 = .ok (.ifCond .eq 22, 3) := by decide +kernel
theorem dX6_behind_10 : decode cX6_behind 10 = .ok (.iload_n 3, 1) := by decide +kernel
theorem dX6_behind_11 : decode cX6_behind 11 = .ok (.aload_n 0, 1) := by decide +kernel
theorem dX6_behind_12 : decode cX6_behind 12 = .ok (.getfield 28, 3) := by decide +kernel
theorem dX6_behind_15 : decode cX6_behind 15 = .ok (.iload_n 1, 1) := by decide +kernel
theorem dX6_behind_16 : decode cX6_behind 16 = .ok (.iaload, 1) := by decide +kernel
theorem dX6_behind_17 : decode cX6_behind 17 = .ok (.aload_n 0, 1) := by decide +kernel
theorem dX6_behind_18 : decode cX6_behind 18 = .ok (.getfield 31, 3) := by decide +kernel
theorem dX6_behind_21 : decode cX6_behind 21 = .ok (.iload_n 1, 1) := by decide +kernel
theorem dX6_behind_22 : decode cX6_behind 22 = .ok (.iaload, 1) := by decide +kernel
theorem dX6_behind_23 : decode cX6_behind 23 = .ok (.invokestatic 171, 3) := by decide +kernel
theorem dX6_behind_26 : decode cX6_behind 26 = .ok (.goto 4, 3) := by decide +kernel
theorem dX6_behind_29 : decode cX6_behind 29 = .ok (.iload_n 3, 1) := by decide +kernel
theorem dX6_behind_30 : decode cX6_behind 30 = .ok (.ireturn, 1) := by decide +kernel
theorem dX6_hearerNow_0 : decode cX6_hearerNow 0 = .ok (.aload_n 0, 1) := by decide +kernel
theorem dX6_hearerNow_1 : decode cX6_hearerNow 1 = .ok (.iload_n 1, 1) := by decide +kernel
theorem dX6_hearerNow_2 : decode cX6_hearerNow 2 = .ok (.invokevirtual 181, 3) := by decide +kernel
theorem dX6_hearerNow_5 : decode cX6_hearerNow 5 = .ok (.istore_n 3, 1) := by decide +kernel
theorem dX6_hearerNow_6 : decode cX6_hearerNow 6 = .ok (.iload_n 2, 1) := by decide +kernel
theorem dX6_hearerNow_7 : decode cX6_hearerNow 7 = .ok (.tableswitch 80 0 4 #[33, 40, 47, 54, 56], 33) := by decide +kernel
theorem dX6_hearerNow_40 : decode cX6_hearerNow 40 = .ok (.aload_n 0, 1) := by decide +kernel
theorem dX6_hearerNow_41 : decode cX6_hearerNow 41 = .ok (.getfield 25, 3) := by decide +kernel
theorem dX6_hearerNow_44 : decode cX6_hearerNow 44 = .ok (.iload_n 1, 1) := by decide +kernel
theorem dX6_hearerNow_45 : decode cX6_hearerNow 45 = .ok (.iaload, 1) := by decide +kernel
theorem dX6_hearerNow_46 : decode cX6_hearerNow 46 = .ok (.ireturn, 1) := by decide +kernel
theorem dX6_hearerNow_47 : decode cX6_hearerNow 47 = .ok (.aload_n 0, 1) := by decide +kernel
theorem dX6_hearerNow_48 : decode cX6_hearerNow 48 = .ok (.getfield 28, 3) := by decide +kernel
theorem dX6_hearerNow_51 : decode cX6_hearerNow 51 = .ok (.iload_n 1, 1) := by decide +kernel
theorem dX6_hearerNow_52 : decode cX6_hearerNow 52 = .ok (.iaload, 1) := by decide +kernel
theorem dX6_hearerNow_53 : decode cX6_hearerNow 53 = .ok (.ireturn, 1) := by decide +kernel
theorem dX6_hearerNow_54 : decode cX6_hearerNow 54 = .ok (.aload_n 0, 1) := by decide +kernel
theorem dX6_hearerNow_55 : decode cX6_hearerNow 55 = .ok (.getfield 31, 3) := by decide +kernel
theorem dX6_hearerNow_58 : decode cX6_hearerNow 58 = .ok (.iload_n 1, 1) := by decide +kernel
theorem dX6_hearerNow_59 : decode cX6_hearerNow 59 = .ok (.iaload, 1) := by decide +kernel
theorem dX6_hearerNow_60 : decode cX6_hearerNow 60 = .ok (.ireturn, 1) := by decide +kernel
theorem dX6_hearerNow_61 : decode cX6_hearerNow 61 = .ok (.iload_n 3, 1) := by decide +kernel
theorem dX6_hearerNow_62 : decode cX6_hearerNow 62 = .ok (.ireturn, 1) := by decide +kernel
theorem dX6_hearerNow_63 : decode cX6_hearerNow 63 = .ok (.iload_n 3, 1) := by decide +kernel
theorem dX6_hearerNow_64 : decode cX6_hearerNow 64 = .ok (.iconst (-1), 1) := by decide +kernel
theorem dX6_hearerNow_65 : decode cX6_hearerNow 65 = .ok (.if_icmp .eq 20, 3) := by decide +kernel
theorem dX6_hearerNow_68 : decode cX6_hearerNow 68 = .ok (.aload_n 0, 1) := by decide +kernel
theorem dX6_hearerNow_69 : decode cX6_hearerNow 69 = .ok (.iload_n 1, 1) := by decide +kernel
theorem dX6_hearerNow_70 : decode cX6_hearerNow 70 = .ok (.iload_n 3, 1) := by decide +kernel
theorem dX6_hearerNow_71 : decode cX6_hearerNow 71 = .ok (.aload_n 0, 1) := by decide +kernel
theorem dX6_hearerNow_72 : decode cX6_hearerNow 72 = .ok (.getfield 162, 3) := by decide +kernel
theorem dX6_hearerNow_75 : decode cX6_hearerNow 75 = .ok (.invokevirtual 178, 3) := by decide +kernel
theorem dX6_hearerNow_78 : decode cX6_hearerNow 78 = .ok (.ifCond .eq 7, 3) := by decide +kernel
theorem dX6_hearerNow_81 : decode cX6_hearerNow 81 = .ok (.iconst 1, 1) := by decide +kernel
theorem dX6_hearerNow_82 : decode cX6_hearerNow 82 = .ok (.goto 4, 3) := by decide +kernel
theorem dX6_hearerNow_85 : decode cX6_hearerNow 85 = .ok (.iconst 0, 1) := by decide +kernel
theorem dX6_hearerNow_86 : decode cX6_hearerNow 86 = .ok (.ireturn, 1) := by decide +kernel
theorem dX6_hearerNow_87 : decode cX6_hearerNow 87 = .ok (.aload_n 0, 1) := by decide +kernel
theorem dX6_hearerNow_88 : decode cX6_hearerNow 88 = .ok (.getfield 34, 3) := by decide +kernel
theorem dX6_hearerNow_91 : decode cX6_hearerNow 91 = .ok (.iload_n 1, 1) := by decide +kernel
theorem dX6_hearerNow_92 : decode cX6_hearerNow 92 = .ok (.iaload, 1) := by decide +kernel
theorem dX6_hearerNow_93 : decode cX6_hearerNow 93 = .ok (.ireturn, 1) := by decide +kernel
theorem dX6_about_0 : decode cX6_about 0 = .ok (.aload_n 0, 1) := by decide +kernel
theorem dX6_about_1 : decode cX6_about 1 = .ok (.iload_n 1, 1) := by decide +kernel
theorem dX6_about_2 : decode cX6_about 2 = .ok (.invokevirtual 184, 3) := by decide +kernel
theorem dX6_about_5 : decode cX6_about 5 = .ok (.ifCond .ne 6, 3) := by decide +kernel
theorem dX6_about_8 : decode cX6_about 8 = .ok (.bipush (-101), 2) := by decide +kernel
theorem dX6_about_10 : decode cX6_about 10 = .ok (.ireturn, 1) := by decide +kernel
theorem dX6_about_11 : decode cX6_about 11 = .ok (.aload_n 0, 1) := by decide +kernel
theorem dX6_about_12 : decode cX6_about 12 = .ok (.aload_n 0, 1) := by decide +kernel
theorem dX6_about_13 : decode cX6_about 13 = .ok (.getfield 97, 3) := by decide +kernel
theorem dX6_about_16 : decode cX6_about 16 = .ok (.iconst 0, 1) := by decide +kernel
theorem dX6_about_17 : decode cX6_about 17 = .ok (.invokevirtual 106, 3) := by decide +kernel
theorem dX6_about_20 : decode cX6_about 20 = .ok (.iload_n 2, 1) := by decide +kernel
theorem dX6_about_21 : decode cX6_about 21 = .ok (.iconst 0, 1) := by decide +kernel
theorem dX6_about_22 : decode cX6_about 22 = .ok (.iconst 5, 1) := by decide +kernel
theorem dX6_about_23 : decode cX6_about 23 = .ok (.invokestatic 69, 3) := by decide +kernel
theorem dX6_about_26 : decode cX6_about 26 = .ok (.ifCond .eq 12, 3) := by decide +kernel
theorem dX6_about_29 : decode cX6_about 29 = .ok (.aload_n 0, 1) := by decide +kernel
theorem dX6_about_30 : decode cX6_about 30 = .ok (.iload_n 1, 1) := by decide +kernel
theorem dX6_about_31 : decode cX6_about 31 = .ok (.iload_n 2, 1) := by decide +kernel
theorem dX6_about_32 : decode cX6_about 32 = .ok (.invokevirtual 187, 3) := by decide +kernel
theorem dX6_about_35 : decode cX6_about 35 = .ok (.goto 5, 3) := by decide +kernel
theorem dX6_about_38 : decode cX6_about 38 = .ok (.bipush (-102), 2) := by decide +kernel
theorem dX6_about_40 : decode cX6_about 40 = .ok (.ireturn, 1) := by decide +kernel
theorem dX6_as_0 : decode cX6_as 0 = .ok (.aload_n 0, 1) := by decide +kernel
theorem dX6_as_1 : decode cX6_as 1 = .ok (.iload_n 1, 1) := by decide +kernel
theorem dX6_as_2 : decode cX6_as 2 = .ok (.invokevirtual 184, 3) := by decide +kernel
theorem dX6_as_5 : decode cX6_as 5 = .ok (.ifCond .ne 6, 3) := by decide +kernel
theorem dX6_as_8 : decode cX6_as 8 = .ok (.bipush (-101), 2) := by decide +kernel
theorem dX6_as_10 : decode cX6_as 10 = .ok (.ireturn, 1) := by decide +kernel
theorem dX6_as_11 : decode cX6_as 11 = .ok (.iload_n 2, 1) := by decide +kernel
theorem dX6_as_12 : decode cX6_as 12 = .ok (.iconst 0, 1) := by decide +kernel
theorem dX6_as_13 : decode cX6_as 13 = .ok (.iconst 4, 1) := by decide +kernel
theorem dX6_as_14 : decode cX6_as 14 = .ok (.invokestatic 69, 3) := by decide +kernel
theorem dX6_as_17 : decode cX6_as 17 = .ok (.ifCond .ne 6, 3) := by decide +kernel
theorem dX6_as_20 : decode cX6_as 20 = .ok (.bipush (-102), 2) := by decide +kernel
theorem dX6_as_22 : decode cX6_as 22 = .ok (.ireturn, 1) := by decide +kernel
theorem dX6_as_23 : decode cX6_as 23 = .ok (.aload_n 0, 1) := by decide +kernel
theorem dX6_as_24 : decode cX6_as 24 = .ok (.getfield 25, 3) := by decide +kernel
theorem dX6_as_27 : decode cX6_as 27 = .ok (.iload_n 1, 1) := by decide +kernel
theorem dX6_as_28 : decode cX6_as 28 = .ok (.iaload, 1) := by decide +kernel
theorem dX6_as_29 : decode cX6_as 29 = .ok (.istore_n 3, 1) := by decide +kernel
theorem dX6_as_30 : decode cX6_as 30 = .ok (.iload_n 2, 1) := by decide +kernel
theorem dX6_as_31 : decode cX6_as 31 = .ok (.ifCond .eq 18, 3) := by decide +kernel
theorem dX6_as_34 : decode cX6_as 34 = .ok (.iload_n 3, 1) := by decide +kernel
theorem dX6_as_35 : decode cX6_as 35 = .ok (.iload_n 2, 1) := by decide +kernel
theorem dX6_as_36 : decode cX6_as 36 = .ok (.if_icmp .eq 13, 3) := by decide +kernel
theorem dX6_as_39 : decode cX6_as 39 = .ok (.iload_n 2, 1) := by decide +kernel
theorem dX6_as_40 : decode cX6_as 40 = .ok (.iconst 3, 1) := by decide +kernel
theorem dX6_as_41 : decode cX6_as 41 = .ok (.if_icmp .ne 12, 3) := by decide +kernel
theorem dX6_as_44 : decode cX6_as 44 = .ok (.iload_n 3, 1) := by decide +kernel
theorem dX6_as_45 : decode cX6_as 45 = .ok (.iconst 4, 1) := by decide +kernel
theorem dX6_as_46 : decode cX6_as 46 = .ok (.if_icmp .ne 7, 3) := by decide +kernel
theorem dX6_as_49 : decode cX6_as 49 = .ok (.iload_n 1, 1) := by decide +kernel
theorem dX6_as_50 : decode cX6_as 50 = .ok (.goto 4, 3) := by decide +kernel
theorem dX6_as_53 : decode cX6_as 53 = .ok (.iconst (-1), 1) := by decide +kernel
theorem dX6_as_54 : decode cX6_as 54 = .ok (.ireturn, 1) := by decide +kernel
theorem dX6_doAct_0 : decode cX6_doAct 0 = .ok (.aload_n 0, 1) := by decide +kernel
theorem dX6_doAct_1 : decode cX6_doAct 1 = .ok (.iload_n 1, 1) := by decide +kernel
theorem dX6_doAct_2 : decode cX6_doAct 2 = .ok (.aload_n 0, 1) := by decide +kernel
theorem dX6_doAct_3 : decode cX6_doAct 3 = .ok (.iload_n 1, 1) := by decide +kernel
theorem dX6_doAct_4 : decode cX6_doAct 4 = .ok (.invokevirtual 181, 3) := by decide +kernel
theorem dX6_doAct_7 : decode cX6_doAct 7 = .ok (.aload_n 0, 1) := by decide +kernel
theorem dX6_doAct_8 : decode cX6_doAct 8 = .ok (.getfield 162, 3) := by decide +kernel
theorem dX6_doAct_11 : decode cX6_doAct 11 = .ok (.invokevirtual 190, 3) := by decide +kernel
theorem dX6_doAct_14 : decode cX6_doAct 14 = .ok (.istore_n 2, 1) := by decide +kernel
theorem dX6_doAct_15 : decode cX6_doAct 15 = .ok (.aload_n 0, 1) := by decide +kernel
theorem dX6_doAct_16 : decode cX6_doAct 16 = .ok (.getfield 34, 3) := by decide +kernel
theorem dX6_doAct_19 : decode cX6_doAct 19 = .ok (.iload_n 1, 1) := by decide +kernel
theorem dX6_doAct_20 : decode cX6_doAct 20 = .ok (.dup2, 1) := by decide +kernel
theorem dX6_doAct_21 : decode cX6_doAct 21 = .ok (.iaload, 1) := by decide +kernel
theorem dX6_doAct_22 : decode cX6_doAct 22 = .ok (.iload_n 2, 1) := by decide +kernel
theorem dX6_doAct_23 : decode cX6_doAct 23 = .ok (.aload_n 0, 1) := by decide +kernel
theorem dX6_doAct_24 : decode cX6_doAct 24 = .ok (.getfield 162, 3) := by decide +kernel
theorem dX6_doAct_27 : decode cX6_doAct 27 = .ok (.if_icmp .ne 7, 3) := by decide +kernel
theorem dX6_doAct_30 : decode cX6_doAct 30 = .ok (.iconst 0, 1) := by decide +kernel
theorem dX6_doAct_31 : decode cX6_doAct 31 = .ok (.goto 4, 3) := by decide +kernel
theorem dX6_doAct_34 : decode cX6_doAct 34 = .ok (.iconst 1, 1) := by decide +kernel
theorem dX6_doAct_35 : decode cX6_doAct 35 = .ok (.iadd, 1) := by decide +kernel
theorem dX6_doAct_36 : decode cX6_doAct 36 = .ok (.iastore, 1) := by decide +kernel
theorem dX6_doAct_37 : decode cX6_doAct 37 = .ok (.aload_n 0, 1) := by decide +kernel
theorem dX6_doAct_38 : decode cX6_doAct 38 = .ok (.iload_n 2, 1) := by decide +kernel
theorem dX6_doAct_39 : decode cX6_doAct 39 = .ok (.putfield 162, 3) := by decide +kernel
theorem dX6_doAct_42 : decode cX6_doAct 42 = .ok (.return_, 1) := by decide +kernel
theorem dX6_act_0 : decode cX6_act 0 = .ok (.aload_n 0, 1) := by decide +kernel
theorem dX6_act_1 : decode cX6_act 1 = .ok (.iload_n 1, 1) := by decide +kernel
theorem dX6_act_2 : decode cX6_act 2 = .ok (.invokevirtual 184, 3) := by decide +kernel
theorem dX6_act_5 : decode cX6_act 5 = .ok (.ifCond .ne 6, 3) := by decide +kernel
theorem dX6_act_8 : decode cX6_act 8 = .ok (.bipush (-101), 2) := by decide +kernel
theorem dX6_act_10 : decode cX6_act 10 = .ok (.ireturn, 1) := by decide +kernel
theorem dX6_act_11 : decode cX6_act 11 = .ok (.aload_n 0, 1) := by decide +kernel
theorem dX6_act_12 : decode cX6_act 12 = .ok (.getfield 97, 3) := by decide +kernel
theorem dX6_act_15 : decode cX6_act 15 = .ok (.ifCond .ne 6, 3) := by decide +kernel
theorem dX6_act_18 : decode cX6_act 18 = .ok (.bipush (-103), 2) := by decide +kernel
theorem dX6_act_20 : decode cX6_act 20 = .ok (.ireturn, 1) := by decide +kernel
theorem dX6_act_21 : decode cX6_act 21 = .ok (.aload_n 0, 1) := by decide +kernel
theorem dX6_act_22 : decode cX6_act 22 = .ok (.aload_n 0, 1) := by decide +kernel
theorem dX6_act_23 : decode cX6_act 23 = .ok (.getfield 97, 3) := by decide +kernel
theorem dX6_act_26 : decode cX6_act 26 = .ok (.iconst 0, 1) := by decide +kernel
theorem dX6_act_27 : decode cX6_act 27 = .ok (.invokevirtual 106, 3) := by decide +kernel
theorem dX6_act_30 : decode cX6_act 30 = .ok (.aload_n 0, 1) := by decide +kernel
theorem dX6_act_31 : decode cX6_act 31 = .ok (.iload_n 1, 1) := by decide +kernel
theorem dX6_act_32 : decode cX6_act 32 = .ok (.invokevirtual 193, 3) := by decide +kernel
theorem dX6_act_35 : decode cX6_act 35 = .ok (.aload_n 0, 1) := by decide +kernel
theorem dX6_act_36 : decode cX6_act 36 = .ok (.getfield 162, 3) := by decide +kernel
theorem dX6_act_39 : decode cX6_act 39 = .ok (.ireturn, 1) := by decide +kernel
theorem dX6_round_0 : decode cX6_round 0 = .ok (.aload_n 0, 1) := by decide +kernel
theorem dX6_round_1 : decode cX6_round 1 = .ok (.getfield 97, 3) := by decide +kernel
theorem dX6_round_4 : decode cX6_round 4 = .ok (.ifCond .ne 6, 3) := by decide +kernel
theorem dX6_round_7 : decode cX6_round 7 = .ok (.bipush (-103), 2) := by decide +kernel
theorem dX6_round_9 : decode cX6_round 9 = .ok (.ireturn, 1) := by decide +kernel
theorem dX6_round_10 : decode cX6_round 10 = .ok (.aload_n 0, 1) := by decide +kernel
theorem dX6_round_11 : decode cX6_round 11 = .ok (.aload_n 0, 1) := by decide +kernel
theorem dX6_round_12 : decode cX6_round 12 = .ok (.getfield 97, 3) := by decide +kernel
theorem dX6_round_15 : decode cX6_round 15 = .ok (.iconst 0, 1) := by decide +kernel
theorem dX6_round_16 : decode cX6_round 16 = .ok (.invokevirtual 106, 3) := by decide +kernel
theorem dX6_round_19 : decode cX6_round 19 = .ok (.iconst 0, 1) := by decide +kernel
theorem dX6_round_20 : decode cX6_round 20 = .ok (.istore_n 1, 1) := by decide +kernel
theorem dX6_round_21 : decode cX6_round 21 = .ok (.iload_n 1, 1) := by decide +kernel
theorem dX6_round_22 : decode cX6_round 22 = .ok (.aload_n 0, 1) := by decide +kernel
theorem dX6_round_23 : decode cX6_round 23 = .ok (.getfield 175, 3) := by decide +kernel
theorem dX6_round_26 : decode cX6_round 26 = .ok (.if_icmp .ge 14, 3) := by decide +kernel
theorem dX6_round_29 : decode cX6_round 29 = .ok (.aload_n 0, 1) := by decide +kernel
theorem dX6_round_30 : decode cX6_round 30 = .ok (.iload_n 1, 1) := by decide +kernel
theorem dX6_round_31 : decode cX6_round 31 = .ok (.invokevirtual 193, 3) := by decide +kernel
theorem dX6_round_34 : decode cX6_round 34 = .ok (.iinc 1 1, 3) := by decide +kernel
theorem dX6_round_37 : decode cX6_round 37 = .ok (.goto (-16), 3) := by decide +kernel
theorem dX6_round_40 : decode cX6_round 40 = .ok (.aload_n 0, 1) := by decide +kernel
theorem dX6_round_41 : decode cX6_round 41 = .ok (.dup, 1) := by decide +kernel
theorem dX6_round_42 : decode cX6_round 42 = .ok (.getfield 197, 3) := by decide +kernel
theorem dX6_round_45 : decode cX6_round 45 = .ok (.iconst 1, 1) := by decide +kernel
theorem dX6_round_46 : decode cX6_round 46 = .ok (.iadd, 1) := by decide +kernel
theorem dX6_round_47 : decode cX6_round 47 = .ok (.putfield 197, 3) := by decide +kernel
theorem dX6_round_50 : decode cX6_round 50 = .ok (.aload_n 0, 1) := by decide +kernel
theorem dX6_round_51 : decode cX6_round 51 = .ok (.getfield 162, 3) := by decide +kernel
theorem dX6_round_54 : decode cX6_round 54 = .ok (.ireturn, 1) := by decide +kernel
theorem dX6_layTakes_0 : decode cX6_layTakes 0 = .ok (.iconst 0, 1) := by decide +kernel
theorem dX6_layTakes_1 : decode cX6_layTakes 1 = .ok (.istore_n 1, 1) := by decide +kernel
theorem dX6_layTakes_2 : decode cX6_layTakes 2 = .ok (.iload_n 1, 1) := by decide +kernel
theorem dX6_layTakes_3 : decode cX6_layTakes 3 = .ok (.aload_n 0, 1) := by decide +kernel
theorem dX6_layTakes_4 : decode cX6_layTakes 4 = .ok (.getfield 175, 3) := by decide +kernel
theorem dX6_layTakes_7 : decode cX6_layTakes 7 = .ok (.if_icmp .ge 20, 3) := by decide +kernel
theorem dX6_layTakes_10 : decode cX6_layTakes 10 = .ok (.aload_n 0, 1) := by decide +kernel
theorem dX6_layTakes_11 : decode cX6_layTakes 11 = .ok (.getfield 60, 3) := by decide +kernel
theorem dX6_layTakes_14 : decode cX6_layTakes 14 = .ok (.iload_n 1, 1) := by decide +kernel
theorem dX6_layTakes_15 : decode cX6_layTakes 15 = .ok (.aload_n 0, 1) := by decide +kernel
theorem dX6_layTakes_16 : decode cX6_layTakes 16 = .ok (.iload_n 1, 1) := by decide +kernel
theorem dX6_layTakes_17 : decode cX6_layTakes 17 = .ok (.invokevirtual 181, 3) := by decide +kernel
theorem dX6_layTakes_20 : decode cX6_layTakes 20 = .ok (.iastore, 1) := by decide +kernel
theorem dX6_layTakes_21 : decode cX6_layTakes 21 = .ok (.iinc 1 1, 3) := by decide +kernel
theorem dX6_layTakes_24 : decode cX6_layTakes 24 = .ok (.goto (-22), 3) := by decide +kernel
theorem dX6_layTakes_27 : decode cX6_layTakes 27 = .ok (.return_, 1) := by decide +kernel
theorem dX6_roundFrom_0 : decode cX6_roundFrom 0 = .ok (.iload_n 1, 1) := by decide +kernel
theorem dX6_roundFrom_1 : decode cX6_roundFrom 1 = .ok (.istore_n 2, 1) := by decide +kernel
theorem dX6_roundFrom_2 : decode cX6_roundFrom 2 = .ok (.iconst 0, 1) := by decide +kernel
theorem dX6_roundFrom_3 : decode cX6_roundFrom 3 = .ok (.istore_n 3, 1) := by decide +kernel
theorem dX6_roundFrom_4 : decode cX6_roundFrom 4 = .ok (.iload_n 3, 1) := by decide +kernel
theorem dX6_roundFrom_5 : decode cX6_roundFrom 5 = .ok (.aload_n 0, 1) := by decide +kernel
theorem dX6_roundFrom_6 : decode cX6_roundFrom 6 = .ok (.getfield 175, 3) := by decide +kernel
theorem dX6_roundFrom_9 : decode cX6_roundFrom 9 = .ok (.if_icmp .ge 22, 3) := by decide +kernel
theorem dX6_roundFrom_12 : decode cX6_roundFrom 12 = .ok (.aload_n 0, 1) := by decide +kernel
theorem dX6_roundFrom_13 : decode cX6_roundFrom 13 = .ok (.iload_n 3, 1) := by decide +kernel
theorem dX6_roundFrom_14 : decode cX6_roundFrom 14 = .ok (.aload_n 0, 1) := by decide +kernel
theorem dX6_roundFrom_15 : decode cX6_roundFrom 15 = .ok (.getfield 60, 3) := by decide +kernel
theorem dX6_roundFrom_18 : decode cX6_roundFrom 18 = .ok (.iload_n 3, 1) := by decide +kernel
theorem dX6_roundFrom_19 : decode cX6_roundFrom 19 = .ok (.iaload, 1) := by decide +kernel
theorem dX6_roundFrom_20 : decode cX6_roundFrom 20 = .ok (.iload_n 2, 1) := by decide +kernel
theorem dX6_roundFrom_21 : decode cX6_roundFrom 21 = .ok (.invokevirtual 190, 3) := by decide +kernel
theorem dX6_roundFrom_24 : decode cX6_roundFrom 24 = .ok (.istore_n 2, 1) := by decide +kernel
theorem dX6_roundFrom_25 : decode cX6_roundFrom 25 = .ok (.iinc 3 1, 3) := by decide +kernel
theorem dX6_roundFrom_28 : decode cX6_roundFrom 28 = .ok (.goto (-24), 3) := by decide +kernel
theorem dX6_roundFrom_31 : decode cX6_roundFrom 31 = .ok (.iload_n 2, 1) := by decide +kernel
theorem dX6_roundFrom_32 : decode cX6_roundFrom 32 = .ok (.ireturn, 1) := by decide +kernel
theorem dX6_some_0 : decode cX6_some 0 = .ok (.lconst 0, 1) := by decide +kernel
theorem dX6_some_1 : decode cX6_some 1 = .ok (.lstore_n 1, 1) := by decide +kernel
theorem dX6_some_2 : decode cX6_some 2 = .ok (.iconst 0, 1) := by decide +kernel
theorem dX6_some_3 : decode cX6_some 3 = .ok (.istore_n 3, 1) := by decide +kernel
theorem dX6_some_4 : decode cX6_some 4 = .ok (.iload_n 3, 1) := by decide +kernel
theorem dX6_some_5 : decode cX6_some 5 = .ok (.aload_n 0, 1) := by decide +kernel
theorem dX6_some_6 : decode cX6_some 6 = .ok (.getfield 110, 3) := by decide +kernel
theorem dX6_some_9 : decode cX6_some 9 = .ok (.if_icmp .ge 18, 3) := by decide +kernel
theorem dX6_some_12 : decode cX6_some 12 = .ok (.lload_n 1, 1) := by decide +kernel
theorem dX6_some_13 : decode cX6_some 13 = .ok (.aload_n 0, 1) := by decide +kernel
theorem dX6_some_14 : decode cX6_some 14 = .ok (.getfield 50, 3) := by decide +kernel
theorem dX6_some_17 : decode cX6_some 17 = .ok (.iload_n 3, 1) := by decide +kernel
theorem dX6_some_18 : decode cX6_some 18 = .ok (.laload, 1) := by decide +kernel
theorem dX6_some_19 : decode cX6_some 19 = .ok (.lor, 1) := by decide +kernel
theorem dX6_some_20 : decode cX6_some 20 = .ok (.lstore_n 1, 1) := by decide +kernel
theorem dX6_some_21 : decode cX6_some 21 = .ok (.iinc 3 1, 3) := by decide +kernel
theorem dX6_some_24 : decode cX6_some 24 = .ok (.goto (-20), 3) := by decide +kernel
theorem dX6_some_27 : decode cX6_some 27 = .ok (.lload_n 1, 1) := by decide +kernel
theorem dX6_some_28 : decode cX6_some 28 = .ok (.lreturn, 1) := by decide +kernel
theorem dX6_anyhowNow_0 : decode cX6_anyhowNow 0 = .ok (.aload_n 0, 1) := by decide +kernel
theorem dX6_anyhowNow_1 : decode cX6_anyhowNow 1 = .ok (.aload_n 0, 1) := by decide +kernel
theorem dX6_anyhowNow_2 : decode cX6_anyhowNow 2 = .ok (.getfield 97, 3) := by decide +kernel
theorem dX6_anyhowNow_5 : decode cX6_anyhowNow 5 = .ok (.iconst 0, 1) := by decide +kernel
theorem dX6_anyhowNow_6 : decode cX6_anyhowNow 6 = .ok (.invokevirtual 106, 3) := by decide +kernel
theorem dX6_anyhowNow_9 : decode cX6_anyhowNow 9 = .ok (.aload_n 0, 1) := by decide +kernel
theorem dX6_anyhowNow_10 : decode cX6_anyhowNow 10 = .ok (.invokevirtual 200, 3) := by decide +kernel
theorem dX6_anyhowNow_13 : decode cX6_anyhowNow 13 = .ok (.aload_n 0, 1) := by decide +kernel
theorem dX6_anyhowNow_14 : decode cX6_anyhowNow 14 = .ok (.invokevirtual 203, 3) := by decide +kernel
theorem dX6_anyhowNow_17 : decode cX6_anyhowNow 17 = .ok (.lstore_n 1, 1) := by decide +kernel
theorem dX6_anyhowNow_18 : decode cX6_anyhowNow 18 = .ok (.iconst 0, 1) := by decide +kernel
theorem dX6_anyhowNow_19 : decode cX6_anyhowNow 19 = .ok (.istore_n 3, 1) := by decide +kernel
theorem dX6_anyhowNow_20 : decode cX6_anyhowNow 20 = .ok (.iconst 0, 1) := by decide +kernel
theorem dX6_anyhowNow_21 : decode cX6_anyhowNow 21 = .ok (.istore 4, 2) := by decide +kernel
theorem dX6_anyhowNow_23 : decode cX6_anyhowNow 23 = .ok (.iload 4, 2) := by decide +kernel
theorem dX6_anyhowNow_25 : decode cX6_anyhowNow 25 = .ok (.bipush 64, 2) := by decide +kernel
theorem dX6_anyhowNow_27 : decode cX6_anyhowNow 27 = .ok (.if_icmp .ge 30, 3) := by decide +kernel
theorem dX6_anyhowNow_30 : decode cX6_anyhowNow 30 = .ok (.iload_n 3, 1) := by decide +kernel
theorem dX6_anyhowNow_31 : decode cX6_anyhowNow 31 = .ok (.lload_n 1, 1) := by decide +kernel
theorem dX6_anyhowNow_32 : decode cX6_anyhowNow 32 = .ok (.aload_n 0, 1) := by decide +kernel
theorem dX6_anyhowNow_33 : decode cX6_anyhowNow 33 = .ok (.iload 4, 2) := by decide +kernel
theorem dX6_anyhowNow_35 : decode cX6_anyhowNow 35 = .ok (.invokevirtual 207, 3) := by decide +kernel
theorem dX6_anyhowNow_38 : decode cX6_anyhowNow 38 = .ok (.invokestatic 158, 3) := by decide +kernel
theorem dX6_anyhowNow_41 : decode cX6_anyhowNow 41 = .ok (.ifCond .eq 7, 3) := by decide +kernel
theorem dX6_anyhowNow_44 : decode cX6_anyhowNow 44 = .ok (.iconst 1, 1) := by decide +kernel
theorem dX6_anyhowNow_45 : decode cX6_anyhowNow 45 = .ok (.goto 4, 3) := by decide +kernel
theorem dX6_anyhowNow_48 : decode cX6_anyhowNow 48 = .ok (.iconst 0, 1) := by decide +kernel
theorem dX6_anyhowNow_49 : decode cX6_anyhowNow 49 = .ok (.iadd, 1) := by decide +kernel
theorem dX6_anyhowNow_50 : decode cX6_anyhowNow 50 = .ok (.istore_n 3, 1) := by decide +kernel
theorem dX6_anyhowNow_51 : decode cX6_anyhowNow 51 = .ok (.iinc 4 1, 3) := by decide +kernel
theorem dX6_anyhowNow_54 : decode cX6_anyhowNow 54 = .ok (.goto (-31), 3) := by decide +kernel
theorem dX6_anyhowNow_57 : decode cX6_anyhowNow 57 = .ok (.iload_n 3, 1) := by decide +kernel
theorem dX6_anyhowNow_58 : decode cX6_anyhowNow 58 = .ok (.ireturn, 1) := by decide +kernel
theorem dX6_anyhow_0 : decode cX6_anyhow 0 = .ok (.aload_n 0, 1) := by decide +kernel
theorem dX6_anyhow_1 : decode cX6_anyhow 1 = .ok (.getfield 97, 3) := by decide +kernel
theorem dX6_anyhow_4 : decode cX6_anyhow 4 = .ok (.ifCond .ne 8, 3) := by decide +kernel
theorem dX6_anyhow_7 : decode cX6_anyhow 7 = .ok (.bipush (-103), 2) := by decide +kernel
theorem dX6_anyhow_9 : decode cX6_anyhow 9 = .ok (.goto 7, 3) := by decide +kernel
theorem dX6_anyhow_12 : decode cX6_anyhow 12 = .ok (.aload_n 0, 1) := by decide +kernel
theorem dX6_anyhow_13 : decode cX6_anyhow 13 = .ok (.invokevirtual 210, 3) := by decide +kernel
theorem dX6_anyhow_16 : decode cX6_anyhow 16 = .ok (.ireturn, 1) := by decide +kernel
theorem dX6_leftNow_0 : decode cX6_leftNow 0 = .ok (.ldc2_w 134, 3) := by decide +kernel
theorem dX6_leftNow_3 : decode cX6_leftNow 3 = .ok (.lstore_n 2, 1) := by decide +kernel
theorem dX6_leftNow_4 : decode cX6_leftNow 4 = .ok (.aload_n 0, 1) := by decide +kernel
theorem dX6_leftNow_5 : decode cX6_leftNow 5 = .ok (.getfield 100, 3) := by decide +kernel
theorem dX6_leftNow_8 : decode cX6_leftNow 8 = .ok (.ifCond .le 17, 3) := by decide +kernel
theorem dX6_leftNow_11 : decode cX6_leftNow 11 = .ok (.aload_n 0, 1) := by decide +kernel
theorem dX6_leftNow_12 : decode cX6_leftNow 12 = .ok (.aload_n 0, 1) := by decide +kernel
theorem dX6_leftNow_13 : decode cX6_leftNow 13 = .ok (.getfield 100, 3) := by decide +kernel
theorem dX6_leftNow_16 : decode cX6_leftNow 16 = .ok (.iconst 1, 1) := by decide +kernel
theorem dX6_leftNow_17 : decode cX6_leftNow 17 = .ok (.invokevirtual 106, 3) := by decide +kernel
theorem dX6_leftNow_20 : decode cX6_leftNow 20 = .ok (.aload_n 0, 1) := by decide +kernel
theorem dX6_leftNow_21 : decode cX6_leftNow 21 = .ok (.invokevirtual 203, 3) := by decide +kernel
theorem dX6_leftNow_24 : decode cX6_leftNow 24 = .ok (.lstore_n 2, 1) := by decide +kernel
theorem dX6_leftNow_25 : decode cX6_leftNow 25 = .ok (.aload_n 0, 1) := by decide +kernel
theorem dX6_leftNow_26 : decode cX6_leftNow 26 = .ok (.aload_n 0, 1) := by decide +kernel
theorem dX6_leftNow_27 : decode cX6_leftNow 27 = .ok (.getfield 97, 3) := by decide +kernel
theorem dX6_leftNow_30 : decode cX6_leftNow 30 = .ok (.iconst 0, 1) := by decide +kernel
theorem dX6_leftNow_31 : decode cX6_leftNow 31 = .ok (.invokevirtual 106, 3) := by decide +kernel
theorem dX6_leftNow_34 : decode cX6_leftNow 34 = .ok (.lload_n 2, 1) := by decide +kernel
theorem dX6_leftNow_35 : decode cX6_leftNow 35 = .ok (.aload_n 0, 1) := by decide +kernel
theorem dX6_leftNow_36 : decode cX6_leftNow 36 = .ok (.invokevirtual 203, 3) := by decide +kernel
theorem dX6_leftNow_39 : decode cX6_leftNow 39 = .ok (.land, 1) := by decide +kernel
theorem dX6_leftNow_40 : decode cX6_leftNow 40 = .ok (.lstore_n 2, 1) := by decide +kernel
theorem dX6_leftNow_41 : decode cX6_leftNow 41 = .ok (.iload_n 1, 1) := by decide +kernel
theorem dX6_leftNow_42 : decode cX6_leftNow 42 = .ok (.ifCond .ne 8, 3) := by decide +kernel
theorem dX6_leftNow_45 : decode cX6_leftNow 45 = .ok (.lload_n 2, 1) := by decide +kernel
theorem dX6_leftNow_46 : decode cX6_leftNow 46 = .ok (.invokestatic 151, 3) := by decide +kernel
theorem dX6_leftNow_49 : decode cX6_leftNow 49 = .ok (.ireturn, 1) := by decide +kernel
theorem dX6_leftNow_50 : decode cX6_leftNow 50 = .ok (.iconst 0, 1) := by decide +kernel
theorem dX6_leftNow_51 : decode cX6_leftNow 51 = .ok (.istore 4, 2) := by decide +kernel
theorem dX6_leftNow_53 : decode cX6_leftNow 53 = .ok (.iconst 0, 1) := by decide +kernel
theorem dX6_leftNow_54 : decode cX6_leftNow 54 = .ok (.istore 5, 2) := by decide +kernel
theorem dX6_leftNow_56 : decode cX6_leftNow 56 = .ok (.iload 5, 2) := by decide +kernel
theorem dX6_leftNow_58 : decode cX6_leftNow 58 = .ok (.bipush 6, 2) := by decide +kernel
theorem dX6_leftNow_60 : decode cX6_leftNow 60 = .ok (.if_icmp .ge 47, 3) := by decide +kernel
theorem dX6_leftNow_63 : decode cX6_leftNow 63 = .ok (.lload_n 2, 1) := by decide +kernel
theorem dX6_leftNow_64 : decode cX6_leftNow 64 = .ok (.iload 5, 2) := by decide +kernel
theorem dX6_leftNow_66 : decode cX6_leftNow 66 = .ok (.invokestatic 130, 3) := by decide +kernel
theorem dX6_leftNow_69 : decode cX6_leftNow 69 = .ok (.land, 1) := by decide +kernel
theorem dX6_leftNow_70 : decode cX6_leftNow 70 = .ok (.lstore 6, 2) := by decide +kernel
theorem dX6_leftNow_72 : decode cX6_leftNow 72 = .ok (.iload 4, 2) := by decide +kernel
theorem dX6_leftNow_74 : decode cX6_leftNow 74 = .ok (.lload 6, 2) := by decide +kernel
theorem dX6_leftNow_76 : decode cX6_leftNow 76 = .ok (.iload_n 1, 1) := by decide +kernel
theorem dX6_leftNow_77 : decode cX6_leftNow 77 = .ok (.iconst 1, 1) := by decide +kernel
theorem dX6_leftNow_78 : decode cX6_leftNow 78 = .ok (.if_icmp .ne 7, 3) := by decide +kernel
theorem dX6_leftNow_81 : decode cX6_leftNow 81 = .ok (.lload_n 2, 1) := by decide +kernel
theorem dX6_leftNow_82 : decode cX6_leftNow 82 = .ok (.goto 4, 3) := by decide +kernel
theorem dX6_leftNow_85 : decode cX6_leftNow 85 = .ok (.lconst 0, 1) := by decide +kernel
theorem dX6_leftNow_86 : decode cX6_leftNow 86 = .ok (.lcmp, 1) := by decide +kernel
theorem dX6_leftNow_87 : decode cX6_leftNow 87 = .ok (.ifCond .ne 10, 3) := by decide +kernel
theorem dX6_leftNow_90 : decode cX6_leftNow 90 = .ok (.iconst 1, 1) := by decide +kernel
theorem dX6_leftNow_91 : decode cX6_leftNow 91 = .ok (.iload 5, 2) := by decide +kernel
theorem dX6_leftNow_93 : decode cX6_leftNow 93 = .ok (.ishl, 1) := by decide +kernel
theorem dX6_leftNow_94 : decode cX6_leftNow 94 = .ok (.goto 4, 3) := by decide +kernel
theorem dX6_leftNow_97 : decode cX6_leftNow 97 = .ok (.iconst 0, 1) := by decide +kernel
theorem dX6_leftNow_98 : decode cX6_leftNow 98 = .ok (.ior, 1) := by decide +kernel
theorem dX6_leftNow_99 : decode cX6_leftNow 99 = .ok (.istore 4, 2) := by decide +kernel
theorem dX6_leftNow_101 : decode cX6_leftNow 101 = .ok (.iinc 5 1, 3) := by decide +kernel
theorem dX6_leftNow_104 : decode cX6_leftNow 104 = .ok (.goto (-48), 3) := by decide +kernel
theorem dX6_leftNow_107 : decode cX6_leftNow 107 = .ok (.iload 4, 2) := by decide +kernel
theorem dX6_leftNow_109 : decode cX6_leftNow 109 = .ok (.ireturn, 1) := by decide +kernel
theorem dX6_left_0 : decode cX6_left 0 = .ok (.iload_n 1, 1) := by decide +kernel
theorem dX6_left_1 : decode cX6_left 1 = .ok (.iconst 0, 1) := by decide +kernel
theorem dX6_left_2 : decode cX6_left 2 = .ok (.iconst 2, 1) := by decide +kernel
theorem dX6_left_3 : decode cX6_left 3 = .ok (.invokestatic 69, 3) := by decide +kernel
theorem dX6_left_6 : decode cX6_left 6 = .ok (.ifCond .ne 6, 3) := by decide +kernel
theorem dX6_left_9 : decode cX6_left 9 = .ok (.bipush (-102), 2) := by decide +kernel
theorem dX6_left_11 : decode cX6_left 11 = .ok (.ireturn, 1) := by decide +kernel
theorem dX6_left_12 : decode cX6_left 12 = .ok (.aload_n 0, 1) := by decide +kernel
theorem dX6_left_13 : decode cX6_left 13 = .ok (.getfield 97, 3) := by decide +kernel
theorem dX6_left_16 : decode cX6_left 16 = .ok (.ifCond .ne 8, 3) := by decide +kernel
theorem dX6_left_19 : decode cX6_left 19 = .ok (.bipush (-103), 2) := by decide +kernel
theorem dX6_left_21 : decode cX6_left 21 = .ok (.goto 8, 3) := by decide +kernel
theorem dX6_left_24 : decode cX6_left 24 = .ok (.aload_n 0, 1) := by decide +kernel
theorem dX6_left_25 : decode cX6_left 25 = .ok (.iload_n 1, 1) := by decide +kernel
theorem dX6_left_26 : decode cX6_left 26 = .ok (.invokevirtual 214, 3) := by decide +kernel
theorem dX6_left_29 : decode cX6_left 29 = .ok (.ireturn, 1) := by decide +kernel
theorem dX6_askNow_0 : decode cX6_askNow 0 = .ok (.aload_n 0, 1) := by decide +kernel
theorem dX6_askNow_1 : decode cX6_askNow 1 = .ok (.aload_n 0, 1) := by decide +kernel
theorem dX6_askNow_2 : decode cX6_askNow 2 = .ok (.getfield 97, 3) := by decide +kernel
theorem dX6_askNow_5 : decode cX6_askNow 5 = .ok (.iconst 0, 1) := by decide +kernel
theorem dX6_askNow_6 : decode cX6_askNow 6 = .ok (.invokevirtual 106, 3) := by decide +kernel
theorem dX6_askNow_9 : decode cX6_askNow 9 = .ok (.aload_n 0, 1) := by decide +kernel
theorem dX6_askNow_10 : decode cX6_askNow 10 = .ok (.invokevirtual 203, 3) := by decide +kernel
theorem dX6_askNow_13 : decode cX6_askNow 13 = .ok (.lstore_n 1, 1) := by decide +kernel
theorem dX6_askNow_14 : decode cX6_askNow 14 = .ok (.iconst (-1), 1) := by decide +kernel
theorem dX6_askNow_15 : decode cX6_askNow 15 = .ok (.istore_n 3, 1) := by decide +kernel
theorem dX6_askNow_16 : decode cX6_askNow 16 = .ok (.bipush 65, 2) := by decide +kernel
theorem dX6_askNow_18 : decode cX6_askNow 18 = .ok (.istore 4, 2) := by decide +kernel
theorem dX6_askNow_20 : decode cX6_askNow 20 = .ok (.iconst 0, 1) := by decide +kernel
theorem dX6_askNow_21 : decode cX6_askNow 21 = .ok (.istore 5, 2) := by decide +kernel
theorem dX6_askNow_23 : decode cX6_askNow 23 = .ok (.iload 5, 2) := by decide +kernel
theorem dX6_askNow_25 : decode cX6_askNow 25 = .ok (.bipush 6, 2) := by decide +kernel
theorem dX6_askNow_27 : decode cX6_askNow 27 = .ok (.if_icmp .ge 76, 3) := by decide +kernel
theorem dX6_askNow_30 : decode cX6_askNow 30 = .ok (.lload_n 1, 1) := by decide +kernel
theorem dX6_askNow_31 : decode cX6_askNow 31 = .ok (.iload 5, 2) := by decide +kernel
theorem dX6_askNow_33 : decode cX6_askNow 33 = .ok (.invokestatic 130, 3) := by decide +kernel
theorem dX6_askNow_36 : decode cX6_askNow 36 = .ok (.land, 1) := by decide +kernel
theorem dX6_askNow_37 : decode cX6_askNow 37 = .ok (.invokestatic 151, 3) := by decide +kernel
theorem dX6_askNow_40 : decode cX6_askNow 40 = .ok (.istore 6, 2) := by decide +kernel
theorem dX6_askNow_42 : decode cX6_askNow 42 = .ok (.lload_n 1, 1) := by decide +kernel
theorem dX6_askNow_43 : decode cX6_askNow 43 = .ok (.invokestatic 151, 3) := by decide +kernel
theorem dX6_askNow_46 : decode cX6_askNow 46 = .ok (.iload 6, 2) := by decide +kernel
theorem dX6_askNow_48 : decode cX6_askNow 48 = .ok (.isub, 1) := by decide +kernel
theorem dX6_askNow_49 : decode cX6_askNow 49 = .ok (.istore 7, 2) := by decide +kernel
theorem dX6_askNow_51 : decode cX6_askNow 51 = .ok (.iload 6, 2) := by decide +kernel
theorem dX6_askNow_53 : decode cX6_askNow 53 = .ok (.iload 7, 2) := by decide +kernel
theorem dX6_askNow_55 : decode cX6_askNow 55 = .ok (.if_icmp .le 8, 3) := by decide +kernel
theorem dX6_askNow_58 : decode cX6_askNow 58 = .ok (.iload 6, 2) := by decide +kernel
theorem dX6_askNow_60 : decode cX6_askNow 60 = .ok (.goto 5, 3) := by decide +kernel
theorem dX6_askNow_63 : decode cX6_askNow 63 = .ok (.iload 7, 2) := by decide +kernel
theorem dX6_askNow_65 : decode cX6_askNow 65 = .ok (.istore 8, 2) := by decide +kernel
theorem dX6_askNow_67 : decode cX6_askNow 67 = .ok (.iload 8, 2) := by decide +kernel
theorem dX6_askNow_69 : decode cX6_askNow 69 = .ok (.iload 4, 2) := by decide +kernel
theorem dX6_askNow_71 : decode cX6_askNow 71 = .ok (.if_icmp .ge 8, 3) := by decide +kernel
theorem dX6_askNow_74 : decode cX6_askNow 74 = .ok (.iload 5, 2) := by decide +kernel
theorem dX6_askNow_76 : decode cX6_askNow 76 = .ok (.goto 4, 3) := by decide +kernel
theorem dX6_askNow_79 : decode cX6_askNow 79 = .ok (.iload_n 3, 1) := by decide +kernel
theorem dX6_askNow_80 : decode cX6_askNow 80 = .ok (.istore_n 3, 1) := by decide +kernel
theorem dX6_askNow_81 : decode cX6_askNow 81 = .ok (.iload 8, 2) := by decide +kernel
theorem dX6_askNow_83 : decode cX6_askNow 83 = .ok (.iload 4, 2) := by decide +kernel
theorem dX6_askNow_85 : decode cX6_askNow 85 = .ok (.if_icmp .ge 8, 3) := by decide +kernel
theorem dX6_askNow_88 : decode cX6_askNow 88 = .ok (.iload 8, 2) := by decide +kernel
theorem dX6_askNow_90 : decode cX6_askNow 90 = .ok (.goto 5, 3) := by decide +kernel
theorem dX6_askNow_93 : decode cX6_askNow 93 = .ok (.iload 4, 2) := by decide +kernel
theorem dX6_askNow_95 : decode cX6_askNow 95 = .ok (.istore 4, 2) := by decide +kernel
theorem dX6_askNow_97 : decode cX6_askNow 97 = .ok (.iinc 5 1, 3) := by decide +kernel
theorem dX6_askNow_100 : decode cX6_askNow 100 = .ok (.goto (-77), 3) := by decide +kernel
theorem dX6_askNow_103 : decode cX6_askNow 103 = .ok (.iload_n 3, 1) := by decide +kernel
theorem dX6_askNow_104 : decode cX6_askNow 104 = .ok (.ireturn, 1) := by decide +kernel
theorem dX6_ask_0 : decode cX6_ask 0 = .ok (.aload_n 0, 1) := by decide +kernel
theorem dX6_ask_1 : decode cX6_ask 1 = .ok (.getfield 97, 3) := by decide +kernel
theorem dX6_ask_4 : decode cX6_ask 4 = .ok (.ifCond .ne 8, 3) := by decide +kernel
theorem dX6_ask_7 : decode cX6_ask 7 = .ok (.bipush (-103), 2) := by decide +kernel
theorem dX6_ask_9 : decode cX6_ask 9 = .ok (.goto 7, 3) := by decide +kernel
theorem dX6_ask_12 : decode cX6_ask 12 = .ok (.aload_n 0, 1) := by decide +kernel
theorem dX6_ask_13 : decode cX6_ask 13 = .ok (.invokevirtual 217, 3) := by decide +kernel
theorem dX6_ask_16 : decode cX6_ask 16 = .ok (.ireturn, 1) := by decide +kernel
theorem dX6_addNow_0 : decode cX6_addNow 0 = .ok (.iconst (-1), 1) := by decide +kernel
theorem dX6_addNow_1 : decode cX6_addNow 1 = .ok (.istore_n 2, 1) := by decide +kernel
theorem dX6_addNow_2 : decode cX6_addNow 2 = .ok (.iconst (-1), 1) := by decide +kernel
theorem dX6_addNow_3 : decode cX6_addNow 3 = .ok (.istore_n 3, 1) := by decide +kernel
theorem dX6_addNow_4 : decode cX6_addNow 4 = .ok (.iconst 0, 1) := by decide +kernel
theorem dX6_addNow_5 : decode cX6_addNow 5 = .ok (.istore 4, 2) := by decide +kernel
theorem dX6_addNow_7 : decode cX6_addNow 7 = .ok (.iload 4, 2) := by decide +kernel
theorem dX6_addNow_9 : decode cX6_addNow 9 = .ok (.bipush 24, 2) := by decide +kernel
theorem dX6_addNow_11 : decode cX6_addNow 11 = .ok (.if_icmp .ge 93, 3) := by decide +kernel
theorem dX6_addNow_14 : decode cX6_addNow 14 = .ok (.aload_n 0, 1) := by decide +kernel
theorem dX6_addNow_15 : decode cX6_addNow 15 = .ok (.getfield 16, 3) := by decide +kernel
theorem dX6_addNow_18 : decode cX6_addNow 18 = .ok (.aload_n 0, 1) := by decide +kernel
theorem dX6_addNow_19 : decode cX6_addNow 19 = .ok (.getfield 97, 3) := by decide +kernel
theorem dX6_addNow_22 : decode cX6_addNow 22 = .ok (.iconst 1, 1) := by decide +kernel
theorem dX6_addNow_23 : decode cX6_addNow 23 = .ok (.isub, 1) := by decide +kernel
theorem dX6_addNow_24 : decode cX6_addNow 24 = .ok (.iload 4, 2) := by decide +kernel
theorem dX6_addNow_26 : decode cX6_addNow 26 = .ok (.bipush 12, 2) := by decide +kernel
theorem dX6_addNow_28 : decode cX6_addNow 28 = .ok (.idiv, 1) := by decide +kernel
theorem dX6_addNow_29 : decode cX6_addNow 29 = .ok (.iastore, 1) := by decide +kernel
theorem dX6_addNow_30 : decode cX6_addNow 30 = .ok (.aload_n 0, 1) := by decide +kernel
theorem dX6_addNow_31 : decode cX6_addNow 31 = .ok (.getfield 13, 3) := by decide +kernel
theorem dX6_addNow_34 : decode cX6_addNow 34 = .ok (.aload_n 0, 1) := by decide +kernel
theorem dX6_addNow_35 : decode cX6_addNow 35 = .ok (.getfield 97, 3) := by decide +kernel
theorem dX6_addNow_38 : decode cX6_addNow 38 = .ok (.iconst 2, 1) := by decide +kernel
theorem dX6_addNow_39 : decode cX6_addNow 39 = .ok (.iload 4, 2) := by decide +kernel
theorem dX6_addNow_41 : decode cX6_addNow 41 = .ok (.bipush 6, 2) := by decide +kernel
theorem dX6_addNow_43 : decode cX6_addNow 43 = .ok (.irem, 1) := by decide +kernel
theorem dX6_addNow_44 : decode cX6_addNow 44 = .ok (.imul, 1) := by decide +kernel
theorem dX6_addNow_45 : decode cX6_addNow 45 = .ok (.iload 4, 2) := by decide +kernel
theorem dX6_addNow_47 : decode cX6_addNow 47 = .ok (.bipush 6, 2) := by decide +kernel
theorem dX6_addNow_49 : decode cX6_addNow 49 = .ok (.idiv, 1) := by decide +kernel
theorem dX6_addNow_50 : decode cX6_addNow 50 = .ok (.iconst 2, 1) := by decide +kernel
theorem dX6_addNow_51 : decode cX6_addNow 51 = .ok (.irem, 1) := by decide +kernel
theorem dX6_addNow_52 : decode cX6_addNow 52 = .ok (.iadd, 1) := by decide +kernel
theorem dX6_addNow_53 : decode cX6_addNow 53 = .ok (.iastore, 1) := by decide +kernel
theorem dX6_addNow_54 : decode cX6_addNow 54 = .ok (.aload_n 0, 1) := by decide +kernel
theorem dX6_addNow_55 : decode cX6_addNow 55 = .ok (.aload_n 0, 1) := by decide +kernel
theorem dX6_addNow_56 : decode cX6_addNow 56 = .ok (.getfield 97, 3) := by decide +kernel
theorem dX6_addNow_59 : decode cX6_addNow 59 = .ok (.iconst 1, 1) := by decide +kernel
theorem dX6_addNow_60 : decode cX6_addNow 60 = .ok (.iadd, 1) := by decide +kernel
theorem dX6_addNow_61 : decode cX6_addNow 61 = .ok (.iconst 0, 1) := by decide +kernel
theorem dX6_addNow_62 : decode cX6_addNow 62 = .ok (.invokevirtual 106, 3) := by decide +kernel
theorem dX6_addNow_65 : decode cX6_addNow 65 = .ok (.aload_n 0, 1) := by decide +kernel
theorem dX6_addNow_66 : decode cX6_addNow 66 = .ok (.iconst 0, 1) := by decide +kernel
theorem dX6_addNow_67 : decode cX6_addNow 67 = .ok (.invokevirtual 165, 3) := by decide +kernel
theorem dX6_addNow_70 : decode cX6_addNow 70 = .ok (.istore 5, 2) := by decide +kernel
theorem dX6_addNow_72 : decode cX6_addNow 72 = .ok (.iload 5, 2) := by decide +kernel
theorem dX6_addNow_74 : decode cX6_addNow 74 = .ok (.iload_n 3, 1) := by decide +kernel
theorem dX6_addNow_75 : decode cX6_addNow 75 = .ok (.if_icmp .le 8, 3) := by decide +kernel
theorem dX6_addNow_78 : decode cX6_addNow 78 = .ok (.iload 4, 2) := by decide +kernel
theorem dX6_addNow_80 : decode cX6_addNow 80 = .ok (.goto 4, 3) := by decide +kernel
theorem dX6_addNow_83 : decode cX6_addNow 83 = .ok (.iload_n 2, 1) := by decide +kernel
theorem dX6_addNow_84 : decode cX6_addNow 84 = .ok (.istore_n 2, 1) := by decide +kernel
theorem dX6_addNow_85 : decode cX6_addNow 85 = .ok (.iload 5, 2) := by decide +kernel
theorem dX6_addNow_87 : decode cX6_addNow 87 = .ok (.iload_n 3, 1) := by decide +kernel
theorem dX6_addNow_88 : decode cX6_addNow 88 = .ok (.if_icmp .le 8, 3) := by decide +kernel
theorem dX6_addNow_91 : decode cX6_addNow 91 = .ok (.iload 5, 2) := by decide +kernel
theorem dX6_addNow_93 : decode cX6_addNow 93 = .ok (.goto 4, 3) := by decide +kernel
theorem dX6_addNow_96 : decode cX6_addNow 96 = .ok (.iload_n 3, 1) := by decide +kernel
theorem dX6_addNow_97 : decode cX6_addNow 97 = .ok (.istore_n 3, 1) := by decide +kernel
theorem dX6_addNow_98 : decode cX6_addNow 98 = .ok (.iinc 4 1, 3) := by decide +kernel
theorem dX6_addNow_101 : decode cX6_addNow 101 = .ok (.goto (-94), 3) := by decide +kernel
theorem dX6_addNow_104 : decode cX6_addNow 104 = .ok (.iload_n 1, 1) := by decide +kernel
theorem dX6_addNow_105 : decode cX6_addNow 105 = .ok (.ifCond .ne 7, 3) := by decide +kernel
theorem dX6_addNow_108 : decode cX6_addNow 108 = .ok (.iload_n 2, 1) := by decide +kernel
theorem dX6_addNow_109 : decode cX6_addNow 109 = .ok (.goto 4, 3) := by decide +kernel
theorem dX6_addNow_112 : decode cX6_addNow 112 = .ok (.iload_n 3, 1) := by decide +kernel
theorem dX6_addNow_113 : decode cX6_addNow 113 = .ok (.ireturn, 1) := by decide +kernel
theorem dX6_add_0 : decode cX6_add 0 = .ok (.iload_n 1, 1) := by decide +kernel
theorem dX6_add_1 : decode cX6_add 1 = .ok (.iconst 0, 1) := by decide +kernel
theorem dX6_add_2 : decode cX6_add 2 = .ok (.iconst 1, 1) := by decide +kernel
theorem dX6_add_3 : decode cX6_add 3 = .ok (.invokestatic 69, 3) := by decide +kernel
theorem dX6_add_6 : decode cX6_add 6 = .ok (.ifCond .ne 6, 3) := by decide +kernel
theorem dX6_add_9 : decode cX6_add 9 = .ok (.bipush (-102), 2) := by decide +kernel
theorem dX6_add_11 : decode cX6_add 11 = .ok (.ireturn, 1) := by decide +kernel
theorem dX6_add_12 : decode cX6_add 12 = .ok (.aload_n 0, 1) := by decide +kernel
theorem dX6_add_13 : decode cX6_add 13 = .ok (.getfield 97, 3) := by decide +kernel
theorem dX6_add_16 : decode cX6_add 16 = .ok (.ifCond .eq 20, 3) := by decide +kernel
theorem dX6_add_19 : decode cX6_add 19 = .ok (.aload_n 0, 1) := by decide +kernel
theorem dX6_add_20 : decode cX6_add 20 = .ok (.getfield 97, 3) := by decide +kernel
theorem dX6_add_23 : decode cX6_add 23 = .ok (.iconst 4, 1) := by decide +kernel
theorem dX6_add_24 : decode cX6_add 24 = .ok (.if_icmp .eq 12, 3) := by decide +kernel
theorem dX6_add_27 : decode cX6_add 27 = .ok (.aload_n 0, 1) := by decide +kernel
theorem dX6_add_28 : decode cX6_add 28 = .ok (.getfield 220, 3) := by decide +kernel
theorem dX6_add_31 : decode cX6_add 31 = .ok (.bipush 60, 2) := by decide +kernel
theorem dX6_add_33 : decode cX6_add 33 = .ok (.if_icmp .ne 6, 3) := by decide +kernel
theorem dX6_add_36 : decode cX6_add 36 = .ok (.bipush (-103), 2) := by decide +kernel
theorem dX6_add_38 : decode cX6_add 38 = .ok (.ireturn, 1) := by decide +kernel
theorem dX6_add_39 : decode cX6_add 39 = .ok (.aload_n 0, 1) := by decide +kernel
theorem dX6_add_40 : decode cX6_add 40 = .ok (.dup, 1) := by decide +kernel
theorem dX6_add_41 : decode cX6_add 41 = .ok (.getfield 220, 3) := by decide +kernel
theorem dX6_add_44 : decode cX6_add 44 = .ok (.iconst 1, 1) := by decide +kernel
theorem dX6_add_45 : decode cX6_add 45 = .ok (.iadd, 1) := by decide +kernel
theorem dX6_add_46 : decode cX6_add 46 = .ok (.putfield 220, 3) := by decide +kernel
theorem dX6_add_49 : decode cX6_add 49 = .ok (.aload_n 0, 1) := by decide +kernel
theorem dX6_add_50 : decode cX6_add 50 = .ok (.iload_n 1, 1) := by decide +kernel
theorem dX6_add_51 : decode cX6_add 51 = .ok (.invokevirtual 223, 3) := by decide +kernel
theorem dX6_add_54 : decode cX6_add 54 = .ok (.ireturn, 1) := by decide +kernel
theorem dX6_tell_0 : decode cX6_tell 0 = .ok (.iload_n 1, 1) := by decide +kernel
theorem dX6_tell_1 : decode cX6_tell 1 = .ok (.invokestatic 155, 3) := by decide +kernel
theorem dX6_tell_4 : decode cX6_tell 4 = .ok (.ifCond .ne 6, 3) := by decide +kernel
theorem dX6_tell_7 : decode cX6_tell 7 = .ok (.bipush (-101), 2) := by decide +kernel
theorem dX6_tell_9 : decode cX6_tell 9 = .ok (.ireturn, 1) := by decide +kernel
theorem dX6_tell_10 : decode cX6_tell 10 = .ok (.aload_n 0, 1) := by decide +kernel
theorem dX6_tell_11 : decode cX6_tell 11 = .ok (.getfield 226, 3) := by decide +kernel
theorem dX6_tell_14 : decode cX6_tell 14 = .ok (.istore_n 2, 1) := by decide +kernel
theorem dX6_tell_15 : decode cX6_tell 15 = .ok (.aload_n 0, 1) := by decide +kernel
theorem dX6_tell_16 : decode cX6_tell 16 = .ok (.getfield 37, 3) := by decide +kernel
theorem dX6_tell_19 : decode cX6_tell 19 = .ok (.iconst 0, 1) := by decide +kernel
theorem dX6_tell_20 : decode cX6_tell 20 = .ok (.iload_n 1, 1) := by decide +kernel
theorem dX6_tell_21 : decode cX6_tell 21 = .ok (.iastore, 1) := by decide +kernel
theorem dX6_tell_22 : decode cX6_tell 22 = .ok (.aload_n 0, 1) := by decide +kernel
theorem dX6_tell_23 : decode cX6_tell 23 = .ok (.iconst 1, 1) := by decide +kernel
theorem dX6_tell_24 : decode cX6_tell 24 = .ok (.putfield 226, 3) := by decide +kernel
theorem dX6_tell_27 : decode cX6_tell 27 = .ok (.iload_n 2, 1) := by decide +kernel
theorem dX6_tell_28 : decode cX6_tell 28 = .ok (.ireturn, 1) := by decide +kernel
theorem dX6_then_0 : decode cX6_then 0 = .ok (.aload_n 0, 1) := by decide +kernel
theorem dX6_then_1 : decode cX6_then 1 = .ok (.getfield 226, 3) := by decide +kernel
theorem dX6_then_4 : decode cX6_then 4 = .ok (.ifCond .ne 6, 3) := by decide +kernel
theorem dX6_then_7 : decode cX6_then 7 = .ok (.bipush (-103), 2) := by decide +kernel
theorem dX6_then_9 : decode cX6_then 9 = .ok (.ireturn, 1) := by decide +kernel
theorem dX6_then_10 : decode cX6_then 10 = .ok (.iload_n 1, 1) := by decide +kernel
theorem dX6_then_11 : decode cX6_then 11 = .ok (.invokestatic 155, 3) := by decide +kernel
theorem dX6_then_14 : decode cX6_then 14 = .ok (.ifCond .ne 6, 3) := by decide +kernel
theorem dX6_then_17 : decode cX6_then 17 = .ok (.bipush (-101), 2) := by decide +kernel
theorem dX6_then_19 : decode cX6_then 19 = .ok (.ireturn, 1) := by decide +kernel
theorem dX6_then_20 : decode cX6_then 20 = .ok (.aload_n 0, 1) := by decide +kernel
theorem dX6_then_21 : decode cX6_then 21 = .ok (.getfield 226, 3) := by decide +kernel
theorem dX6_then_24 : decode cX6_then 24 = .ok (.bipush 6, 2) := by decide +kernel
theorem dX6_then_26 : decode cX6_then 26 = .ok (.if_icmp .ne 6, 3) := by decide +kernel
theorem dX6_then_29 : decode cX6_then 29 = .ok (.bipush (-104), 2) := by decide +kernel
theorem dX6_then_31 : decode cX6_then 31 = .ok (.ireturn, 1) := by decide +kernel
theorem dX6_then_32 : decode cX6_then 32 = .ok (.aload_n 0, 1) := by decide +kernel
theorem dX6_then_33 : decode cX6_then 33 = .ok (.getfield 37, 3) := by decide +kernel
theorem dX6_then_36 : decode cX6_then 36 = .ok (.aload_n 0, 1) := by decide +kernel
theorem dX6_then_37 : decode cX6_then 37 = .ok (.getfield 226, 3) := by decide +kernel
theorem dX6_then_40 : decode cX6_then 40 = .ok (.iload_n 1, 1) := by decide +kernel
theorem dX6_then_41 : decode cX6_then 41 = .ok (.iastore, 1) := by decide +kernel
theorem dX6_then_42 : decode cX6_then 42 = .ok (.aload_n 0, 1) := by decide +kernel
theorem dX6_then_43 : decode cX6_then 43 = .ok (.dup, 1) := by decide +kernel
theorem dX6_then_44 : decode cX6_then 44 = .ok (.getfield 226, 3) := by decide +kernel
theorem dX6_then_47 : decode cX6_then 47 = .ok (.iconst 1, 1) := by decide +kernel
theorem dX6_then_48 : decode cX6_then 48 = .ok (.iadd, 1) := by decide +kernel
theorem dX6_then_49 : decode cX6_then 49 = .ok (.putfield 226, 3) := by decide +kernel
theorem dX6_then_52 : decode cX6_then 52 = .ok (.aload_n 0, 1) := by decide +kernel
theorem dX6_then_53 : decode cX6_then 53 = .ok (.getfield 226, 3) := by decide +kernel
theorem dX6_then_56 : decode cX6_then 56 = .ok (.ireturn, 1) := by decide +kernel
theorem dX6_fitsNow_0 : decode cX6_fitsNow 0 = .ok (.iconst 0, 1) := by decide +kernel
theorem dX6_fitsNow_1 : decode cX6_fitsNow 1 = .ok (.istore_n 3, 1) := by decide +kernel
theorem dX6_fitsNow_2 : decode cX6_fitsNow 2 = .ok (.iconst (-1), 1) := by decide +kernel
theorem dX6_fitsNow_3 : decode cX6_fitsNow 3 = .ok (.istore 4, 2) := by decide +kernel
theorem dX6_fitsNow_5 : decode cX6_fitsNow 5 = .ok (.iconst 0, 1) := by decide +kernel
theorem dX6_fitsNow_6 : decode cX6_fitsNow 6 = .ok (.istore 5, 2) := by decide +kernel
theorem dX6_fitsNow_8 : decode cX6_fitsNow 8 = .ok (.iload 5, 2) := by decide +kernel
theorem dX6_fitsNow_10 : decode cX6_fitsNow 10 = .ok (.aload_n 0, 1) := by decide +kernel
theorem dX6_fitsNow_11 : decode cX6_fitsNow 11 = .ok (.getfield 110, 3) := by decide +kernel
theorem dX6_fitsNow_14 : decode cX6_fitsNow 14 = .ok (.if_icmp .ge 101, 3) := by decide +kernel
theorem dX6_fitsNow_17 : decode cX6_fitsNow 17 = .ok (.iconst 1, 1) := by decide +kernel
theorem dX6_fitsNow_18 : decode cX6_fitsNow 18 = .ok (.istore 6, 2) := by decide +kernel
theorem dX6_fitsNow_20 : decode cX6_fitsNow 20 = .ok (.iconst 1, 1) := by decide +kernel
theorem dX6_fitsNow_21 : decode cX6_fitsNow 21 = .ok (.istore 7, 2) := by decide +kernel
theorem dX6_fitsNow_23 : decode cX6_fitsNow 23 = .ok (.iload 7, 2) := by decide +kernel
theorem dX6_fitsNow_25 : decode cX6_fitsNow 25 = .ok (.aload_n 0, 1) := by decide +kernel
theorem dX6_fitsNow_26 : decode cX6_fitsNow 26 = .ok (.getfield 226, 3) := by decide +kernel
theorem dX6_fitsNow_29 : decode cX6_fitsNow 29 = .ok (.if_icmp .ge 47, 3) := by decide +kernel
theorem dX6_fitsNow_32 : decode cX6_fitsNow 32 = .ok (.iload 6, 2) := by decide +kernel
theorem dX6_fitsNow_34 : decode cX6_fitsNow 34 = .ok (.ifCond .eq 33, 3) := by decide +kernel
theorem dX6_fitsNow_37 : decode cX6_fitsNow 37 = .ok (.aload_n 0, 1) := by decide +kernel
theorem dX6_fitsNow_38 : decode cX6_fitsNow 38 = .ok (.iload_n 1, 1) := by decide +kernel
theorem dX6_fitsNow_39 : decode cX6_fitsNow 39 = .ok (.iload 5, 2) := by decide +kernel
theorem dX6_fitsNow_41 : decode cX6_fitsNow 41 = .ok (.aload_n 0, 1) := by decide +kernel
theorem dX6_fitsNow_42 : decode cX6_fitsNow 42 = .ok (.getfield 37, 3) := by decide +kernel
theorem dX6_fitsNow_45 : decode cX6_fitsNow 45 = .ok (.iload 7, 2) := by decide +kernel
theorem dX6_fitsNow_47 : decode cX6_fitsNow 47 = .ok (.iconst 1, 1) := by decide +kernel
theorem dX6_fitsNow_48 : decode cX6_fitsNow 48 = .ok (.isub, 1) := by decide +kernel
theorem dX6_fitsNow_49 : decode cX6_fitsNow 49 = .ok (.iaload, 1) := by decide +kernel
theorem dX6_fitsNow_50 : decode cX6_fitsNow 50 = .ok (.invokevirtual 190, 3) := by decide +kernel
theorem dX6_fitsNow_53 : decode cX6_fitsNow 53 = .ok (.aload_n 0, 1) := by decide +kernel
theorem dX6_fitsNow_54 : decode cX6_fitsNow 54 = .ok (.getfield 37, 3) := by decide +kernel
theorem dX6_fitsNow_57 : decode cX6_fitsNow 57 = .ok (.iload 7, 2) := by decide +kernel
theorem dX6_fitsNow_59 : decode cX6_fitsNow 59 = .ok (.iaload, 1) := by decide +kernel
theorem dX6_fitsNow_60 : decode cX6_fitsNow 60 = .ok (.if_icmp .ne 7, 3) := by decide +kernel
theorem dX6_fitsNow_63 : decode cX6_fitsNow 63 = .ok (.iconst 1, 1) := by decide +kernel
theorem dX6_fitsNow_64 : decode cX6_fitsNow 64 = .ok (.goto 4, 3) := by decide +kernel
theorem dX6_fitsNow_67 : decode cX6_fitsNow 67 = .ok (.iconst 0, 1) := by decide +kernel
theorem dX6_fitsNow_68 : decode cX6_fitsNow 68 = .ok (.istore 6, 2) := by decide +kernel
theorem dX6_fitsNow_70 : decode cX6_fitsNow 70 = .ok (.iinc 7 1, 3) := by decide +kernel
theorem dX6_fitsNow_73 : decode cX6_fitsNow 73 = .ok (.goto (-50), 3) := by decide +kernel
theorem dX6_fitsNow_76 : decode cX6_fitsNow 76 = .ok (.iload_n 3, 1) := by decide +kernel
theorem dX6_fitsNow_77 : decode cX6_fitsNow 77 = .ok (.iload 6, 2) := by decide +kernel
theorem dX6_fitsNow_79 : decode cX6_fitsNow 79 = .ok (.ifCond .eq 7, 3) := by decide +kernel
theorem dX6_fitsNow_82 : decode cX6_fitsNow 82 = .ok (.iconst 1, 1) := by decide +kernel
theorem dX6_fitsNow_83 : decode cX6_fitsNow 83 = .ok (.goto 4, 3) := by decide +kernel
theorem dX6_fitsNow_86 : decode cX6_fitsNow 86 = .ok (.iconst 0, 1) := by decide +kernel
theorem dX6_fitsNow_87 : decode cX6_fitsNow 87 = .ok (.iadd, 1) := by decide +kernel
theorem dX6_fitsNow_88 : decode cX6_fitsNow 88 = .ok (.istore_n 3, 1) := by decide +kernel
theorem dX6_fitsNow_89 : decode cX6_fitsNow 89 = .ok (.iload 6, 2) := by decide +kernel
theorem dX6_fitsNow_91 : decode cX6_fitsNow 91 = .ok (.ifCond .eq 14, 3) := by decide +kernel
theorem dX6_fitsNow_94 : decode cX6_fitsNow 94 = .ok (.iload 4, 2) := by decide +kernel
theorem dX6_fitsNow_96 : decode cX6_fitsNow 96 = .ok (.iconst (-1), 1) := by decide +kernel
theorem dX6_fitsNow_97 : decode cX6_fitsNow 97 = .ok (.if_icmp .ne 8, 3) := by decide +kernel
theorem dX6_fitsNow_100 : decode cX6_fitsNow 100 = .ok (.iload 5, 2) := by decide +kernel
theorem dX6_fitsNow_102 : decode cX6_fitsNow 102 = .ok (.goto 5, 3) := by decide +kernel
theorem dX6_fitsNow_105 : decode cX6_fitsNow 105 = .ok (.iload 4, 2) := by decide +kernel
theorem dX6_fitsNow_107 : decode cX6_fitsNow 107 = .ok (.istore 4, 2) := by decide +kernel
theorem dX6_fitsNow_109 : decode cX6_fitsNow 109 = .ok (.iinc 5 1, 3) := by decide +kernel
theorem dX6_fitsNow_112 : decode cX6_fitsNow 112 = .ok (.goto (-104), 3) := by decide +kernel
theorem dX6_fitsNow_115 : decode cX6_fitsNow 115 = .ok (.iload_n 2, 1) := by decide +kernel
theorem dX6_fitsNow_116 : decode cX6_fitsNow 116 = .ok (.ifCond .ne 7, 3) := by decide +kernel
theorem dX6_fitsNow_119 : decode cX6_fitsNow 119 = .ok (.iload_n 3, 1) := by decide +kernel
theorem dX6_fitsNow_120 : decode cX6_fitsNow 120 = .ok (.goto 5, 3) := by decide +kernel
theorem dX6_fitsNow_123 : decode cX6_fitsNow 123 = .ok (.iload 4, 2) := by decide +kernel
theorem dX6_fitsNow_125 : decode cX6_fitsNow 125 = .ok (.ireturn, 1) := by decide +kernel
theorem dX6_fits_0 : decode cX6_fits 0 = .ok (.aload_n 0, 1) := by decide +kernel
theorem dX6_fits_1 : decode cX6_fits 1 = .ok (.iload_n 1, 1) := by decide +kernel
theorem dX6_fits_2 : decode cX6_fits 2 = .ok (.invokevirtual 184, 3) := by decide +kernel
theorem dX6_fits_5 : decode cX6_fits 5 = .ok (.ifCond .ne 6, 3) := by decide +kernel
theorem dX6_fits_8 : decode cX6_fits 8 = .ok (.bipush (-101), 2) := by decide +kernel
theorem dX6_fits_10 : decode cX6_fits 10 = .ok (.ireturn, 1) := by decide +kernel
theorem dX6_fits_11 : decode cX6_fits 11 = .ok (.iload_n 2, 1) := by decide +kernel
theorem dX6_fits_12 : decode cX6_fits 12 = .ok (.iconst 0, 1) := by decide +kernel
theorem dX6_fits_13 : decode cX6_fits 13 = .ok (.iconst 1, 1) := by decide +kernel
theorem dX6_fits_14 : decode cX6_fits 14 = .ok (.invokestatic 69, 3) := by decide +kernel
theorem dX6_fits_17 : decode cX6_fits 17 = .ok (.ifCond .ne 6, 3) := by decide +kernel
theorem dX6_fits_20 : decode cX6_fits 20 = .ok (.bipush (-102), 2) := by decide +kernel
theorem dX6_fits_22 : decode cX6_fits 22 = .ok (.ireturn, 1) := by decide +kernel
theorem dX6_fits_23 : decode cX6_fits 23 = .ok (.aload_n 0, 1) := by decide +kernel
theorem dX6_fits_24 : decode cX6_fits 24 = .ok (.getfield 97, 3) := by decide +kernel
theorem dX6_fits_27 : decode cX6_fits 27 = .ok (.ifCond .eq 10, 3) := by decide +kernel
theorem dX6_fits_30 : decode cX6_fits 30 = .ok (.aload_n 0, 1) := by decide +kernel
theorem dX6_fits_31 : decode cX6_fits 31 = .ok (.getfield 226, 3) := by decide +kernel
theorem dX6_fits_34 : decode cX6_fits 34 = .ok (.ifCond .ne 6, 3) := by decide +kernel
theorem dX6_fits_37 : decode cX6_fits 37 = .ok (.bipush (-103), 2) := by decide +kernel
theorem dX6_fits_39 : decode cX6_fits 39 = .ok (.ireturn, 1) := by decide +kernel
theorem dX6_fits_40 : decode cX6_fits 40 = .ok (.aload_n 0, 1) := by decide +kernel
theorem dX6_fits_41 : decode cX6_fits 41 = .ok (.aload_n 0, 1) := by decide +kernel
theorem dX6_fits_42 : decode cX6_fits 42 = .ok (.getfield 97, 3) := by decide +kernel
theorem dX6_fits_45 : decode cX6_fits 45 = .ok (.iconst 0, 1) := by decide +kernel
theorem dX6_fits_46 : decode cX6_fits 46 = .ok (.invokevirtual 106, 3) := by decide +kernel
theorem dX6_fits_49 : decode cX6_fits 49 = .ok (.aload_n 0, 1) := by decide +kernel
theorem dX6_fits_50 : decode cX6_fits 50 = .ok (.iload_n 1, 1) := by decide +kernel
theorem dX6_fits_51 : decode cX6_fits 51 = .ok (.iload_n 2, 1) := by decide +kernel
theorem dX6_fits_52 : decode cX6_fits 52 = .ok (.invokevirtual 229, 3) := by decide +kernel
theorem dX6_fits_55 : decode cX6_fits 55 = .ok (.ireturn, 1) := by decide +kernel
theorem dX6_draw_0 : decode cX6_draw 0 = .ok (.aload_n 0, 1) := by decide +kernel
theorem dX6_draw_1 : decode cX6_draw 1 = .ok (.ldc2_w 232, 3) := by decide +kernel
theorem dX6_draw_4 : decode cX6_draw 4 = .ok (.aload_n 0, 1) := by decide +kernel
theorem dX6_draw_5 : decode cX6_draw 5 = .ok (.getfield 234, 3) := by decide +kernel
theorem dX6_draw_8 : decode cX6_draw 8 = .ok (.lmul, 1) := by decide +kernel
theorem dX6_draw_9 : decode cX6_draw 9 = .ok (.ldc2_w 238, 3) := by decide +kernel
theorem dX6_draw_12 : decode cX6_draw 12 = .ok (.ladd, 1) := by decide +kernel
theorem dX6_draw_13 : decode cX6_draw 13 = .ok (.ldc2_w 240, 3) := by decide +kernel
theorem dX6_draw_16 : decode cX6_draw 16 = .ok (.land, 1) := by decide +kernel
theorem dX6_draw_17 : decode cX6_draw 17 = .ok (.putfield 234, 3) := by decide +kernel
theorem dX6_draw_20 : decode cX6_draw 20 = .ok (.aload_n 0, 1) := by decide +kernel
theorem dX6_draw_21 : decode cX6_draw 21 = .ok (.getfield 234, 3) := by decide +kernel
theorem dX6_draw_24 : decode cX6_draw 24 = .ok (.ldc2_w 242, 3) := by decide +kernel
theorem dX6_draw_27 : decode cX6_draw 27 = .ok (.ldiv, 1) := by decide +kernel
theorem dX6_draw_28 : decode cX6_draw 28 = .ok (.iload_n 1, 1) := by decide +kernel
theorem dX6_draw_29 : decode cX6_draw 29 = .ok (.i2l, 1) := by decide +kernel
theorem dX6_draw_30 : decode cX6_draw 30 = .ok (.lrem, 1) := by decide +kernel
theorem dX6_draw_31 : decode cX6_draw 31 = .ok (.l2i, 1) := by decide +kernel
theorem dX6_draw_32 : decode cX6_draw 32 = .ok (.ireturn, 1) := by decide +kernel
theorem dX6_timesNow_0 : decode cX6_timesNow 0 = .ok (.aload_n 0, 1) := by decide +kernel
theorem dX6_timesNow_1 : decode cX6_timesNow 1 = .ok (.aload_n 0, 1) := by decide +kernel
theorem dX6_timesNow_2 : decode cX6_timesNow 2 = .ok (.getfield 97, 3) := by decide +kernel
theorem dX6_timesNow_5 : decode cX6_timesNow 5 = .ok (.iconst 0, 1) := by decide +kernel
theorem dX6_timesNow_6 : decode cX6_timesNow 6 = .ok (.invokevirtual 106, 3) := by decide +kernel
theorem dX6_timesNow_9 : decode cX6_timesNow 9 = .ok (.aload_n 0, 1) := by decide +kernel
theorem dX6_timesNow_10 : decode cX6_timesNow 10 = .ok (.invokevirtual 200, 3) := by decide +kernel
theorem dX6_timesNow_13 : decode cX6_timesNow 13 = .ok (.aload_n 0, 1) := by decide +kernel
theorem dX6_timesNow_14 : decode cX6_timesNow 14 = .ok (.invokevirtual 203, 3) := by decide +kernel
theorem dX6_timesNow_17 : decode cX6_timesNow 17 = .ok (.lstore 4, 2) := by decide +kernel
theorem dX6_timesNow_19 : decode cX6_timesNow 19 = .ok (.aload_n 0, 1) := by decide +kernel
theorem dX6_timesNow_20 : decode cX6_timesNow 20 = .ok (.iload_n 2, 1) := by decide +kernel
theorem dX6_timesNow_21 : decode cX6_timesNow 21 = .ok (.i2l, 1) := by decide +kernel
theorem dX6_timesNow_22 : decode cX6_timesNow 22 = .ok (.putfield 234, 3) := by decide +kernel
theorem dX6_timesNow_25 : decode cX6_timesNow 25 = .ok (.aload_n 0, 1) := by decide +kernel
theorem dX6_timesNow_26 : decode cX6_timesNow 26 = .ok (.getfield 162, 3) := by decide +kernel
theorem dX6_timesNow_29 : decode cX6_timesNow 29 = .ok (.istore 6, 2) := by decide +kernel
theorem dX6_timesNow_31 : decode cX6_timesNow 31 = .ok (.iconst 0, 1) := by decide +kernel
theorem dX6_timesNow_32 : decode cX6_timesNow 32 = .ok (.istore 7, 2) := by decide +kernel
theorem dX6_timesNow_34 : decode cX6_timesNow 34 = .ok (.iconst 0, 1) := by decide +kernel
theorem dX6_timesNow_35 : decode cX6_timesNow 35 = .ok (.istore 8, 2) := by decide +kernel
theorem dX6_timesNow_37 : decode cX6_timesNow 37 = .ok (.iload 8, 2) := by decide +kernel
theorem dX6_timesNow_39 : decode cX6_timesNow 39 = .ok (.iload_n 1, 1) := by decide +kernel
theorem dX6_timesNow_40 : decode cX6_timesNow 40 = .ok (.if_icmp .ge 59, 3) := by decide +kernel
theorem dX6_timesNow_43 : decode cX6_timesNow 43 = .ok (.aload_n 0, 1) := by decide +kernel
theorem dX6_timesNow_44 : decode cX6_timesNow 44 = .ok (.iconst 2, 1) := by decide +kernel
theorem dX6_timesNow_45 : decode cX6_timesNow 45 = .ok (.invokevirtual 244, 3) := by decide +kernel
theorem dX6_timesNow_48 : decode cX6_timesNow 48 = .ok (.ifCond .ne 12, 3) := by decide +kernel
theorem dX6_timesNow_51 : decode cX6_timesNow 51 = .ok (.aload_n 0, 1) := by decide +kernel
theorem dX6_timesNow_52 : decode cX6_timesNow 52 = .ok (.iload 6, 2) := by decide +kernel
theorem dX6_timesNow_54 : decode cX6_timesNow 54 = .ok (.invokevirtual 207, 3) := by decide +kernel
theorem dX6_timesNow_57 : decode cX6_timesNow 57 = .ok (.goto 14, 3) := by decide +kernel
theorem dX6_timesNow_60 : decode cX6_timesNow 60 = .ok (.iload 6, 2) := by decide +kernel
theorem dX6_timesNow_62 : decode cX6_timesNow 62 = .ok (.iconst 1, 1) := by decide +kernel
theorem dX6_timesNow_63 : decode cX6_timesNow 63 = .ok (.aload_n 0, 1) := by decide +kernel
theorem dX6_timesNow_64 : decode cX6_timesNow 64 = .ok (.bipush 6, 2) := by decide +kernel
theorem dX6_timesNow_66 : decode cX6_timesNow 66 = .ok (.invokevirtual 244, 3) := by decide +kernel
theorem dX6_timesNow_69 : decode cX6_timesNow 69 = .ok (.ishl, 1) := by decide +kernel
theorem dX6_timesNow_70 : decode cX6_timesNow 70 = .ok (.ixor, 1) := by decide +kernel
theorem dX6_timesNow_71 : decode cX6_timesNow 71 = .ok (.istore 6, 2) := by decide +kernel
theorem dX6_timesNow_73 : decode cX6_timesNow 73 = .ok (.iload 7, 2) := by decide +kernel
theorem dX6_timesNow_75 : decode cX6_timesNow 75 = .ok (.lload 4, 2) := by decide +kernel
theorem dX6_timesNow_77 : decode cX6_timesNow 77 = .ok (.iload 6, 2) := by decide +kernel
theorem dX6_timesNow_79 : decode cX6_timesNow 79 = .ok (.invokestatic 158, 3) := by decide +kernel
theorem dX6_timesNow_82 : decode cX6_timesNow 82 = .ok (.ifCond .eq 7, 3) := by decide +kernel
theorem dX6_timesNow_85 : decode cX6_timesNow 85 = .ok (.iconst 1, 1) := by decide +kernel
theorem dX6_timesNow_86 : decode cX6_timesNow 86 = .ok (.goto 4, 3) := by decide +kernel
theorem dX6_timesNow_89 : decode cX6_timesNow 89 = .ok (.iconst 0, 1) := by decide +kernel
theorem dX6_timesNow_90 : decode cX6_timesNow 90 = .ok (.iadd, 1) := by decide +kernel
theorem dX6_timesNow_91 : decode cX6_timesNow 91 = .ok (.istore 7, 2) := by decide +kernel
theorem dX6_timesNow_93 : decode cX6_timesNow 93 = .ok (.iinc 8 1, 3) := by decide +kernel
theorem dX6_timesNow_96 : decode cX6_timesNow 96 = .ok (.goto (-59), 3) := by decide +kernel
theorem dX6_timesNow_99 : decode cX6_timesNow 99 = .ok (.iload_n 3, 1) := by decide +kernel
theorem dX6_timesNow_100 : decode cX6_timesNow 100 = .ok (.ifCond .ne 8, 3) := by decide +kernel
theorem dX6_timesNow_103 : decode cX6_timesNow 103 = .ok (.iload 6, 2) := by decide +kernel
theorem dX6_timesNow_105 : decode cX6_timesNow 105 = .ok (.goto 18, 3) := by decide +kernel
theorem dX6_timesNow_108 : decode cX6_timesNow 108 = .ok (.iload_n 3, 1) := by decide +kernel
theorem dX6_timesNow_109 : decode cX6_timesNow 109 = .ok (.iconst 1, 1) := by decide +kernel
theorem dX6_timesNow_110 : decode cX6_timesNow 110 = .ok (.if_icmp .ne 8, 3) := by decide +kernel
theorem dX6_timesNow_113 : decode cX6_timesNow 113 = .ok (.iload 7, 2) := by decide +kernel
theorem dX6_timesNow_115 : decode cX6_timesNow 115 = .ok (.goto 8, 3) := by decide +kernel
theorem dX6_timesNow_118 : decode cX6_timesNow 118 = .ok (.aload_n 0, 1) := by decide +kernel
theorem dX6_timesNow_119 : decode cX6_timesNow 119 = .ok (.getfield 234, 3) := by decide +kernel
theorem dX6_timesNow_122 : decode cX6_timesNow 122 = .ok (.l2i, 1) := by decide +kernel
theorem dX6_timesNow_123 : decode cX6_timesNow 123 = .ok (.ireturn, 1) := by decide +kernel
theorem dX6_times_0 : decode cX6_times 0 = .ok (.iload_n 1, 1) := by decide +kernel
theorem dX6_times_1 : decode cX6_times 1 = .ok (.iconst 1, 1) := by decide +kernel
theorem dX6_times_2 : decode cX6_times 2 = .ok (.bipush 60, 2) := by decide +kernel
theorem dX6_times_4 : decode cX6_times 4 = .ok (.invokestatic 69, 3) := by decide +kernel
theorem dX6_times_7 : decode cX6_times 7 = .ok (.ifCond .eq 16, 3) := by decide +kernel
theorem dX6_times_10 : decode cX6_times 10 = .ok (.iload_n 2, 1) := by decide +kernel
theorem dX6_times_11 : decode cX6_times 11 = .ok (.ifCond .lt 12, 3) := by decide +kernel
theorem dX6_times_14 : decode cX6_times 14 = .ok (.iload_n 3, 1) := by decide +kernel
theorem dX6_times_15 : decode cX6_times 15 = .ok (.iconst 0, 1) := by decide +kernel
theorem dX6_times_16 : decode cX6_times 16 = .ok (.iconst 2, 1) := by decide +kernel
theorem dX6_times_17 : decode cX6_times 17 = .ok (.invokestatic 69, 3) := by decide +kernel
theorem dX6_times_20 : decode cX6_times 20 = .ok (.ifCond .ne 6, 3) := by decide +kernel
theorem dX6_times_23 : decode cX6_times 23 = .ok (.bipush (-102), 2) := by decide +kernel
theorem dX6_times_25 : decode cX6_times 25 = .ok (.ireturn, 1) := by decide +kernel
theorem dX6_times_26 : decode cX6_times 26 = .ok (.aload_n 0, 1) := by decide +kernel
theorem dX6_times_27 : decode cX6_times 27 = .ok (.getfield 97, 3) := by decide +kernel
theorem dX6_times_30 : decode cX6_times 30 = .ok (.ifCond .ne 8, 3) := by decide +kernel
theorem dX6_times_33 : decode cX6_times 33 = .ok (.bipush (-103), 2) := by decide +kernel
theorem dX6_times_35 : decode cX6_times 35 = .ok (.goto 10, 3) := by decide +kernel
theorem dX6_times_38 : decode cX6_times 38 = .ok (.aload_n 0, 1) := by decide +kernel
theorem dX6_times_39 : decode cX6_times 39 = .ok (.iload_n 1, 1) := by decide +kernel
theorem dX6_times_40 : decode cX6_times 40 = .ok (.iload_n 2, 1) := by decide +kernel
theorem dX6_times_41 : decode cX6_times 41 = .ok (.iload_n 3, 1) := by decide +kernel
theorem dX6_times_42 : decode cX6_times 42 = .ok (.invokevirtual 247, 3) := by decide +kernel
theorem dX6_times_45 : decode cX6_times 45 = .ok (.ireturn, 1) := by decide +kernel
theorem dX6_image_0 : decode cX6_image 0 = .ok (.aload_n 0, 1) := by decide +kernel
theorem dX6_image_1 : decode cX6_image 1 = .ok (.iconst 1, 1) := by decide +kernel
theorem dX6_image_2 : decode cX6_image 2 = .ok (.putfield 250, 3) := by decide +kernel
theorem dX6_image_5 : decode cX6_image 5 = .ok (.aload_n 0, 1) := by decide +kernel
theorem dX6_image_6 : decode cX6_image 6 = .ok (.aload_n 0, 1) := by decide +kernel
theorem dX6_image_7 : decode cX6_image 7 = .ok (.getfield 162, 3) := by decide +kernel
theorem dX6_image_10 : decode cX6_image 10 = .ok (.putfield 253, 3) := by decide +kernel
theorem dX6_image_13 : decode cX6_image 13 = .ok (.aload_n 0, 1) := by decide +kernel
theorem dX6_image_14 : decode cX6_image 14 = .ok (.aload_n 0, 1) := by decide +kernel
theorem dX6_image_15 : decode cX6_image 15 = .ok (.getfield 175, 3) := by decide +kernel
theorem dX6_image_18 : decode cX6_image 18 = .ok (.putfield 256, 3) := by decide +kernel
theorem dX6_image_21 : decode cX6_image 21 = .ok (.aload_n 0, 1) := by decide +kernel
theorem dX6_image_22 : decode cX6_image 22 = .ok (.aload_n 0, 1) := by decide +kernel
theorem dX6_image_23 : decode cX6_image 23 = .ok (.getfield 197, 3) := by decide +kernel
theorem dX6_image_26 : decode cX6_image 26 = .ok (.putfield 259, 3) := by decide +kernel
theorem dX6_image_29 : decode cX6_image 29 = .ok (.aload_n 0, 1) := by decide +kernel
theorem dX6_image_30 : decode cX6_image 30 = .ok (.aload_n 0, 1) := by decide +kernel
theorem dX6_image_31 : decode cX6_image 31 = .ok (.getfield 226, 3) := by decide +kernel
theorem dX6_image_34 : decode cX6_image 34 = .ok (.putfield 262, 3) := by decide +kernel
theorem dX6_image_37 : decode cX6_image 37 = .ok (.iconst 0, 1) := by decide +kernel
theorem dX6_image_38 : decode cX6_image 38 = .ok (.istore_n 1, 1) := by decide +kernel
theorem dX6_image_39 : decode cX6_image 39 = .ok (.iload_n 1, 1) := by decide +kernel
theorem dX6_image_40 : decode cX6_image 40 = .ok (.iconst 4, 1) := by decide +kernel
theorem dX6_image_41 : decode cX6_image 41 = .ok (.if_icmp .ge 21, 3) := by decide +kernel
theorem dX6_image_44 : decode cX6_image 44 = .ok (.aload_n 0, 1) := by decide +kernel
theorem dX6_image_45 : decode cX6_image 45 = .ok (.getfield 63, 3) := by decide +kernel
theorem dX6_image_48 : decode cX6_image 48 = .ok (.iload_n 1, 1) := by decide +kernel
theorem dX6_image_49 : decode cX6_image 49 = .ok (.aload_n 0, 1) := by decide +kernel
theorem dX6_image_50 : decode cX6_image 50 = .ok (.getfield 34, 3) := by decide +kernel
theorem dX6_image_53 : decode cX6_image 53 = .ok (.iload_n 1, 1) := by decide +kernel
theorem dX6_image_54 : decode cX6_image 54 = .ok (.iaload, 1) := by decide +kernel
theorem dX6_image_55 : decode cX6_image 55 = .ok (.iastore, 1) := by decide +kernel
theorem dX6_image_56 : decode cX6_image 56 = .ok (.iinc 1 1, 3) := by decide +kernel
theorem dX6_image_59 : decode cX6_image 59 = .ok (.goto (-20), 3) := by decide +kernel
theorem dX6_image_62 : decode cX6_image 62 = .ok (.iconst 0, 1) := by decide +kernel
theorem dX6_image_63 : decode cX6_image 63 = .ok (.istore_n 1, 1) := by decide +kernel
theorem dX6_image_64 : decode cX6_image 64 = .ok (.iload_n 1, 1) := by decide +kernel
theorem dX6_image_65 : decode cX6_image 65 = .ok (.bipush 6, 2) := by decide +kernel
theorem dX6_image_67 : decode cX6_image 67 = .ok (.if_icmp .ge 21, 3) := by decide +kernel
theorem dX6_image_70 : decode cX6_image 70 = .ok (.aload_n 0, 1) := by decide +kernel
theorem dX6_image_71 : decode cX6_image 71 = .ok (.getfield 66, 3) := by decide +kernel
theorem dX6_image_74 : decode cX6_image 74 = .ok (.iload_n 1, 1) := by decide +kernel
theorem dX6_image_75 : decode cX6_image 75 = .ok (.aload_n 0, 1) := by decide +kernel
theorem dX6_image_76 : decode cX6_image 76 = .ok (.getfield 37, 3) := by decide +kernel
theorem dX6_image_79 : decode cX6_image 79 = .ok (.iload_n 1, 1) := by decide +kernel
theorem dX6_image_80 : decode cX6_image 80 = .ok (.iaload, 1) := by decide +kernel
theorem dX6_image_81 : decode cX6_image 81 = .ok (.iastore, 1) := by decide +kernel
theorem dX6_image_82 : decode cX6_image 82 = .ok (.iinc 1 1, 3) := by decide +kernel
theorem dX6_image_85 : decode cX6_image 85 = .ok (.goto (-21), 3) := by decide +kernel
theorem dX6_image_88 : decode cX6_image 88 = .ok (.aload_n 0, 1) := by decide +kernel
theorem dX6_image_89 : decode cX6_image 89 = .ok (.getfield 162, 3) := by decide +kernel
theorem dX6_image_92 : decode cX6_image 92 = .ok (.ireturn, 1) := by decide +kernel
theorem dX6_restore_0 : decode cX6_restore 0 = .ok (.aload_n 0, 1) := by decide +kernel
theorem dX6_restore_1 : decode cX6_restore 1 = .ok (.getfield 250, 3) := by decide +kernel
theorem dX6_restore_4 : decode cX6_restore 4 = .ok (.ifCond .ne 6, 3) := by decide +kernel
theorem dX6_restore_7 : decode cX6_restore 7 = .ok (.bipush (-103), 2) := by decide +kernel
theorem dX6_restore_9 : decode cX6_restore 9 = .ok (.ireturn, 1) := by decide +kernel
theorem dX6_restore_10 : decode cX6_restore 10 = .ok (.aload_n 0, 1) := by decide +kernel
theorem dX6_restore_11 : decode cX6_restore 11 = .ok (.aload_n 0, 1) := by decide +kernel
theorem dX6_restore_12 : decode cX6_restore 12 = .ok (.getfield 253, 3) := by decide +kernel
theorem dX6_restore_15 : decode cX6_restore 15 = .ok (.putfield 162, 3) := by decide +kernel
theorem dX6_restore_18 : decode cX6_restore 18 = .ok (.aload_n 0, 1) := by decide +kernel
theorem dX6_restore_19 : decode cX6_restore 19 = .ok (.aload_n 0, 1) := by decide +kernel
theorem dX6_restore_20 : decode cX6_restore 20 = .ok (.getfield 256, 3) := by decide +kernel
theorem dX6_restore_23 : decode cX6_restore 23 = .ok (.putfield 175, 3) := by decide +kernel
theorem dX6_restore_26 : decode cX6_restore 26 = .ok (.aload_n 0, 1) := by decide +kernel
theorem dX6_restore_27 : decode cX6_restore 27 = .ok (.aload_n 0, 1) := by decide +kernel
theorem dX6_restore_28 : decode cX6_restore 28 = .ok (.getfield 259, 3) := by decide +kernel
theorem dX6_restore_31 : decode cX6_restore 31 = .ok (.putfield 197, 3) := by decide +kernel
theorem dX6_restore_34 : decode cX6_restore 34 = .ok (.aload_n 0, 1) := by decide +kernel
theorem dX6_restore_35 : decode cX6_restore 35 = .ok (.aload_n 0, 1) := by decide +kernel
theorem dX6_restore_36 : decode cX6_restore 36 = .ok (.getfield 262, 3) := by decide +kernel
theorem dX6_restore_39 : decode cX6_restore 39 = .ok (.putfield 226, 3) := by decide +kernel
theorem dX6_restore_42 : decode cX6_restore 42 = .ok (.iconst 0, 1) := by decide +kernel
theorem dX6_restore_43 : decode cX6_restore 43 = .ok (.istore_n 1, 1) := by decide +kernel
theorem dX6_restore_44 : decode cX6_restore 44 = .ok (.iload_n 1, 1) := by decide +kernel
theorem dX6_restore_45 : decode cX6_restore 45 = .ok (.iconst 4, 1) := by decide +kernel
theorem dX6_restore_46 : decode cX6_restore 46 = .ok (.if_icmp .ge 21, 3) := by decide +kernel
theorem dX6_restore_49 : decode cX6_restore 49 = .ok (.aload_n 0, 1) := by decide +kernel
theorem dX6_restore_50 : decode cX6_restore 50 = .ok (.getfield 34, 3) := by decide +kernel
theorem dX6_restore_53 : decode cX6_restore 53 = .ok (.iload_n 1, 1) := by decide +kernel
theorem dX6_restore_54 : decode cX6_restore 54 = .ok (.aload_n 0, 1) := by decide +kernel
theorem dX6_restore_55 : decode cX6_restore 55 = .ok (.getfield 63, 3) := by decide +kernel
theorem dX6_restore_58 : decode cX6_restore 58 = .ok (.iload_n 1, 1) := by decide +kernel
theorem dX6_restore_59 : decode cX6_restore 59 = .ok (.iaload, 1) := by decide +kernel
theorem dX6_restore_60 : decode cX6_restore 60 = .ok (.iastore, 1) := by decide +kernel
theorem dX6_restore_61 : decode cX6_restore 61 = .ok (.iinc 1 1, 3) := by decide +kernel
theorem dX6_restore_64 : decode cX6_restore 64 = .ok (.goto (-20), 3) := by decide +kernel
theorem dX6_restore_67 : decode cX6_restore 67 = .ok (.iconst 0, 1) := by decide +kernel
theorem dX6_restore_68 : decode cX6_restore 68 = .ok (.istore_n 1, 1) := by decide +kernel
theorem dX6_restore_69 : decode cX6_restore 69 = .ok (.iload_n 1, 1) := by decide +kernel
theorem dX6_restore_70 : decode cX6_restore 70 = .ok (.bipush 6, 2) := by decide +kernel
theorem dX6_restore_72 : decode cX6_restore 72 = .ok (.if_icmp .ge 21, 3) := by decide +kernel
theorem dX6_restore_75 : decode cX6_restore 75 = .ok (.aload_n 0, 1) := by decide +kernel
theorem dX6_restore_76 : decode cX6_restore 76 = .ok (.getfield 37, 3) := by decide +kernel
theorem dX6_restore_79 : decode cX6_restore 79 = .ok (.iload_n 1, 1) := by decide +kernel
theorem dX6_restore_80 : decode cX6_restore 80 = .ok (.aload_n 0, 1) := by decide +kernel
theorem dX6_restore_81 : decode cX6_restore 81 = .ok (.getfield 66, 3) := by decide +kernel
theorem dX6_restore_84 : decode cX6_restore 84 = .ok (.iload_n 1, 1) := by decide +kernel
theorem dX6_restore_85 : decode cX6_restore 85 = .ok (.iaload, 1) := by decide +kernel
theorem dX6_restore_86 : decode cX6_restore 86 = .ok (.iastore, 1) := by decide +kernel
theorem dX6_restore_87 : decode cX6_restore 87 = .ok (.iinc 1 1, 3) := by decide +kernel
theorem dX6_restore_90 : decode cX6_restore 90 = .ok (.goto (-21), 3) := by decide +kernel
theorem dX6_restore_93 : decode cX6_restore 93 = .ok (.aload_n 0, 1) := by decide +kernel
theorem dX6_restore_94 : decode cX6_restore 94 = .ok (.getfield 162, 3) := by decide +kernel
theorem dX6_restore_97 : decode cX6_restore 97 = .ok (.ireturn, 1) := by decide +kernel
theorem dX6_readingsOf_0 : decode cX6_readingsOf 0 = .ok (.iload_n 1, 1) := by decide +kernel
theorem dX6_readingsOf_1 : decode cX6_readingsOf 1 = .ok (.ifCond .ne 7, 3) := by decide +kernel
theorem dX6_readingsOf_4 : decode cX6_readingsOf 4 = .ok (.iconst 0, 1) := by decide +kernel
theorem dX6_readingsOf_5 : decode cX6_readingsOf 5 = .ok (.goto 16, 3) := by decide +kernel
theorem dX6_readingsOf_8 : decode cX6_readingsOf 8 = .ok (.iload_n 1, 1) := by decide +kernel
theorem dX6_readingsOf_9 : decode cX6_readingsOf 9 = .ok (.invokestatic 123, 3) := by decide +kernel
theorem dX6_readingsOf_12 : decode cX6_readingsOf 12 = .ok (.aload_n 0, 1) := by decide +kernel
theorem dX6_readingsOf_13 : decode cX6_readingsOf 13 = .ok (.iload_n 1, 1) := by decide +kernel
theorem dX6_readingsOf_14 : decode cX6_readingsOf 14 = .ok (.iload_n 2, 1) := by decide +kernel
theorem dX6_readingsOf_15 : decode cX6_readingsOf 15 = .ok (.invokevirtual 120, 3) := by decide +kernel
theorem dX6_readingsOf_18 : decode cX6_readingsOf 18 = .ok (.iload_n 1, 1) := by decide +kernel
theorem dX6_readingsOf_19 : decode cX6_readingsOf 19 = .ok (.iadd, 1) := by decide +kernel
theorem dX6_readingsOf_20 : decode cX6_readingsOf 20 = .ok (.ishl, 1) := by decide +kernel
theorem dX6_readingsOf_21 : decode cX6_readingsOf 21 = .ok (.ireturn, 1) := by decide +kernel
theorem dX6_howMany_0 : decode cX6_howMany 0 = .ok (.iload_n 1, 1) := by decide +kernel
theorem dX6_howMany_1 : decode cX6_howMany 1 = .ok (.tableswitch 115 0 9 #[55, 65, 70, 80, 85, 90, 95, 100, 105, 110], 55) := by decide +kernel
theorem dX6_howMany_56 : decode cX6_howMany 56 = .ok (.aload_n 0, 1) := by decide +kernel
theorem dX6_howMany_57 : decode cX6_howMany 57 = .ok (.aload_n 0, 1) := by decide +kernel
theorem dX6_howMany_58 : decode cX6_howMany 58 = .ok (.getfield 97, 3) := by decide +kernel
theorem dX6_howMany_61 : decode cX6_howMany 61 = .ok (.iconst 0, 1) := by decide +kernel
theorem dX6_howMany_62 : decode cX6_howMany 62 = .ok (.invokevirtual 265, 3) := by decide +kernel
theorem dX6_howMany_65 : decode cX6_howMany 65 = .ok (.ireturn, 1) := by decide +kernel
theorem dX6_howMany_66 : decode cX6_howMany 66 = .ok (.aload_n 0, 1) := by decide +kernel
theorem dX6_howMany_67 : decode cX6_howMany 67 = .ok (.getfield 97, 3) := by decide +kernel
theorem dX6_howMany_70 : decode cX6_howMany 70 = .ok (.ireturn, 1) := by decide +kernel
theorem dX6_howMany_71 : decode cX6_howMany 71 = .ok (.aload_n 0, 1) := by decide +kernel
theorem dX6_howMany_72 : decode cX6_howMany 72 = .ok (.aload_n 0, 1) := by decide +kernel
theorem dX6_howMany_73 : decode cX6_howMany 73 = .ok (.getfield 100, 3) := by decide +kernel
theorem dX6_howMany_76 : decode cX6_howMany 76 = .ok (.iconst 1, 1) := by decide +kernel
theorem dX6_howMany_77 : decode cX6_howMany 77 = .ok (.invokevirtual 265, 3) := by decide +kernel
theorem dX6_howMany_80 : decode cX6_howMany 80 = .ok (.ireturn, 1) := by decide +kernel
theorem dX6_howMany_81 : decode cX6_howMany 81 = .ok (.aload_n 0, 1) := by decide +kernel
theorem dX6_howMany_82 : decode cX6_howMany 82 = .ok (.getfield 175, 3) := by decide +kernel
theorem dX6_howMany_85 : decode cX6_howMany 85 = .ok (.ireturn, 1) := by decide +kernel
theorem dX6_howMany_86 : decode cX6_howMany 86 = .ok (.aload_n 0, 1) := by decide +kernel
theorem dX6_howMany_87 : decode cX6_howMany 87 = .ok (.getfield 197, 3) := by decide +kernel
theorem dX6_howMany_90 : decode cX6_howMany 90 = .ok (.ireturn, 1) := by decide +kernel
theorem dX6_howMany_91 : decode cX6_howMany 91 = .ok (.aload_n 0, 1) := by decide +kernel
theorem dX6_howMany_92 : decode cX6_howMany 92 = .ok (.getfield 162, 3) := by decide +kernel
theorem dX6_howMany_95 : decode cX6_howMany 95 = .ok (.ireturn, 1) := by decide +kernel
theorem dX6_howMany_96 : decode cX6_howMany 96 = .ok (.aload_n 0, 1) := by decide +kernel
theorem dX6_howMany_97 : decode cX6_howMany 97 = .ok (.getfield 226, 3) := by decide +kernel
theorem dX6_howMany_100 : decode cX6_howMany 100 = .ok (.ireturn, 1) := by decide +kernel
theorem dX6_howMany_101 : decode cX6_howMany 101 = .ok (.aload_n 0, 1) := by decide +kernel
theorem dX6_howMany_102 : decode cX6_howMany 102 = .ok (.getfield 73, 3) := by decide +kernel
theorem dX6_howMany_105 : decode cX6_howMany 105 = .ok (.ireturn, 1) := by decide +kernel
theorem dX6_howMany_106 : decode cX6_howMany 106 = .ok (.aload_n 0, 1) := by decide +kernel
theorem dX6_howMany_107 : decode cX6_howMany 107 = .ok (.getfield 103, 3) := by decide +kernel
theorem dX6_howMany_110 : decode cX6_howMany 110 = .ok (.ireturn, 1) := by decide +kernel
theorem dX6_howMany_111 : decode cX6_howMany 111 = .ok (.aload_n 0, 1) := by decide +kernel
theorem dX6_howMany_112 : decode cX6_howMany 112 = .ok (.getfield 220, 3) := by decide +kernel
theorem dX6_howMany_115 : decode cX6_howMany 115 = .ok (.ireturn, 1) := by decide +kernel
theorem dX6_howMany_116 : decode cX6_howMany 116 = .ok (.bipush (-102), 2) := by decide +kernel
theorem dX6_howMany_118 : decode cX6_howMany 118 = .ok (.ireturn, 1) := by decide +kernel
theorem dX6_count_0 : decode cX6_count 0 = .ok (.aload_n 0, 1) := by decide +kernel
theorem dX6_count_1 : decode cX6_count 1 = .ok (.iload_n 1, 1) := by decide +kernel
theorem dX6_count_2 : decode cX6_count 2 = .ok (.invokevirtual 268, 3) := by decide +kernel
theorem dX6_count_5 : decode cX6_count 5 = .ok (.ireturn, 1) := by decide +kernel
theorem dX6_mix_0 : decode cX6_mix 0 = .ok (.aload_n 0, 1) := by decide +kernel
theorem dX6_mix_1 : decode cX6_mix 1 = .ok (.ldc2_w 271, 3) := by decide +kernel
theorem dX6_mix_4 : decode cX6_mix 4 = .ok (.aload_n 0, 1) := by decide +kernel
theorem dX6_mix_5 : decode cX6_mix 5 = .ok (.getfield 273, 3) := by decide +kernel
theorem dX6_mix_8 : decode cX6_mix 8 = .ok (.lmul, 1) := by decide +kernel
theorem dX6_mix_9 : decode cX6_mix 9 = .ok (.lload_n 1, 1) := by decide +kernel
theorem dX6_mix_10 : decode cX6_mix 10 = .ok (.ladd, 1) := by decide +kernel
theorem dX6_mix_11 : decode cX6_mix 11 = .ok (.putfield 273, 3) := by decide +kernel
theorem dX6_mix_14 : decode cX6_mix 14 = .ok (.return_, 1) := by decide +kernel
theorem dX6_digest_0 : decode cX6_digest 0 = .ok (.aload_n 0, 1) := by decide +kernel
theorem dX6_digest_1 : decode cX6_digest 1 = .ok (.ldc2_w 276, 3) := by decide +kernel
theorem dX6_digest_4 : decode cX6_digest 4 = .ok (.putfield 273, 3) := by decide +kernel
theorem dX6_digest_7 : decode cX6_digest 7 = .ok (.iconst 0, 1) := by decide +kernel
theorem dX6_digest_8 : decode cX6_digest 8 = .ok (.istore_n 1, 1) := by decide +kernel
theorem dX6_digest_9 : decode cX6_digest 9 = .ok (.iload_n 1, 1) := by decide +kernel
theorem dX6_digest_10 : decode cX6_digest 10 = .ok (.bipush 6, 2) := by decide +kernel
theorem dX6_digest_12 : decode cX6_digest 12 = .ok (.if_icmp .ge 20, 3) := by decide +kernel
theorem dX6_digest_15 : decode cX6_digest 15 = .ok (.aload_n 0, 1) := by decide +kernel
theorem dX6_digest_16 : decode cX6_digest 16 = .ok (.aload_n 0, 1) := by decide +kernel
theorem dX6_digest_17 : decode cX6_digest 17 = .ok (.getfield 7, 3) := by decide +kernel
theorem dX6_digest_20 : decode cX6_digest 20 = .ok (.iload_n 1, 1) := by decide +kernel
theorem dX6_digest_21 : decode cX6_digest 21 = .ok (.iaload, 1) := by decide +kernel
theorem dX6_digest_22 : decode cX6_digest 22 = .ok (.i2l, 1) := by decide +kernel
theorem dX6_digest_23 : decode cX6_digest 23 = .ok (.invokevirtual 278, 3) := by decide +kernel
theorem dX6_digest_26 : decode cX6_digest 26 = .ok (.iinc 1 1, 3) := by decide +kernel
theorem dX6_digest_29 : decode cX6_digest 29 = .ok (.goto (-20), 3) := by decide +kernel
theorem dX6_digest_32 : decode cX6_digest 32 = .ok (.iconst 0, 1) := by decide +kernel
theorem dX6_digest_33 : decode cX6_digest 33 = .ok (.istore_n 1, 1) := by decide +kernel
theorem dX6_digest_34 : decode cX6_digest 34 = .ok (.iload_n 1, 1) := by decide +kernel
theorem dX6_digest_35 : decode cX6_digest 35 = .ok (.bipush 6, 2) := by decide +kernel
theorem dX6_digest_37 : decode cX6_digest 37 = .ok (.if_icmp .ge 22, 3) := by decide +kernel
theorem dX6_digest_40 : decode cX6_digest 40 = .ok (.aload_n 0, 1) := by decide +kernel
theorem dX6_digest_41 : decode cX6_digest 41 = .ok (.aload_n 0, 1) := by decide +kernel
theorem dX6_digest_42 : decode cX6_digest 42 = .ok (.getfield 162, 3) := by decide +kernel
theorem dX6_digest_45 : decode cX6_digest 45 = .ok (.iload_n 1, 1) := by decide +kernel
theorem dX6_digest_46 : decode cX6_digest 46 = .ok (.ishr, 1) := by decide +kernel
theorem dX6_digest_47 : decode cX6_digest 47 = .ok (.iconst 1, 1) := by decide +kernel
theorem dX6_digest_48 : decode cX6_digest 48 = .ok (.iand, 1) := by decide +kernel
theorem dX6_digest_49 : decode cX6_digest 49 = .ok (.i2l, 1) := by decide +kernel
theorem dX6_digest_50 : decode cX6_digest 50 = .ok (.invokevirtual 278, 3) := by decide +kernel
theorem dX6_digest_53 : decode cX6_digest 53 = .ok (.iinc 1 1, 3) := by decide +kernel
theorem dX6_digest_56 : decode cX6_digest 56 = .ok (.goto (-22), 3) := by decide +kernel
theorem dX6_digest_59 : decode cX6_digest 59 = .ok (.aload_n 0, 1) := by decide +kernel
theorem dX6_digest_60 : decode cX6_digest 60 = .ok (.aload_n 0, 1) := by decide +kernel
theorem dX6_digest_61 : decode cX6_digest 61 = .ok (.getfield 97, 3) := by decide +kernel
theorem dX6_digest_64 : decode cX6_digest 64 = .ok (.iconst 0, 1) := by decide +kernel
theorem dX6_digest_65 : decode cX6_digest 65 = .ok (.invokevirtual 106, 3) := by decide +kernel
theorem dX6_digest_68 : decode cX6_digest 68 = .ok (.iconst 0, 1) := by decide +kernel
theorem dX6_digest_69 : decode cX6_digest 69 = .ok (.istore_n 1, 1) := by decide +kernel
theorem dX6_digest_70 : decode cX6_digest 70 = .ok (.iload_n 1, 1) := by decide +kernel
theorem dX6_digest_71 : decode cX6_digest 71 = .ok (.aload_n 0, 1) := by decide +kernel
theorem dX6_digest_72 : decode cX6_digest 72 = .ok (.getfield 175, 3) := by decide +kernel
theorem dX6_digest_75 : decode cX6_digest 75 = .ok (.if_icmp .ge 34, 3) := by decide +kernel
theorem dX6_digest_78 : decode cX6_digest 78 = .ok (.iconst 0, 1) := by decide +kernel
theorem dX6_digest_79 : decode cX6_digest 79 = .ok (.istore_n 2, 1) := by decide +kernel
theorem dX6_digest_80 : decode cX6_digest 80 = .ok (.iload_n 2, 1) := by decide +kernel
theorem dX6_digest_81 : decode cX6_digest 81 = .ok (.bipush 6, 2) := by decide +kernel
theorem dX6_digest_83 : decode cX6_digest 83 = .ok (.if_icmp .ge 20, 3) := by decide +kernel
theorem dX6_digest_86 : decode cX6_digest 86 = .ok (.aload_n 0, 1) := by decide +kernel
theorem dX6_digest_87 : decode cX6_digest 87 = .ok (.aload_n 0, 1) := by decide +kernel
theorem dX6_digest_88 : decode cX6_digest 88 = .ok (.iload_n 1, 1) := by decide +kernel
theorem dX6_digest_89 : decode cX6_digest 89 = .ok (.iload_n 2, 1) := by decide +kernel
theorem dX6_digest_90 : decode cX6_digest 90 = .ok (.invokevirtual 187, 3) := by decide +kernel
theorem dX6_digest_93 : decode cX6_digest 93 = .ok (.i2l, 1) := by decide +kernel
theorem dX6_digest_94 : decode cX6_digest 94 = .ok (.invokevirtual 278, 3) := by decide +kernel
theorem dX6_digest_97 : decode cX6_digest 97 = .ok (.iinc 2 1, 3) := by decide +kernel
theorem dX6_digest_100 : decode cX6_digest 100 = .ok (.goto (-20), 3) := by decide +kernel
theorem dX6_digest_103 : decode cX6_digest 103 = .ok (.iinc 1 1, 3) := by decide +kernel
theorem dX6_digest_106 : decode cX6_digest 106 = .ok (.goto (-36), 3) := by decide +kernel
theorem dX6_digest_109 : decode cX6_digest 109 = .ok (.aload_n 0, 1) := by decide +kernel
theorem dX6_digest_110 : decode cX6_digest 110 = .ok (.getfield 97, 3) := by decide +kernel
theorem dX6_digest_113 : decode cX6_digest 113 = .ok (.ifCond .le 71, 3) := by decide +kernel
theorem dX6_digest_116 : decode cX6_digest 116 = .ok (.aload_n 0, 1) := by decide +kernel
theorem dX6_digest_117 : decode cX6_digest 117 = .ok (.aload_n 0, 1) := by decide +kernel
theorem dX6_digest_118 : decode cX6_digest 118 = .ok (.iconst 0, 1) := by decide +kernel
theorem dX6_digest_119 : decode cX6_digest 119 = .ok (.invokevirtual 165, 3) := by decide +kernel
theorem dX6_digest_122 : decode cX6_digest 122 = .ok (.i2l, 1) := by decide +kernel
theorem dX6_digest_123 : decode cX6_digest 123 = .ok (.invokevirtual 278, 3) := by decide +kernel
theorem dX6_digest_126 : decode cX6_digest 126 = .ok (.aload_n 0, 1) := by decide +kernel
theorem dX6_digest_127 : decode cX6_digest 127 = .ok (.aload_n 0, 1) := by decide +kernel
theorem dX6_digest_128 : decode cX6_digest 128 = .ok (.iconst 1, 1) := by decide +kernel
theorem dX6_digest_129 : decode cX6_digest 129 = .ok (.invokevirtual 165, 3) := by decide +kernel
theorem dX6_digest_132 : decode cX6_digest 132 = .ok (.i2l, 1) := by decide +kernel
theorem dX6_digest_133 : decode cX6_digest 133 = .ok (.invokevirtual 278, 3) := by decide +kernel
theorem dX6_digest_136 : decode cX6_digest 136 = .ok (.aload_n 0, 1) := by decide +kernel
theorem dX6_digest_137 : decode cX6_digest 137 = .ok (.aload_n 0, 1) := by decide +kernel
theorem dX6_digest_138 : decode cX6_digest 138 = .ok (.invokevirtual 210, 3) := by decide +kernel
theorem dX6_digest_141 : decode cX6_digest 141 = .ok (.i2l, 1) := by decide +kernel
theorem dX6_digest_142 : decode cX6_digest 142 = .ok (.invokevirtual 278, 3) := by decide +kernel
theorem dX6_digest_145 : decode cX6_digest 145 = .ok (.aload_n 0, 1) := by decide +kernel
theorem dX6_digest_146 : decode cX6_digest 146 = .ok (.aload_n 0, 1) := by decide +kernel
theorem dX6_digest_147 : decode cX6_digest 147 = .ok (.iconst 0, 1) := by decide +kernel
theorem dX6_digest_148 : decode cX6_digest 148 = .ok (.invokevirtual 214, 3) := by decide +kernel
theorem dX6_digest_151 : decode cX6_digest 151 = .ok (.i2l, 1) := by decide +kernel
theorem dX6_digest_152 : decode cX6_digest 152 = .ok (.invokevirtual 278, 3) := by decide +kernel
theorem dX6_digest_155 : decode cX6_digest 155 = .ok (.aload_n 0, 1) := by decide +kernel
theorem dX6_digest_156 : decode cX6_digest 156 = .ok (.aload_n 0, 1) := by decide +kernel
theorem dX6_digest_157 : decode cX6_digest 157 = .ok (.iconst 1, 1) := by decide +kernel
theorem dX6_digest_158 : decode cX6_digest 158 = .ok (.invokevirtual 214, 3) := by decide +kernel
theorem dX6_digest_161 : decode cX6_digest 161 = .ok (.i2l, 1) := by decide +kernel
theorem dX6_digest_162 : decode cX6_digest 162 = .ok (.invokevirtual 278, 3) := by decide +kernel
theorem dX6_digest_165 : decode cX6_digest 165 = .ok (.aload_n 0, 1) := by decide +kernel
theorem dX6_digest_166 : decode cX6_digest 166 = .ok (.aload_n 0, 1) := by decide +kernel
theorem dX6_digest_167 : decode cX6_digest 167 = .ok (.iconst 2, 1) := by decide +kernel
theorem dX6_digest_168 : decode cX6_digest 168 = .ok (.invokevirtual 214, 3) := by decide +kernel
theorem dX6_digest_171 : decode cX6_digest 171 = .ok (.i2l, 1) := by decide +kernel
theorem dX6_digest_172 : decode cX6_digest 172 = .ok (.invokevirtual 278, 3) := by decide +kernel
theorem dX6_digest_175 : decode cX6_digest 175 = .ok (.aload_n 0, 1) := by decide +kernel
theorem dX6_digest_176 : decode cX6_digest 176 = .ok (.aload_n 0, 1) := by decide +kernel
theorem dX6_digest_177 : decode cX6_digest 177 = .ok (.invokevirtual 217, 3) := by decide +kernel
theorem dX6_digest_180 : decode cX6_digest 180 = .ok (.i2l, 1) := by decide +kernel
theorem dX6_digest_181 : decode cX6_digest 181 = .ok (.invokevirtual 278, 3) := by decide +kernel
theorem dX6_digest_184 : decode cX6_digest 184 = .ok (.iconst 0, 1) := by decide +kernel
theorem dX6_digest_185 : decode cX6_digest 185 = .ok (.istore_n 1, 1) := by decide +kernel
theorem dX6_digest_186 : decode cX6_digest 186 = .ok (.iload_n 1, 1) := by decide +kernel
theorem dX6_digest_187 : decode cX6_digest 187 = .ok (.aload_n 0, 1) := by decide +kernel
theorem dX6_digest_188 : decode cX6_digest 188 = .ok (.getfield 175, 3) := by decide +kernel
theorem dX6_digest_191 : decode cX6_digest 191 = .ok (.if_icmp .ge 45, 3) := by decide +kernel
theorem dX6_digest_194 : decode cX6_digest 194 = .ok (.aload_n 0, 1) := by decide +kernel
theorem dX6_digest_195 : decode cX6_digest 195 = .ok (.getfield 97, 3) := by decide +kernel
theorem dX6_digest_198 : decode cX6_digest 198 = .ok (.ifCond .le 38, 3) := by decide +kernel
theorem dX6_digest_201 : decode cX6_digest 201 = .ok (.aload_n 0, 1) := by decide +kernel
theorem dX6_digest_202 : decode cX6_digest 202 = .ok (.getfield 226, 3) := by decide +kernel
theorem dX6_digest_205 : decode cX6_digest 205 = .ok (.ifCond .le 31, 3) := by decide +kernel
theorem dX6_digest_208 : decode cX6_digest 208 = .ok (.aload_n 0, 1) := by decide +kernel
theorem dX6_digest_209 : decode cX6_digest 209 = .ok (.aload_n 0, 1) := by decide +kernel
theorem dX6_digest_210 : decode cX6_digest 210 = .ok (.iload_n 1, 1) := by decide +kernel
theorem dX6_digest_211 : decode cX6_digest 211 = .ok (.iconst 0, 1) := by decide +kernel
theorem dX6_digest_212 : decode cX6_digest 212 = .ok (.invokevirtual 229, 3) := by decide +kernel
theorem dX6_digest_215 : decode cX6_digest 215 = .ok (.i2l, 1) := by decide +kernel
theorem dX6_digest_216 : decode cX6_digest 216 = .ok (.invokevirtual 278, 3) := by decide +kernel
theorem dX6_digest_219 : decode cX6_digest 219 = .ok (.aload_n 0, 1) := by decide +kernel
theorem dX6_digest_220 : decode cX6_digest 220 = .ok (.aload_n 0, 1) := by decide +kernel
theorem dX6_digest_221 : decode cX6_digest 221 = .ok (.iload_n 1, 1) := by decide +kernel
theorem dX6_digest_222 : decode cX6_digest 222 = .ok (.iconst 1, 1) := by decide +kernel
theorem dX6_digest_223 : decode cX6_digest 223 = .ok (.invokevirtual 229, 3) := by decide +kernel
theorem dX6_digest_226 : decode cX6_digest 226 = .ok (.i2l, 1) := by decide +kernel
theorem dX6_digest_227 : decode cX6_digest 227 = .ok (.invokevirtual 278, 3) := by decide +kernel
theorem dX6_digest_230 : decode cX6_digest 230 = .ok (.iinc 1 1, 3) := by decide +kernel
theorem dX6_digest_233 : decode cX6_digest 233 = .ok (.goto (-47), 3) := by decide +kernel
theorem dX6_digest_236 : decode cX6_digest 236 = .ok (.iconst 0, 1) := by decide +kernel
theorem dX6_digest_237 : decode cX6_digest 237 = .ok (.istore_n 1, 1) := by decide +kernel
theorem dX6_digest_238 : decode cX6_digest 238 = .ok (.iload_n 1, 1) := by decide +kernel
theorem dX6_digest_239 : decode cX6_digest 239 = .ok (.aload_n 0, 1) := by decide +kernel
theorem dX6_digest_240 : decode cX6_digest 240 = .ok (.getfield 73, 3) := by decide +kernel
theorem dX6_digest_243 : decode cX6_digest 243 = .ok (.if_icmp .ge 20, 3) := by decide +kernel
theorem dX6_digest_246 : decode cX6_digest 246 = .ok (.aload_n 0, 1) := by decide +kernel
theorem dX6_digest_247 : decode cX6_digest 247 = .ok (.aload_n 0, 1) := by decide +kernel
theorem dX6_digest_248 : decode cX6_digest 248 = .ok (.getfield 40, 3) := by decide +kernel
theorem dX6_digest_251 : decode cX6_digest 251 = .ok (.iload_n 1, 1) := by decide +kernel
theorem dX6_digest_252 : decode cX6_digest 252 = .ok (.baload, 1) := by decide +kernel
theorem dX6_digest_253 : decode cX6_digest 253 = .ok (.i2l, 1) := by decide +kernel
theorem dX6_digest_254 : decode cX6_digest 254 = .ok (.invokevirtual 278, 3) := by decide +kernel
theorem dX6_digest_257 : decode cX6_digest 257 = .ok (.iinc 1 1, 3) := by decide +kernel
theorem dX6_digest_260 : decode cX6_digest 260 = .ok (.goto (-22), 3) := by decide +kernel
theorem dX6_digest_263 : decode cX6_digest 263 = .ok (.iconst 0, 1) := by decide +kernel
theorem dX6_digest_264 : decode cX6_digest 264 = .ok (.istore_n 1, 1) := by decide +kernel
theorem dX6_digest_265 : decode cX6_digest 265 = .ok (.iload_n 1, 1) := by decide +kernel
theorem dX6_digest_266 : decode cX6_digest 266 = .ok (.bipush 10, 2) := by decide +kernel
theorem dX6_digest_268 : decode cX6_digest 268 = .ok (.if_icmp .ge 19, 3) := by decide +kernel
theorem dX6_digest_271 : decode cX6_digest 271 = .ok (.aload_n 0, 1) := by decide +kernel
theorem dX6_digest_272 : decode cX6_digest 272 = .ok (.aload_n 0, 1) := by decide +kernel
theorem dX6_digest_273 : decode cX6_digest 273 = .ok (.iload_n 1, 1) := by decide +kernel
theorem dX6_digest_274 : decode cX6_digest 274 = .ok (.invokevirtual 268, 3) := by decide +kernel
theorem dX6_digest_277 : decode cX6_digest 277 = .ok (.i2l, 1) := by decide +kernel
theorem dX6_digest_278 : decode cX6_digest 278 = .ok (.invokevirtual 278, 3) := by decide +kernel
theorem dX6_digest_281 : decode cX6_digest 281 = .ok (.iinc 1 1, 3) := by decide +kernel
theorem dX6_digest_284 : decode cX6_digest 284 = .ok (.goto (-19), 3) := by decide +kernel
theorem dX6_digest_287 : decode cX6_digest 287 = .ok (.aload_n 0, 1) := by decide +kernel
theorem dX6_digest_288 : decode cX6_digest 288 = .ok (.getfield 273, 3) := by decide +kernel
theorem dX6_digest_291 : decode cX6_digest 291 = .ok (.lreturn, 1) := by decide +kernel
