theorem dX7_init_0 : decode cX7_init 0 = .ok (.aload_n 0, 1) := by decide +kernel
theorem dX7_init_1 : decode cX7_init 1 = .ok (.invokespecial 1, 3) := by decide +kernel
theorem dX7_init_4 : decode cX7_init 4 = .ok (.aload_n 0, 1) := by decide +kernel
theorem dX7_init_5 : decode cX7_init 5 = .ok (.sipush 700, 3) := by decide +kernel
theorem dX7_init_8 : decode cX7_init 8 = .ok (.newarray .byte, 2) := by decide +kernel
theorem dX7_init_10 : decode cX7_init 10 = .ok (.putfield 7, 3) := by decide +kernel
theorem dX7_init_13 : decode cX7_init 13 = .ok (.aload_n 0, 1) := by decide +kernel
theorem dX7_init_14 : decode cX7_init 14 = .ok (.sipush 540, 3) := by decide +kernel
theorem dX7_init_17 : decode cX7_init 17 = .ok (.newarray .byte, 2) := by decide +kernel
theorem dX7_init_19 : decode cX7_init 19 = .ok (.putfield 13, 3) := by decide +kernel
theorem dX7_init_22 : decode cX7_init 22 = .ok (.aload_n 0, 1) := by decide +kernel
theorem dX7_init_23 : decode cX7_init 23 = .ok (.bipush 9, 2) := by decide +kernel
theorem dX7_init_25 : decode cX7_init 25 = .ok (.newarray .int, 2) := by decide +kernel
theorem dX7_init_27 : decode cX7_init 27 = .ok (.putfield 16, 3) := by decide +kernel
theorem dX7_init_30 : decode cX7_init 30 = .ok (.aload_n 0, 1) := by decide +kernel
theorem dX7_init_31 : decode cX7_init 31 = .ok (.bipush 30, 2) := by decide +kernel
theorem dX7_init_33 : decode cX7_init 33 = .ok (.putfield 20, 3) := by decide +kernel
theorem dX7_init_36 : decode cX7_init 36 = .ok (.aload_n 0, 1) := by decide +kernel
theorem dX7_init_37 : decode cX7_init 37 = .ok (.iconst 4, 1) := by decide +kernel
theorem dX7_init_38 : decode cX7_init 38 = .ok (.putfield 24, 3) := by decide +kernel
theorem dX7_init_41 : decode cX7_init 41 = .ok (.aload_n 0, 1) := by decide +kernel
theorem dX7_init_42 : decode cX7_init 42 = .ok (.iconst 4, 1) := by decide +kernel
theorem dX7_init_43 : decode cX7_init 43 = .ok (.putfield 27, 3) := by decide +kernel
theorem dX7_init_46 : decode cX7_init 46 = .ok (.aload_n 0, 1) := by decide +kernel
theorem dX7_init_47 : decode cX7_init 47 = .ok (.iconst 4, 1) := by decide +kernel
theorem dX7_init_48 : decode cX7_init 48 = .ok (.newarray .boolean, 2) := by decide +kernel
theorem dX7_init_50 : decode cX7_init 50 = .ok (.putfield 30, 3) := by decide +kernel
theorem dX7_init_53 : decode cX7_init 53 = .ok (.aload_n 0, 1) := by decide +kernel
theorem dX7_init_54 : decode cX7_init 54 = .ok (.iconst 4, 1) := by decide +kernel
theorem dX7_init_55 : decode cX7_init 55 = .ok (.newarray .int, 2) := by decide +kernel
theorem dX7_init_57 : decode cX7_init 57 = .ok (.putfield 34, 3) := by decide +kernel
theorem dX7_init_60 : decode cX7_init 60 = .ok (.aload_n 0, 1) := by decide +kernel
theorem dX7_init_61 : decode cX7_init 61 = .ok (.iconst 4, 1) := by decide +kernel
theorem dX7_init_62 : decode cX7_init 62 = .ok (.newarray .int, 2) := by decide +kernel
theorem dX7_init_64 : decode cX7_init 64 = .ok (.putfield 37, 3) := by decide +kernel
theorem dX7_init_67 : decode cX7_init 67 = .ok (.aload_n 0, 1) := by decide +kernel
theorem dX7_init_68 : decode cX7_init 68 = .ok (.iconst 4, 1) := by decide +kernel
theorem dX7_init_69 : decode cX7_init 69 = .ok (.newarray .int, 2) := by decide +kernel
theorem dX7_init_71 : decode cX7_init 71 = .ok (.putfield 40, 3) := by decide +kernel
theorem dX7_init_74 : decode cX7_init 74 = .ok (.aload_n 0, 1) := by decide +kernel
theorem dX7_init_75 : decode cX7_init 75 = .ok (.iconst 4, 1) := by decide +kernel
theorem dX7_init_76 : decode cX7_init 76 = .ok (.newarray .int, 2) := by decide +kernel
theorem dX7_init_78 : decode cX7_init 78 = .ok (.putfield 43, 3) := by decide +kernel
theorem dX7_init_81 : decode cX7_init 81 = .ok (.aload_n 0, 1) := by decide +kernel
theorem dX7_init_82 : decode cX7_init 82 = .ok (.iconst 4, 1) := by decide +kernel
theorem dX7_init_83 : decode cX7_init 83 = .ok (.newarray .int, 2) := by decide +kernel
theorem dX7_init_85 : decode cX7_init 85 = .ok (.putfield 46, 3) := by decide +kernel
theorem dX7_init_88 : decode cX7_init 88 = .ok (.aload_n 0, 1) := by decide +kernel
theorem dX7_init_89 : decode cX7_init 89 = .ok (.bipush 13, 2) := by decide +kernel
theorem dX7_init_91 : decode cX7_init 91 = .ok (.newarray .int, 2) := by decide +kernel
theorem dX7_init_93 : decode cX7_init 93 = .ok (.putfield 49, 3) := by decide +kernel
theorem dX7_init_96 : decode cX7_init 96 = .ok (.aload_n 0, 1) := by decide +kernel
theorem dX7_init_97 : decode cX7_init 97 = .ok (.bipush 13, 2) := by decide +kernel
theorem dX7_init_99 : decode cX7_init 99 = .ok (.newarray .int, 2) := by decide +kernel
theorem dX7_init_101 : decode cX7_init 101 = .ok (.putfield 52, 3) := by decide +kernel
theorem dX7_init_104 : decode cX7_init 104 = .ok (.aload_n 0, 1) := by decide +kernel
theorem dX7_init_105 : decode cX7_init 105 = .ok (.bipush 13, 2) := by decide +kernel
theorem dX7_init_107 : decode cX7_init 107 = .ok (.newarray .int, 2) := by decide +kernel
theorem dX7_init_109 : decode cX7_init 109 = .ok (.putfield 55, 3) := by decide +kernel
theorem dX7_init_112 : decode cX7_init 112 = .ok (.aload_n 0, 1) := by decide +kernel
theorem dX7_init_113 : decode cX7_init 113 = .ok (.sipush 7020, 3) := by decide +kernel
theorem dX7_init_116 : decode cX7_init 116 = .ok (.newarray .byte, 2) := by decide +kernel
theorem dX7_init_118 : decode cX7_init 118 = .ok (.putfield 58, 3) := by decide +kernel
theorem dX7_init_121 : decode cX7_init 121 = .ok (.aload_n 0, 1) := by decide +kernel
theorem dX7_init_122 : decode cX7_init 122 = .ok (.bipush 117, 2) := by decide +kernel
theorem dX7_init_124 : decode cX7_init 124 = .ok (.newarray .int, 2) := by decide +kernel
theorem dX7_init_126 : decode cX7_init 126 = .ok (.putfield 61, 3) := by decide +kernel
theorem dX7_init_129 : decode cX7_init 129 = .ok (.aload_n 0, 1) := by decide +kernel
theorem dX7_init_130 : decode cX7_init 130 = .ok (.sipush 700, 3) := by decide +kernel
theorem dX7_init_133 : decode cX7_init 133 = .ok (.newarray .byte, 2) := by decide +kernel
theorem dX7_init_135 : decode cX7_init 135 = .ok (.putfield 64, 3) := by decide +kernel
theorem dX7_init_138 : decode cX7_init 138 = .ok (.aload_n 0, 1) := by decide +kernel
theorem dX7_init_139 : decode cX7_init 139 = .ok (.iconst (-1), 1) := by decide +kernel
theorem dX7_init_140 : decode cX7_init 140 = .ok (.putfield 67, 3) := by decide +kernel
theorem dX7_init_143 : decode cX7_init 143 = .ok (.iconst 0, 1) := by decide +kernel
theorem dX7_init_144 : decode cX7_init 144 = .ok (.istore_n 1, 1) := by decide +kernel
theorem dX7_init_145 : decode cX7_init 145 = .ok (.iload_n 1, 1) := by decide +kernel
theorem dX7_init_146 : decode cX7_init 146 = .ok (.bipush 9, 2) := by decide +kernel
theorem dX7_init_148 : decode cX7_init 148 = .ok (.if_icmp .ge 30, 3) := by decide +kernel
theorem dX7_init_151 : decode cX7_init 151 = .ok (.aload_n 0, 1) := by decide +kernel
theorem dX7_init_152 : decode cX7_init 152 = .ok (.getfield 16, 3) := by decide +kernel
theorem dX7_init_155 : decode cX7_init 155 = .ok (.iload_n 1, 1) := by decide +kernel
theorem dX7_init_156 : decode cX7_init 156 = .ok (.iload_n 1, 1) := by decide +kernel
theorem dX7_init_157 : decode cX7_init 157 = .ok (.iconst 1, 1) := by decide +kernel
theorem dX7_init_158 : decode cX7_init 158 = .ok (.if_icmp .eq 8, 3) := by decide +kernel
theorem dX7_init_161 : decode cX7_init 161 = .ok (.iload_n 1, 1) := by decide +kernel
theorem dX7_init_162 : decode cX7_init 162 = .ok (.iconst 2, 1) := by decide +kernel
theorem dX7_init_163 : decode cX7_init 163 = .ok (.if_icmp .ne 7, 3) := by decide +kernel
theorem dX7_init_166 : decode cX7_init 166 = .ok (.iconst 2, 1) := by decide +kernel
theorem dX7_init_167 : decode cX7_init 167 = .ok (.goto 4, 3) := by decide +kernel
theorem dX7_init_170 : decode cX7_init 170 = .ok (.iconst (-1), 1) := by decide +kernel
theorem dX7_init_171 : decode cX7_init 171 = .ok (.iastore, 1) := by decide +kernel
theorem dX7_init_172 : decode cX7_init 172 = .ok (.iinc 1 1, 3) := by decide +kernel
theorem dX7_init_175 : decode cX7_init 175 = .ok (.goto (-30), 3) := by decide +kernel
theorem dX7_init_178 : decode cX7_init 178 = .ok (.return_, 1) := by decide +kernel
theorem dX7_isMore_0 : decode cX7_isMore 0 = .ok (.iload_n 0, 1) := by decide +kernel
theorem dX7_isMore_1 : decode cX7_isMore 1 = .ok (.iconst 4, 1) := by decide +kernel
theorem dX7_isMore_2 : decode cX7_isMore 2 = .ok (.if_icmp .lt 13, 3) := by decide +kernel
theorem dX7_isMore_5 : decode cX7_isMore 5 = .ok (.iload_n 0, 1) := by decide +kernel
theorem dX7_isMore_6 : decode cX7_isMore 6 = .ok (.bipush 8, 2) := by decide +kernel
theorem dX7_isMore_8 : decode cX7_isMore 8 = .ok (.if_icmp .gt 7, 3) := by decide +kernel
theorem dX7_isMore_11 : decode cX7_isMore 11 = .ok (.iconst 1, 1) := by decide +kernel
theorem dX7_isMore_12 : decode cX7_isMore 12 = .ok (.goto 4, 3) := by decide +kernel
theorem dX7_isMore_15 : decode cX7_isMore 15 = .ok (.iconst 0, 1) := by decide +kernel
theorem dX7_isMore_16 : decode cX7_isMore 16 = .ok (.ireturn, 1) := by decide +kernel
theorem dX7_type_0 : decode cX7_type 0 = .ok (.iload_n 3, 1) := by decide +kernel
theorem dX7_type_1 : decode cX7_type 1 = .ok (.iconst 1, 1) := by decide +kernel
theorem dX7_type_2 : decode cX7_type 2 = .ok (.if_icmp .lt 21, 3) := by decide +kernel
theorem dX7_type_5 : decode cX7_type 5 = .ok (.iload_n 3, 1) := by decide +kernel
theorem dX7_type_6 : decode cX7_type 6 = .ok (.bipush 8, 2) := by decide +kernel
theorem dX7_type_8 : decode cX7_type 8 = .ok (.if_icmp .gt 15, 3) := by decide +kernel
theorem dX7_type_11 : decode cX7_type 11 = .ok (.aload_n 0, 1) := by decide +kernel
theorem dX7_type_12 : decode cX7_type 12 = .ok (.getfield 70, 3) := by decide +kernel
theorem dX7_type_15 : decode cX7_type 15 = .ok (.iload_n 3, 1) := by decide +kernel
theorem dX7_type_16 : decode cX7_type 16 = .ok (.iadd, 1) := by decide +kernel
theorem dX7_type_17 : decode cX7_type 17 = .ok (.sipush 700, 3) := by decide +kernel
theorem dX7_type_20 : decode cX7_type 20 = .ok (.if_icmp .le 5, 3) := by decide +kernel
theorem dX7_type_23 : decode cX7_type 23 = .ok (.iconst (-1), 1) := by decide +kernel
theorem dX7_type_24 : decode cX7_type 24 = .ok (.ireturn, 1) := by decide +kernel
theorem dX7_type_25 : decode cX7_type 25 = .ok (.iload_n 3, 1) := by decide +kernel
theorem dX7_type_26 : decode cX7_type 26 = .ok (.iconst 1, 1) := by decide +kernel
theorem dX7_type_27 : decode cX7_type 27 = .ok (.isub, 1) := by decide +kernel
theorem dX7_type_28 : decode cX7_type 28 = .ok (.istore 4, 2) := by decide +kernel
theorem dX7_type_30 : decode cX7_type 30 = .ok (.iload 4, 2) := by decide +kernel
theorem dX7_type_32 : decode cX7_type 32 = .ok (.ifCond .lt 37, 3) := by decide +kernel
theorem dX7_type_35 : decode cX7_type 35 = .ok (.aload_n 0, 1) := by decide +kernel
theorem dX7_type_36 : decode cX7_type 36 = .ok (.getfield 7, 3) := by decide +kernel
theorem dX7_type_39 : decode cX7_type 39 = .ok (.aload_n 0, 1) := by decide +kernel
theorem dX7_type_40 : decode cX7_type 40 = .ok (.getfield 70, 3) := by decide +kernel
theorem dX7_type_43 : decode cX7_type 43 = .ok (.lload_n 1, 1) := by decide +kernel
theorem dX7_type_44 : decode cX7_type 44 = .ok (.bipush 8, 2) := by decide +kernel
theorem dX7_type_46 : decode cX7_type 46 = .ok (.iload 4, 2) := by decide +kernel
theorem dX7_type_48 : decode cX7_type 48 = .ok (.imul, 1) := by decide +kernel
theorem dX7_type_49 : decode cX7_type 49 = .ok (.lshr, 1) := by decide +kernel
theorem dX7_type_50 : decode cX7_type 50 = .ok (.l2i, 1) := by decide +kernel
theorem dX7_type_51 : decode cX7_type 51 = .ok (.i2b, 1) := by decide +kernel
theorem dX7_type_52 : decode cX7_type 52 = .ok (.bastore, 1) := by decide +kernel
theorem dX7_type_53 : decode cX7_type 53 = .ok (.aload_n 0, 1) := by decide +kernel
theorem dX7_type_54 : decode cX7_type 54 = .ok (.dup, 1) := by decide +kernel
theorem dX7_type_55 : decode cX7_type 55 = .ok (.getfield 70, 3) := by decide +kernel
theorem dX7_type_58 : decode cX7_type 58 = .ok (.iconst 1, 1) := by decide +kernel
theorem dX7_type_59 : decode cX7_type 59 = .ok (.iadd, 1) := by decide +kernel
theorem dX7_type_60 : decode cX7_type 60 = .ok (.putfield 70, 3) := by decide +kernel
theorem dX7_type_63 : decode cX7_type 63 = .ok (.iinc 4 (-1), 3) := by decide +kernel
theorem dX7_type_66 : decode cX7_type 66 = .ok (.goto (-36), 3) := by decide +kernel
theorem dX7_type_69 : decode cX7_type 69 = .ok (.aload_n 0, 1) := by decide +kernel
theorem dX7_type_70 : decode cX7_type 70 = .ok (.getfield 70, 3) := by decide +kernel
theorem dX7_type_73 : decode cX7_type 73 = .ok (.ireturn, 1) := by decide +kernel
set_option maxRecDepth 20000 in
theorem ggX7_tell_X7_isMore : GoodIn wsX7_tell wsX7_isMore := goodIn_r _ [10] (by decide +kernel) (by decide +kernel)
set_option maxRecDepth 20000 in
theorem gX7_tell_X7_isMore : GoodIn wsX7_tell (va_wsS RX7 73 yX7_isMore wsX7_isMore) := goodIn_app (goodIn_of _ (by decide +kernel)) ggX7_tell_X7_isMore
theorem dX7_tell_0 : decode cX7_tell 0 = .ok (.iload_n 1, 1) := by decide +kernel
theorem dX7_tell_1 : decode cX7_tell 1 = .ok (.iconst 1, 1) := by decide +kernel
theorem dX7_tell_2 : decode cX7_tell 2 = .ok (.if_icmp .eq 8, 3) := by decide +kernel
theorem dX7_tell_5 : decode cX7_tell 5 = .ok (.iload_n 1, 1) := by decide +kernel
theorem dX7_tell_6 : decode cX7_tell 6 = .ok (.iconst 2, 1) := by decide +kernel
theorem dX7_tell_7 : decode cX7_tell 7 = .ok (.if_icmp .ne 7, 3) := by decide +kernel
theorem dX7_tell_10 : decode cX7_tell 10 = .ok (.iconst 1, 1) := by decide +kernel
theorem dX7_tell_11 : decode cX7_tell 11 = .ok (.goto 4, 3) := by decide +kernel
theorem dX7_tell_14 : decode cX7_tell 14 = .ok (.iconst 0, 1) := by decide +kernel
theorem dX7_tell_15 : decode cX7_tell 15 = .ok (.istore_n 2, 1) := by decide +kernel
theorem dX7_tell_16 : decode cX7_tell 16 = .ok (.iload_n 2, 1) := by decide +kernel
theorem dX7_tell_17 : decode cX7_tell 17 = .ok (.ifCond .ne 12, 3) := by decide +kernel
theorem dX7_tell_20 : decode cX7_tell 20 = .ok (.iload_n 1, 1) := by decide +kernel
theorem dX7_tell_21 : decode cX7_tell 21 = .ok (.invokestatic 73, 3) := by decide +kernel
theorem dX7_tell_24 : decode cX7_tell 24 = .ok (.ifCond .ne 5, 3) := by decide +kernel
theorem dX7_tell_27 : decode cX7_tell 27 = .ok (.iconst 0, 1) := by decide +kernel
theorem dX7_tell_28 : decode cX7_tell 28 = .ok (.ireturn, 1) := by decide +kernel
theorem dX7_tell_29 : decode cX7_tell 29 = .ok (.iload_n 2, 1) := by decide +kernel
theorem dX7_tell_30 : decode cX7_tell 30 = .ok (.ifCond .eq 23, 3) := by decide +kernel
theorem dX7_tell_33 : decode cX7_tell 33 = .ok (.aload_n 0, 1) := by decide +kernel
theorem dX7_tell_34 : decode cX7_tell 34 = .ok (.getfield 70, 3) := by decide +kernel
theorem dX7_tell_37 : decode cX7_tell 37 = .ok (.iconst 2, 1) := by decide +kernel
theorem dX7_tell_38 : decode cX7_tell 38 = .ok (.if_icmp .lt 24, 3) := by decide +kernel
theorem dX7_tell_41 : decode cX7_tell 41 = .ok (.aload_n 0, 1) := by decide +kernel
theorem dX7_tell_42 : decode cX7_tell 42 = .ok (.getfield 70, 3) := by decide +kernel
theorem dX7_tell_45 : decode cX7_tell 45 = .ok (.bipush 59, 2) := by decide +kernel
theorem dX7_tell_47 : decode cX7_tell 47 = .ok (.if_icmp .le 17, 3) := by decide +kernel
theorem dX7_tell_50 : decode cX7_tell 50 = .ok (.goto 12, 3) := by decide +kernel
theorem dX7_tell_53 : decode cX7_tell 53 = .ok (.aload_n 0, 1) := by decide +kernel
theorem dX7_tell_54 : decode cX7_tell 54 = .ok (.getfield 70, 3) := by decide +kernel
theorem dX7_tell_57 : decode cX7_tell 57 = .ok (.bipush 60, 2) := by decide +kernel
theorem dX7_tell_59 : decode cX7_tell 59 = .ok (.if_icmp .le 5, 3) := by decide +kernel
theorem dX7_tell_62 : decode cX7_tell 62 = .ok (.iconst 0, 1) := by decide +kernel
theorem dX7_tell_63 : decode cX7_tell 63 = .ok (.ireturn, 1) := by decide +kernel
theorem dX7_tell_64 : decode cX7_tell 64 = .ok (.iconst 0, 1) := by decide +kernel
theorem dX7_tell_65 : decode cX7_tell 65 = .ok (.istore_n 3, 1) := by decide +kernel
theorem dX7_tell_66 : decode cX7_tell 66 = .ok (.iload_n 3, 1) := by decide +kernel
theorem dX7_tell_67 : decode cX7_tell 67 = .ok (.aload_n 0, 1) := by decide +kernel
theorem dX7_tell_68 : decode cX7_tell 68 = .ok (.getfield 70, 3) := by decide +kernel
theorem dX7_tell_71 : decode cX7_tell 71 = .ok (.if_icmp .ge 26, 3) := by decide +kernel
theorem dX7_tell_74 : decode cX7_tell 74 = .ok (.aload_n 0, 1) := by decide +kernel
theorem dX7_tell_75 : decode cX7_tell 75 = .ok (.getfield 13, 3) := by decide +kernel
theorem dX7_tell_78 : decode cX7_tell 78 = .ok (.bipush 60, 2) := by decide +kernel
theorem dX7_tell_80 : decode cX7_tell 80 = .ok (.iload_n 1, 1) := by decide +kernel
theorem dX7_tell_81 : decode cX7_tell 81 = .ok (.imul, 1) := by decide +kernel
theorem dX7_tell_82 : decode cX7_tell 82 = .ok (.iload_n 3, 1) := by decide +kernel
theorem dX7_tell_83 : decode cX7_tell 83 = .ok (.iadd, 1) := by decide +kernel
theorem dX7_tell_84 : decode cX7_tell 84 = .ok (.aload_n 0, 1) := by decide +kernel
theorem dX7_tell_85 : decode cX7_tell 85 = .ok (.getfield 7, 3) := by decide +kernel
theorem dX7_tell_88 : decode cX7_tell 88 = .ok (.iload_n 3, 1) := by decide +kernel
theorem dX7_tell_89 : decode cX7_tell 89 = .ok (.baload, 1) := by decide +kernel
theorem dX7_tell_90 : decode cX7_tell 90 = .ok (.bastore, 1) := by decide +kernel
theorem dX7_tell_91 : decode cX7_tell 91 = .ok (.iinc 3 1, 3) := by decide +kernel
theorem dX7_tell_94 : decode cX7_tell 94 = .ok (.goto (-28), 3) := by decide +kernel
theorem dX7_tell_97 : decode cX7_tell 97 = .ok (.aload_n 0, 1) := by decide +kernel
theorem dX7_tell_98 : decode cX7_tell 98 = .ok (.getfield 16, 3) := by decide +kernel
theorem dX7_tell_101 : decode cX7_tell 101 = .ok (.iload_n 1, 1) := by decide +kernel
theorem dX7_tell_102 : decode cX7_tell 102 = .ok (.aload_n 0, 1) := by decide +kernel
theorem dX7_tell_103 : decode cX7_tell 103 = .ok (.getfield 70, 3) := by decide +kernel
theorem dX7_tell_106 : decode cX7_tell 106 = .ok (.ifCond .ne 7, 3) := by decide +kernel
theorem dX7_tell_109 : decode cX7_tell 109 = .ok (.iconst (-1), 1) := by decide +kernel
theorem dX7_tell_110 : decode cX7_tell 110 = .ok (.goto 7, 3) := by decide +kernel
theorem dX7_tell_113 : decode cX7_tell 113 = .ok (.aload_n 0, 1) := by decide +kernel
theorem dX7_tell_114 : decode cX7_tell 114 = .ok (.getfield 70, 3) := by decide +kernel
theorem dX7_tell_117 : decode cX7_tell 117 = .ok (.iastore, 1) := by decide +kernel
theorem dX7_tell_118 : decode cX7_tell 118 = .ok (.aload_n 0, 1) := by decide +kernel
theorem dX7_tell_119 : decode cX7_tell 119 = .ok (.iconst 0, 1) := by decide +kernel
theorem dX7_tell_120 : decode cX7_tell 120 = .ok (.putfield 70, 3) := by decide +kernel
theorem dX7_tell_123 : decode cX7_tell 123 = .ok (.iconst 0, 1) := by decide +kernel
theorem dX7_tell_124 : decode cX7_tell 124 = .ok (.istore_n 3, 1) := by decide +kernel
theorem dX7_tell_125 : decode cX7_tell 125 = .ok (.iload_n 3, 1) := by decide +kernel
theorem dX7_tell_126 : decode cX7_tell 126 = .ok (.iconst 4, 1) := by decide +kernel
theorem dX7_tell_127 : decode cX7_tell 127 = .ok (.if_icmp .ge 29, 3) := by decide +kernel
theorem dX7_tell_130 : decode cX7_tell 130 = .ok (.aload_n 0, 1) := by decide +kernel
theorem dX7_tell_131 : decode cX7_tell 131 = .ok (.getfield 43, 3) := by decide +kernel
theorem dX7_tell_134 : decode cX7_tell 134 = .ok (.iload_n 3, 1) := by decide +kernel
theorem dX7_tell_135 : decode cX7_tell 135 = .ok (.aload_n 0, 1) := by decide +kernel
theorem dX7_tell_136 : decode cX7_tell 136 = .ok (.getfield 30, 3) := by decide +kernel
theorem dX7_tell_139 : decode cX7_tell 139 = .ok (.iload_n 3, 1) := by decide +kernel
theorem dX7_tell_140 : decode cX7_tell 140 = .ok (.baload, 1) := by decide +kernel
theorem dX7_tell_141 : decode cX7_tell 141 = .ok (.ifCond .eq 7, 3) := by decide +kernel
theorem dX7_tell_144 : decode cX7_tell 144 = .ok (.iconst 1, 1) := by decide +kernel
theorem dX7_tell_145 : decode cX7_tell 145 = .ok (.goto 4, 3) := by decide +kernel
theorem dX7_tell_148 : decode cX7_tell 148 = .ok (.iconst 0, 1) := by decide +kernel
theorem dX7_tell_149 : decode cX7_tell 149 = .ok (.iastore, 1) := by decide +kernel
theorem dX7_tell_150 : decode cX7_tell 150 = .ok (.iinc 3 1, 3) := by decide +kernel
theorem dX7_tell_153 : decode cX7_tell 153 = .ok (.goto (-28), 3) := by decide +kernel
theorem dX7_tell_156 : decode cX7_tell 156 = .ok (.iconst 1, 1) := by decide +kernel
theorem dX7_tell_157 : decode cX7_tell 157 = .ok (.ireturn, 1) := by decide +kernel
theorem dX7_set_0 : decode cX7_set 0 = .ok (.iload_n 1, 1) := by decide +kernel
theorem dX7_set_1 : decode cX7_set 1 = .ok (.iconst 1, 1) := by decide +kernel
theorem dX7_set_2 : decode cX7_set 2 = .ok (.if_icmp .ne 7, 3) := by decide +kernel
theorem dX7_set_5 : decode cX7_set 5 = .ok (.iconst 2, 1) := by decide +kernel
theorem dX7_set_6 : decode cX7_set 6 = .ok (.goto 4, 3) := by decide +kernel
theorem dX7_set_9 : decode cX7_set 9 = .ok (.iconst 1, 1) := by decide +kernel
theorem dX7_set_10 : decode cX7_set 10 = .ok (.istore_n 3, 1) := by decide +kernel
theorem dX7_set_11 : decode cX7_set 11 = .ok (.iload_n 1, 1) := by decide +kernel
theorem dX7_set_12 : decode cX7_set 12 = .ok (.ifCond .ne 9, 3) := by decide +kernel
theorem dX7_set_15 : decode cX7_set 15 = .ok (.sipush 3600, 3) := by decide +kernel
theorem dX7_set_18 : decode cX7_set 18 = .ok (.goto 15, 3) := by decide +kernel
theorem dX7_set_21 : decode cX7_set 21 = .ok (.iload_n 1, 1) := by decide +kernel
theorem dX7_set_22 : decode cX7_set 22 = .ok (.iconst 1, 1) := by decide +kernel
theorem dX7_set_23 : decode cX7_set 23 = .ok (.if_icmp .ne 8, 3) := by decide +kernel
theorem dX7_set_26 : decode cX7_set 26 = .ok (.bipush 10, 2) := by decide +kernel
theorem dX7_set_28 : decode cX7_set 28 = .ok (.goto 5, 3) := by decide +kernel
theorem dX7_set_31 : decode cX7_set 31 = .ok (.bipush 8, 2) := by decide +kernel
theorem dX7_set_33 : decode cX7_set 33 = .ok (.istore 4, 2) := by decide +kernel
theorem dX7_set_35 : decode cX7_set 35 = .ok (.iload_n 1, 1) := by decide +kernel
theorem dX7_set_36 : decode cX7_set 36 = .ok (.ifCond .lt 19, 3) := by decide +kernel
theorem dX7_set_39 : decode cX7_set 39 = .ok (.iload_n 1, 1) := by decide +kernel
theorem dX7_set_40 : decode cX7_set 40 = .ok (.iconst 2, 1) := by decide +kernel
theorem dX7_set_41 : decode cX7_set 41 = .ok (.if_icmp .gt 14, 3) := by decide +kernel
theorem dX7_set_44 : decode cX7_set 44 = .ok (.iload_n 2, 1) := by decide +kernel
theorem dX7_set_45 : decode cX7_set 45 = .ok (.iload_n 3, 1) := by decide +kernel
theorem dX7_set_46 : decode cX7_set 46 = .ok (.if_icmp .lt 9, 3) := by decide +kernel
theorem dX7_set_49 : decode cX7_set 49 = .ok (.iload_n 2, 1) := by decide +kernel
theorem dX7_set_50 : decode cX7_set 50 = .ok (.iload 4, 2) := by decide +kernel
theorem dX7_set_52 : decode cX7_set 52 = .ok (.if_icmp .le 5, 3) := by decide +kernel
theorem dX7_set_55 : decode cX7_set 55 = .ok (.iconst 0, 1) := by decide +kernel
theorem dX7_set_56 : decode cX7_set 56 = .ok (.ireturn, 1) := by decide +kernel
theorem dX7_set_57 : decode cX7_set 57 = .ok (.iload_n 1, 1) := by decide +kernel
theorem dX7_set_58 : decode cX7_set 58 = .ok (.ifCond .ne 11, 3) := by decide +kernel
theorem dX7_set_61 : decode cX7_set 61 = .ok (.aload_n 0, 1) := by decide +kernel
theorem dX7_set_62 : decode cX7_set 62 = .ok (.iload_n 2, 1) := by decide +kernel
theorem dX7_set_63 : decode cX7_set 63 = .ok (.putfield 20, 3) := by decide +kernel
theorem dX7_set_66 : decode cX7_set 66 = .ok (.goto 21, 3) := by decide +kernel
theorem dX7_set_69 : decode cX7_set 69 = .ok (.iload_n 1, 1) := by decide +kernel
theorem dX7_set_70 : decode cX7_set 70 = .ok (.iconst 1, 1) := by decide +kernel
theorem dX7_set_71 : decode cX7_set 71 = .ok (.if_icmp .ne 11, 3) := by decide +kernel
theorem dX7_set_74 : decode cX7_set 74 = .ok (.aload_n 0, 1) := by decide +kernel
theorem dX7_set_75 : decode cX7_set 75 = .ok (.iload_n 2, 1) := by decide +kernel
theorem dX7_set_76 : decode cX7_set 76 = .ok (.putfield 24, 3) := by decide +kernel
theorem dX7_set_79 : decode cX7_set 79 = .ok (.goto 8, 3) := by decide +kernel
theorem dX7_set_82 : decode cX7_set 82 = .ok (.aload_n 0, 1) := by decide +kernel
theorem dX7_set_83 : decode cX7_set 83 = .ok (.iload_n 2, 1) := by decide +kernel
theorem dX7_set_84 : decode cX7_set 84 = .ok (.putfield 27, 3) := by decide +kernel
theorem dX7_set_87 : decode cX7_set 87 = .ok (.iconst 1, 1) := by decide +kernel
theorem dX7_set_88 : decode cX7_set 88 = .ok (.ireturn, 1) := by decide +kernel
theorem dX7_put_0 : decode cX7_put 0 = .ok (.aload_n 0, 1) := by decide +kernel
theorem dX7_put_1 : decode cX7_put 1 = .ok (.getfield 64, 3) := by decide +kernel
theorem dX7_put_4 : decode cX7_put 4 = .ok (.aload_n 0, 1) := by decide +kernel
theorem dX7_put_5 : decode cX7_put 5 = .ok (.getfield 77, 3) := by decide +kernel
theorem dX7_put_8 : decode cX7_put 8 = .ok (.iload_n 1, 1) := by decide +kernel
theorem dX7_put_9 : decode cX7_put 9 = .ok (.i2b, 1) := by decide +kernel
theorem dX7_put_10 : decode cX7_put 10 = .ok (.bastore, 1) := by decide +kernel
theorem dX7_put_11 : decode cX7_put 11 = .ok (.aload_n 0, 1) := by decide +kernel
theorem dX7_put_12 : decode cX7_put 12 = .ok (.dup, 1) := by decide +kernel
theorem dX7_put_13 : decode cX7_put 13 = .ok (.getfield 77, 3) := by decide +kernel
theorem dX7_put_16 : decode cX7_put 16 = .ok (.iconst 1, 1) := by decide +kernel
theorem dX7_put_17 : decode cX7_put 17 = .ok (.iadd, 1) := by decide +kernel
theorem dX7_put_18 : decode cX7_put 18 = .ok (.putfield 77, 3) := by decide +kernel
theorem dX7_put_21 : decode cX7_put 21 = .ok (.return_, 1) := by decide +kernel
set_option maxRecDepth 20000 in
theorem ggX7_head_X7_put : GoodIn wsX7_head wsX7_put := goodIn_r _ [5, 6, 7, 8, 9, 10, 11, 12, 13, 14, 15, 16, 17, 18, 19, 20, 21, 22, 23, 24, 25, 26, 27, 28, 29, 30, 31] (by decide +kernel) (by decide +kernel)
set_option maxRecDepth 20000 in
theorem gX7_head_X7_put : GoodIn wsX7_head (wsV RX7 80 RX7 yX7_put wsX7_put) := goodIn_app (goodIn_of _ (by decide +kernel)) ggX7_head_X7_put
theorem dX7_head_0 : decode cX7_head 0 = .ok (.aload_n 0, 1) := by decide +kernel
theorem dX7_head_1 : decode cX7_head 1 = .ok (.iload_n 1, 1) := by decide +kernel
theorem dX7_head_2 : decode cX7_head 2 = .ok (.iconst 1, 1) := by decide +kernel
theorem dX7_head_3 : decode cX7_head 3 = .ok (.ishl, 1) := by decide +kernel
theorem dX7_head_4 : decode cX7_head 4 = .ok (.iload_n 2, 1) := by decide +kernel
theorem dX7_head_5 : decode cX7_head 5 = .ok (.bipush 8, 2) := by decide +kernel
theorem dX7_head_7 : decode cX7_head 7 = .ok (.ishr, 1) := by decide +kernel
theorem dX7_head_8 : decode cX7_head 8 = .ok (.ior, 1) := by decide +kernel
theorem dX7_head_9 : decode cX7_head 9 = .ok (.invokevirtual 80, 3) := by decide +kernel
theorem dX7_head_12 : decode cX7_head 12 = .ok (.aload_n 0, 1) := by decide +kernel
theorem dX7_head_13 : decode cX7_head 13 = .ok (.iload_n 2, 1) := by decide +kernel
theorem dX7_head_14 : decode cX7_head 14 = .ok (.invokevirtual 80, 3) := by decide +kernel
theorem dX7_head_17 : decode cX7_head 17 = .ok (.return_, 1) := by decide +kernel
set_option maxRecDepth 20000 in
theorem ggX7_send_X7_head : GoodIn wsX7_send wsX7_head := goodIn_r _ [10, 11, 12, 13, 9, 14, 15, 1, 16, 17, 18, 19, 20, 21, 22, 23, 24, 25, 26, 27, 28, 29, 30, 31, 32, 33, 34, 35, 36, 37, 38, 39] (by decide +kernel) (by decide +kernel)
set_option maxRecDepth 20000 in
theorem gX7_send_X7_head : GoodIn wsX7_send (wsV RX7 84 RX7 yX7_head wsX7_head) := goodIn_app (goodIn_of _ (by decide +kernel)) ggX7_send_X7_head
set_option maxRecDepth 20000 in
theorem ggX7_send_X7_put : GoodIn wsX7_send wsX7_put := goodIn_r _ [14, 15, 1, 16, 17, 18, 19, 20, 21, 22, 23, 24, 25, 26, 27, 28, 29, 30, 31, 32, 33, 34, 35, 36, 37, 38, 39] (by decide +kernel) (by decide +kernel)
set_option maxRecDepth 20000 in
theorem gX7_send_X7_put : GoodIn wsX7_send (wsV RX7 80 RX7 yX7_put wsX7_put) := goodIn_app (goodIn_of _ (by decide +kernel)) ggX7_send_X7_put
theorem dX7_send_0 : decode cX7_send 0 = .ok (.aload_n 0, 1) := by decide +kernel
theorem dX7_send_1 : decode cX7_send 1 = .ok (.iconst 0, 1) := by decide +kernel
theorem dX7_send_2 : decode cX7_send 2 = .ok (.putfield 77, 3) := by decide +kernel
theorem dX7_send_5 : decode cX7_send 5 = .ok (.aload_n 0, 1) := by decide +kernel
theorem dX7_send_6 : decode cX7_send 6 = .ok (.iload_n 1, 1) := by decide +kernel
theorem dX7_send_7 : decode cX7_send 7 = .ok (.putfield 67, 3) := by decide +kernel
theorem dX7_send_10 : decode cX7_send 10 = .ok (.iconst 1, 1) := by decide +kernel
theorem dX7_send_11 : decode cX7_send 11 = .ok (.istore_n 3, 1) := by decide +kernel
theorem dX7_send_12 : decode cX7_send 12 = .ok (.iload_n 3, 1) := by decide +kernel
theorem dX7_send_13 : decode cX7_send 13 = .ok (.bipush 9, 2) := by decide +kernel
theorem dX7_send_15 : decode cX7_send 15 = .ok (.if_icmp .ge 119, 3) := by decide +kernel
theorem dX7_send_18 : decode cX7_send 18 = .ok (.iload_n 3, 1) := by decide +kernel
theorem dX7_send_19 : decode cX7_send 19 = .ok (.iconst 3, 1) := by decide +kernel
theorem dX7_send_20 : decode cX7_send 20 = .ok (.if_icmp .ne 22, 3) := by decide +kernel
theorem dX7_send_23 : decode cX7_send 23 = .ok (.aload_n 0, 1) := by decide +kernel
theorem dX7_send_24 : decode cX7_send 24 = .ok (.iconst 3, 1) := by decide +kernel
theorem dX7_send_25 : decode cX7_send 25 = .ok (.iconst 2, 1) := by decide +kernel
theorem dX7_send_26 : decode cX7_send 26 = .ok (.invokevirtual 84, 3) := by decide +kernel
theorem dX7_send_29 : decode cX7_send 29 = .ok (.aload_n 0, 1) := by decide +kernel
theorem dX7_send_30 : decode cX7_send 30 = .ok (.iload_n 2, 1) := by decide +kernel
theorem dX7_send_31 : decode cX7_send 31 = .ok (.bipush 8, 2) := by decide +kernel
theorem dX7_send_33 : decode cX7_send 33 = .ok (.ishr, 1) := by decide +kernel
theorem dX7_send_34 : decode cX7_send 34 = .ok (.invokevirtual 80, 3) := by decide +kernel
theorem dX7_send_37 : decode cX7_send 37 = .ok (.aload_n 0, 1) := by decide +kernel
theorem dX7_send_38 : decode cX7_send 38 = .ok (.iload_n 2, 1) := by decide +kernel
theorem dX7_send_39 : decode cX7_send 39 = .ok (.invokevirtual 80, 3) := by decide +kernel
theorem dX7_send_42 : decode cX7_send 42 = .ok (.iload_n 3, 1) := by decide +kernel
theorem dX7_send_43 : decode cX7_send 43 = .ok (.iconst 3, 1) := by decide +kernel
theorem dX7_send_44 : decode cX7_send 44 = .ok (.if_icmp .eq 84, 3) := by decide +kernel
theorem dX7_send_47 : decode cX7_send 47 = .ok (.aload_n 0, 1) := by decide +kernel
theorem dX7_send_48 : decode cX7_send 48 = .ok (.getfield 16, 3) := by decide +kernel
theorem dX7_send_51 : decode cX7_send 51 = .ok (.iload_n 3, 1) := by decide +kernel
theorem dX7_send_52 : decode cX7_send 52 = .ok (.iaload, 1) := by decide +kernel
theorem dX7_send_53 : decode cX7_send 53 = .ok (.iconst (-1), 1) := by decide +kernel
theorem dX7_send_54 : decode cX7_send 54 = .ok (.if_icmp .ne 6, 3) := by decide +kernel
theorem dX7_send_57 : decode cX7_send 57 = .ok (.goto 71, 3) := by decide +kernel
theorem dX7_send_60 : decode cX7_send 60 = .ok (.aload_n 0, 1) := by decide +kernel
theorem dX7_send_61 : decode cX7_send 61 = .ok (.iload_n 3, 1) := by decide +kernel
theorem dX7_send_62 : decode cX7_send 62 = .ok (.aload_n 0, 1) := by decide +kernel
theorem dX7_send_63 : decode cX7_send 63 = .ok (.getfield 16, 3) := by decide +kernel
theorem dX7_send_66 : decode cX7_send 66 = .ok (.iload_n 3, 1) := by decide +kernel
theorem dX7_send_67 : decode cX7_send 67 = .ok (.iaload, 1) := by decide +kernel
theorem dX7_send_68 : decode cX7_send 68 = .ok (.iload_n 3, 1) := by decide +kernel
theorem dX7_send_69 : decode cX7_send 69 = .ok (.iconst 2, 1) := by decide +kernel
theorem dX7_send_70 : decode cX7_send 70 = .ok (.if_icmp .ne 7, 3) := by decide +kernel
theorem dX7_send_73 : decode cX7_send 73 = .ok (.iconst 1, 1) := by decide +kernel
theorem dX7_send_74 : decode cX7_send 74 = .ok (.goto 4, 3) := by decide +kernel
theorem dX7_send_77 : decode cX7_send 77 = .ok (.iconst 0, 1) := by decide +kernel
theorem dX7_send_78 : decode cX7_send 78 = .ok (.iadd, 1) := by decide +kernel
theorem dX7_send_79 : decode cX7_send 79 = .ok (.invokevirtual 84, 3) := by decide +kernel
theorem dX7_send_82 : decode cX7_send 82 = .ok (.iconst 0, 1) := by decide +kernel
theorem dX7_send_83 : decode cX7_send 83 = .ok (.istore 4, 2) := by decide +kernel
theorem dX7_send_85 : decode cX7_send 85 = .ok (.iload 4, 2) := by decide +kernel
theorem dX7_send_87 : decode cX7_send 87 = .ok (.aload_n 0, 1) := by decide +kernel
theorem dX7_send_88 : decode cX7_send 88 = .ok (.getfield 16, 3) := by decide +kernel
theorem dX7_send_91 : decode cX7_send 91 = .ok (.iload_n 3, 1) := by decide +kernel
theorem dX7_send_92 : decode cX7_send 92 = .ok (.iaload, 1) := by decide +kernel
theorem dX7_send_93 : decode cX7_send 93 = .ok (.if_icmp .ge 25, 3) := by decide +kernel
theorem dX7_send_96 : decode cX7_send 96 = .ok (.aload_n 0, 1) := by decide +kernel
theorem dX7_send_97 : decode cX7_send 97 = .ok (.aload_n 0, 1) := by decide +kernel
theorem dX7_send_98 : decode cX7_send 98 = .ok (.getfield 13, 3) := by decide +kernel
theorem dX7_send_101 : decode cX7_send 101 = .ok (.bipush 60, 2) := by decide +kernel
theorem dX7_send_103 : decode cX7_send 103 = .ok (.iload_n 3, 1) := by decide +kernel
theorem dX7_send_104 : decode cX7_send 104 = .ok (.imul, 1) := by decide +kernel
theorem dX7_send_105 : decode cX7_send 105 = .ok (.iload 4, 2) := by decide +kernel
theorem dX7_send_107 : decode cX7_send 107 = .ok (.iadd, 1) := by decide +kernel
theorem dX7_send_108 : decode cX7_send 108 = .ok (.baload, 1) := by decide +kernel
theorem dX7_send_109 : decode cX7_send 109 = .ok (.invokevirtual 80, 3) := by decide +kernel
theorem dX7_send_112 : decode cX7_send 112 = .ok (.iinc 4 1, 3) := by decide +kernel
theorem dX7_send_115 : decode cX7_send 115 = .ok (.goto (-30), 3) := by decide +kernel
theorem dX7_send_118 : decode cX7_send 118 = .ok (.iload_n 3, 1) := by decide +kernel
theorem dX7_send_119 : decode cX7_send 119 = .ok (.iconst 2, 1) := by decide +kernel
theorem dX7_send_120 : decode cX7_send 120 = .ok (.if_icmp .ne 8, 3) := by decide +kernel
theorem dX7_send_123 : decode cX7_send 123 = .ok (.aload_n 0, 1) := by decide +kernel
theorem dX7_send_124 : decode cX7_send 124 = .ok (.iload_n 1, 1) := by decide +kernel
theorem dX7_send_125 : decode cX7_send 125 = .ok (.invokevirtual 80, 3) := by decide +kernel
theorem dX7_send_128 : decode cX7_send 128 = .ok (.iinc 3 1, 3) := by decide +kernel
theorem dX7_send_131 : decode cX7_send 131 = .ok (.goto (-119), 3) := by decide +kernel
theorem dX7_send_134 : decode cX7_send 134 = .ok (.aload_n 0, 1) := by decide +kernel
theorem dX7_send_135 : decode cX7_send 135 = .ok (.iconst 0, 1) := by decide +kernel
theorem dX7_send_136 : decode cX7_send 136 = .ok (.iconst 0, 1) := by decide +kernel
theorem dX7_send_137 : decode cX7_send 137 = .ok (.invokevirtual 84, 3) := by decide +kernel
theorem dX7_send_140 : decode cX7_send 140 = .ok (.aload_n 0, 1) := by decide +kernel
theorem dX7_send_141 : decode cX7_send 141 = .ok (.getfield 34, 3) := by decide +kernel
theorem dX7_send_144 : decode cX7_send 144 = .ok (.iload_n 1, 1) := by decide +kernel
theorem dX7_send_145 : decode cX7_send 145 = .ok (.dup2, 1) := by decide +kernel
theorem dX7_send_146 : decode cX7_send 146 = .ok (.iaload, 1) := by decide +kernel
theorem dX7_send_147 : decode cX7_send 147 = .ok (.iconst 1, 1) := by decide +kernel
theorem dX7_send_148 : decode cX7_send 148 = .ok (.iadd, 1) := by decide +kernel
theorem dX7_send_149 : decode cX7_send 149 = .ok (.iastore, 1) := by decide +kernel
theorem dX7_send_150 : decode cX7_send 150 = .ok (.return_, 1) := by decide +kernel
set_option maxRecDepth 20000 in
theorem ggX7_port_X7_send : GoodIn wsX7_port wsX7_send := goodIn_r _ [11, 12, 13, 14, 15, 16, 17, 18, 19, 10, 20, 21, 22, 23, 24, 25, 38, 39, 40, 41, 42, 43, 44, 45, 46, 47, 48, 49, 50, 51, 52, 53, 54, 55, 56, 57, 58, 59, 60, 61] (by decide +kernel) (by decide +kernel)
set_option maxRecDepth 20000 in
theorem gX7_port_X7_send : GoodIn wsX7_port (wsV RX7 88 RX7 yX7_send wsX7_send) := goodIn_app (goodIn_of _ (by decide +kernel)) ggX7_port_X7_send
set_option maxRecDepth 20000 in
theorem ggX7_port_X7_forget : GoodIn wsX7_port wsX7_forget := goodIn_r _ [29, 5, 30, 31, 32, 10, 33, 6, 34, 35, 36, 37, 38, 39, 40, 41, 42, 43, 44, 45, 46, 47, 48, 49, 50, 51, 52, 53, 54, 55, 56, 57, 58, 59, 60, 61] (by decide +kernel) (by decide +kernel)
set_option maxRecDepth 20000 in
theorem gX7_port_X7_forget : GoodIn wsX7_port (wsV RX7 94 RX7 yX7_forget wsX7_forget) := goodIn_app (goodIn_of _ (by decide +kernel)) ggX7_port_X7_forget
theorem dX7_port_0 : decode cX7_port 0 = .ok (.iload_n 1, 1) := by decide +kernel
theorem dX7_port_1 : decode cX7_port 1 = .ok (.ifCond .lt 36, 3) := by decide +kernel
theorem dX7_port_4 : decode cX7_port 4 = .ok (.iload_n 1, 1) := by decide +kernel
theorem dX7_port_5 : decode cX7_port 5 = .ok (.iconst 4, 1) := by decide +kernel
theorem dX7_port_6 : decode cX7_port 6 = .ok (.if_icmp .ge 31, 3) := by decide +kernel
theorem dX7_port_9 : decode cX7_port 9 = .ok (.iload_n 2, 1) := by decide +kernel
theorem dX7_port_10 : decode cX7_port 10 = .ok (.ifCond .lt 27, 3) := by decide +kernel
theorem dX7_port_13 : decode cX7_port 13 = .ok (.iload_n 2, 1) := by decide +kernel
theorem dX7_port_14 : decode cX7_port 14 = .ok (.iconst 1, 1) := by decide +kernel
theorem dX7_port_15 : decode cX7_port 15 = .ok (.if_icmp .gt 22, 3) := by decide +kernel
theorem dX7_port_18 : decode cX7_port 18 = .ok (.aload_n 0, 1) := by decide +kernel
theorem dX7_port_19 : decode cX7_port 19 = .ok (.getfield 30, 3) := by decide +kernel
theorem dX7_port_22 : decode cX7_port 22 = .ok (.iload_n 1, 1) := by decide +kernel
theorem dX7_port_23 : decode cX7_port 23 = .ok (.baload, 1) := by decide +kernel
theorem dX7_port_24 : decode cX7_port 24 = .ok (.iload_n 2, 1) := by decide +kernel
theorem dX7_port_25 : decode cX7_port 25 = .ok (.iconst 1, 1) := by decide +kernel
theorem dX7_port_26 : decode cX7_port 26 = .ok (.if_icmp .ne 7, 3) := by decide +kernel
theorem dX7_port_29 : decode cX7_port 29 = .ok (.iconst 1, 1) := by decide +kernel
theorem dX7_port_30 : decode cX7_port 30 = .ok (.goto 4, 3) := by decide +kernel
theorem dX7_port_33 : decode cX7_port 33 = .ok (.iconst 0, 1) := by decide +kernel
theorem dX7_port_34 : decode cX7_port 34 = .ok (.if_icmp .ne 5, 3) := by decide +kernel
theorem dX7_port_37 : decode cX7_port 37 = .ok (.iconst 0, 1) := by decide +kernel
theorem dX7_port_38 : decode cX7_port 38 = .ok (.ireturn, 1) := by decide +kernel
theorem dX7_port_39 : decode cX7_port 39 = .ok (.aload_n 0, 1) := by decide +kernel
theorem dX7_port_40 : decode cX7_port 40 = .ok (.getfield 30, 3) := by decide +kernel
theorem dX7_port_43 : decode cX7_port 43 = .ok (.iload_n 1, 1) := by decide +kernel
theorem dX7_port_44 : decode cX7_port 44 = .ok (.iload_n 2, 1) := by decide +kernel
theorem dX7_port_45 : decode cX7_port 45 = .ok (.iconst 1, 1) := by decide +kernel
theorem dX7_port_46 : decode cX7_port 46 = .ok (.if_icmp .ne 7, 3) := by decide +kernel
theorem dX7_port_49 : decode cX7_port 49 = .ok (.iconst 1, 1) := by decide +kernel
theorem dX7_port_50 : decode cX7_port 50 = .ok (.goto 4, 3) := by decide +kernel
theorem dX7_port_53 : decode cX7_port 53 = .ok (.iconst 0, 1) := by decide +kernel
theorem dX7_port_54 : decode cX7_port 54 = .ok (.bastore, 1) := by decide +kernel
theorem dX7_port_55 : decode cX7_port 55 = .ok (.aload_n 0, 1) := by decide +kernel
theorem dX7_port_56 : decode cX7_port 56 = .ok (.getfield 43, 3) := by decide +kernel
theorem dX7_port_59 : decode cX7_port 59 = .ok (.iload_n 1, 1) := by decide +kernel
theorem dX7_port_60 : decode cX7_port 60 = .ok (.iload_n 2, 1) := by decide +kernel
theorem dX7_port_61 : decode cX7_port 61 = .ok (.iastore, 1) := by decide +kernel
theorem dX7_port_62 : decode cX7_port 62 = .ok (.aload_n 0, 1) := by decide +kernel
theorem dX7_port_63 : decode cX7_port 63 = .ok (.getfield 46, 3) := by decide +kernel
theorem dX7_port_66 : decode cX7_port 66 = .ok (.iload_n 1, 1) := by decide +kernel
theorem dX7_port_67 : decode cX7_port 67 = .ok (.iload_n 2, 1) := by decide +kernel
theorem dX7_port_68 : decode cX7_port 68 = .ok (.iconst 1, 1) := by decide +kernel
theorem dX7_port_69 : decode cX7_port 69 = .ok (.if_icmp .ne 10, 3) := by decide +kernel
theorem dX7_port_72 : decode cX7_port 72 = .ok (.aload_n 0, 1) := by decide +kernel
theorem dX7_port_73 : decode cX7_port 73 = .ok (.getfield 27, 3) := by decide +kernel
theorem dX7_port_76 : decode cX7_port 76 = .ok (.goto 4, 3) := by decide +kernel
theorem dX7_port_79 : decode cX7_port 79 = .ok (.iconst 0, 1) := by decide +kernel
theorem dX7_port_80 : decode cX7_port 80 = .ok (.iastore, 1) := by decide +kernel
theorem dX7_port_81 : decode cX7_port 81 = .ok (.iload_n 2, 1) := by decide +kernel
theorem dX7_port_82 : decode cX7_port 82 = .ok (.ifCond .ne 41, 3) := by decide +kernel
theorem dX7_port_85 : decode cX7_port 85 = .ok (.aload_n 0, 1) := by decide +kernel
theorem dX7_port_86 : decode cX7_port 86 = .ok (.iload_n 1, 1) := by decide +kernel
theorem dX7_port_87 : decode cX7_port 87 = .ok (.iconst 0, 1) := by decide +kernel
theorem dX7_port_88 : decode cX7_port 88 = .ok (.invokevirtual 88, 3) := by decide +kernel
theorem dX7_port_91 : decode cX7_port 91 = .ok (.aload_n 0, 1) := by decide +kernel
theorem dX7_port_92 : decode cX7_port 92 = .ok (.getfield 91, 3) := by decide +kernel
theorem dX7_port_95 : decode cX7_port 95 = .ok (.iconst 1, 1) := by decide +kernel
theorem dX7_port_96 : decode cX7_port 96 = .ok (.isub, 1) := by decide +kernel
theorem dX7_port_97 : decode cX7_port 97 = .ok (.istore_n 3, 1) := by decide +kernel
theorem dX7_port_98 : decode cX7_port 98 = .ok (.iload_n 3, 1) := by decide +kernel
theorem dX7_port_99 : decode cX7_port 99 = .ok (.ifCond .lt 24, 3) := by decide +kernel
theorem dX7_port_102 : decode cX7_port 102 = .ok (.aload_n 0, 1) := by decide +kernel
theorem dX7_port_103 : decode cX7_port 103 = .ok (.getfield 49, 3) := by decide +kernel
theorem dX7_port_106 : decode cX7_port 106 = .ok (.iload_n 3, 1) := by decide +kernel
theorem dX7_port_107 : decode cX7_port 107 = .ok (.iaload, 1) := by decide +kernel
theorem dX7_port_108 : decode cX7_port 108 = .ok (.iload_n 1, 1) := by decide +kernel
theorem dX7_port_109 : decode cX7_port 109 = .ok (.if_icmp .ne 8, 3) := by decide +kernel
theorem dX7_port_112 : decode cX7_port 112 = .ok (.aload_n 0, 1) := by decide +kernel
theorem dX7_port_113 : decode cX7_port 113 = .ok (.iload_n 3, 1) := by decide +kernel
theorem dX7_port_114 : decode cX7_port 114 = .ok (.invokevirtual 94, 3) := by decide +kernel
theorem dX7_port_117 : decode cX7_port 117 = .ok (.iinc 3 (-1), 3) := by decide +kernel
theorem dX7_port_120 : decode cX7_port 120 = .ok (.goto (-22), 3) := by decide +kernel
theorem dX7_port_123 : decode cX7_port 123 = .ok (.iconst 1, 1) := by decide +kernel
theorem dX7_port_124 : decode cX7_port 124 = .ok (.ireturn, 1) := by decide +kernel
theorem dX7_move_0 : decode cX7_move 0 = .ok (.aload_n 0, 1) := by decide +kernel
theorem dX7_move_1 : decode cX7_move 1 = .ok (.getfield 49, 3) := by decide +kernel
theorem dX7_move_4 : decode cX7_move 4 = .ok (.iload_n 2, 1) := by decide +kernel
theorem dX7_move_5 : decode cX7_move 5 = .ok (.aload_n 0, 1) := by decide +kernel
theorem dX7_move_6 : decode cX7_move 6 = .ok (.getfield 49, 3) := by decide +kernel
theorem dX7_move_9 : decode cX7_move 9 = .ok (.iload_n 1, 1) := by decide +kernel
theorem dX7_move_10 : decode cX7_move 10 = .ok (.iaload, 1) := by decide +kernel
theorem dX7_move_11 : decode cX7_move 11 = .ok (.iastore, 1) := by decide +kernel
theorem dX7_move_12 : decode cX7_move 12 = .ok (.aload_n 0, 1) := by decide +kernel
theorem dX7_move_13 : decode cX7_move 13 = .ok (.getfield 52, 3) := by decide +kernel
theorem dX7_move_16 : decode cX7_move 16 = .ok (.iload_n 2, 1) := by decide +kernel
theorem dX7_move_17 : decode cX7_move 17 = .ok (.aload_n 0, 1) := by decide +kernel
theorem dX7_move_18 : decode cX7_move 18 = .ok (.getfield 52, 3) := by decide +kernel
theorem dX7_move_21 : decode cX7_move 21 = .ok (.iload_n 1, 1) := by decide +kernel
theorem dX7_move_22 : decode cX7_move 22 = .ok (.iaload, 1) := by decide +kernel
theorem dX7_move_23 : decode cX7_move 23 = .ok (.iastore, 1) := by decide +kernel
theorem dX7_move_24 : decode cX7_move 24 = .ok (.aload_n 0, 1) := by decide +kernel
theorem dX7_move_25 : decode cX7_move 25 = .ok (.getfield 55, 3) := by decide +kernel
theorem dX7_move_28 : decode cX7_move 28 = .ok (.iload_n 2, 1) := by decide +kernel
theorem dX7_move_29 : decode cX7_move 29 = .ok (.aload_n 0, 1) := by decide +kernel
theorem dX7_move_30 : decode cX7_move 30 = .ok (.getfield 55, 3) := by decide +kernel
theorem dX7_move_33 : decode cX7_move 33 = .ok (.iload_n 1, 1) := by decide +kernel
theorem dX7_move_34 : decode cX7_move 34 = .ok (.iaload, 1) := by decide +kernel
theorem dX7_move_35 : decode cX7_move 35 = .ok (.iastore, 1) := by decide +kernel
theorem dX7_move_36 : decode cX7_move 36 = .ok (.iconst 0, 1) := by decide +kernel
theorem dX7_move_37 : decode cX7_move 37 = .ok (.istore_n 3, 1) := by decide +kernel
theorem dX7_move_38 : decode cX7_move 38 = .ok (.iload_n 3, 1) := by decide +kernel
theorem dX7_move_39 : decode cX7_move 39 = .ok (.bipush 9, 2) := by decide +kernel
theorem dX7_move_41 : decode cX7_move 41 = .ok (.if_icmp .ge 81, 3) := by decide +kernel
theorem dX7_move_44 : decode cX7_move 44 = .ok (.aload_n 0, 1) := by decide +kernel
theorem dX7_move_45 : decode cX7_move 45 = .ok (.getfield 61, 3) := by decide +kernel
theorem dX7_move_48 : decode cX7_move 48 = .ok (.bipush 9, 2) := by decide +kernel
theorem dX7_move_50 : decode cX7_move 50 = .ok (.iload_n 2, 1) := by decide +kernel
theorem dX7_move_51 : decode cX7_move 51 = .ok (.imul, 1) := by decide +kernel
theorem dX7_move_52 : decode cX7_move 52 = .ok (.iload_n 3, 1) := by decide +kernel
theorem dX7_move_53 : decode cX7_move 53 = .ok (.iadd, 1) := by decide +kernel
theorem dX7_move_54 : decode cX7_move 54 = .ok (.aload_n 0, 1) := by decide +kernel
theorem dX7_move_55 : decode cX7_move 55 = .ok (.getfield 61, 3) := by decide +kernel
theorem dX7_move_58 : decode cX7_move 58 = .ok (.bipush 9, 2) := by decide +kernel
theorem dX7_move_60 : decode cX7_move 60 = .ok (.iload_n 1, 1) := by decide +kernel
theorem dX7_move_61 : decode cX7_move 61 = .ok (.imul, 1) := by decide +kernel
theorem dX7_move_62 : decode cX7_move 62 = .ok (.iload_n 3, 1) := by decide +kernel
theorem dX7_move_63 : decode cX7_move 63 = .ok (.iadd, 1) := by decide +kernel
theorem dX7_move_64 : decode cX7_move 64 = .ok (.iaload, 1) := by decide +kernel
theorem dX7_move_65 : decode cX7_move 65 = .ok (.iastore, 1) := by decide +kernel
theorem dX7_move_66 : decode cX7_move 66 = .ok (.iconst 0, 1) := by decide +kernel
theorem dX7_move_67 : decode cX7_move 67 = .ok (.istore 4, 2) := by decide +kernel
theorem dX7_move_69 : decode cX7_move 69 = .ok (.iload 4, 2) := by decide +kernel
theorem dX7_move_71 : decode cX7_move 71 = .ok (.bipush 60, 2) := by decide +kernel
theorem dX7_move_73 : decode cX7_move 73 = .ok (.if_icmp .ge 43, 3) := by decide +kernel
theorem dX7_move_76 : decode cX7_move 76 = .ok (.aload_n 0, 1) := by decide +kernel
theorem dX7_move_77 : decode cX7_move 77 = .ok (.getfield 58, 3) := by decide +kernel
theorem dX7_move_80 : decode cX7_move 80 = .ok (.bipush 9, 2) := by decide +kernel
theorem dX7_move_82 : decode cX7_move 82 = .ok (.iload_n 2, 1) := by decide +kernel
theorem dX7_move_83 : decode cX7_move 83 = .ok (.imul, 1) := by decide +kernel
theorem dX7_move_84 : decode cX7_move 84 = .ok (.iload_n 3, 1) := by decide +kernel
theorem dX7_move_85 : decode cX7_move 85 = .ok (.iadd, 1) := by decide +kernel
theorem dX7_move_86 : decode cX7_move 86 = .ok (.bipush 60, 2) := by decide +kernel
theorem dX7_move_88 : decode cX7_move 88 = .ok (.imul, 1) := by decide +kernel
theorem dX7_move_89 : decode cX7_move 89 = .ok (.iload 4, 2) := by decide +kernel
theorem dX7_move_91 : decode cX7_move 91 = .ok (.iadd, 1) := by decide +kernel
theorem dX7_move_92 : decode cX7_move 92 = .ok (.aload_n 0, 1) := by decide +kernel
theorem dX7_move_93 : decode cX7_move 93 = .ok (.getfield 58, 3) := by decide +kernel
theorem dX7_move_96 : decode cX7_move 96 = .ok (.bipush 9, 2) := by decide +kernel
theorem dX7_move_98 : decode cX7_move 98 = .ok (.iload_n 1, 1) := by decide +kernel
theorem dX7_move_99 : decode cX7_move 99 = .ok (.imul, 1) := by decide +kernel
theorem dX7_move_100 : decode cX7_move 100 = .ok (.iload_n 3, 1) := by decide +kernel
theorem dX7_move_101 : decode cX7_move 101 = .ok (.iadd, 1) := by decide +kernel
theorem dX7_move_102 : decode cX7_move 102 = .ok (.bipush 60, 2) := by decide +kernel
theorem dX7_move_104 : decode cX7_move 104 = .ok (.imul, 1) := by decide +kernel
theorem dX7_move_105 : decode cX7_move 105 = .ok (.iload 4, 2) := by decide +kernel
theorem dX7_move_107 : decode cX7_move 107 = .ok (.iadd, 1) := by decide +kernel
theorem dX7_move_108 : decode cX7_move 108 = .ok (.baload, 1) := by decide +kernel
theorem dX7_move_109 : decode cX7_move 109 = .ok (.bastore, 1) := by decide +kernel
theorem dX7_move_110 : decode cX7_move 110 = .ok (.iinc 4 1, 3) := by decide +kernel
theorem dX7_move_113 : decode cX7_move 113 = .ok (.goto (-44), 3) := by decide +kernel
theorem dX7_move_116 : decode cX7_move 116 = .ok (.iinc 3 1, 3) := by decide +kernel
theorem dX7_move_119 : decode cX7_move 119 = .ok (.goto (-81), 3) := by decide +kernel
theorem dX7_move_122 : decode cX7_move 122 = .ok (.return_, 1) := by decide +kernel
set_option maxRecDepth 20000 in
theorem ggX7_forget_X7_move : GoodIn wsX7_forget wsX7_move := goodIn_r _ [6, 7, 8, 9, 10, 11, 12, 13, 14, 15, 16, 17, 18, 19, 20, 21, 22, 23, 24, 25, 26, 27, 28, 29, 30, 31, 32, 33, 34, 35] (by decide +kernel) (by decide +kernel)
set_option maxRecDepth 20000 in
theorem gX7_forget_X7_move : GoodIn wsX7_forget (wsV RX7 97 RX7 yX7_move wsX7_move) := goodIn_app (goodIn_of _ (by decide +kernel)) ggX7_forget_X7_move
theorem dX7_forget_0 : decode cX7_forget 0 = .ok (.iload_n 1, 1) := by decide +kernel
theorem dX7_forget_1 : decode cX7_forget 1 = .ok (.iconst 1, 1) := by decide +kernel
theorem dX7_forget_2 : decode cX7_forget 2 = .ok (.iadd, 1) := by decide +kernel
theorem dX7_forget_3 : decode cX7_forget 3 = .ok (.istore_n 2, 1) := by decide +kernel
theorem dX7_forget_4 : decode cX7_forget 4 = .ok (.iload_n 2, 1) := by decide +kernel
theorem dX7_forget_5 : decode cX7_forget 5 = .ok (.aload_n 0, 1) := by decide +kernel
theorem dX7_forget_6 : decode cX7_forget 6 = .ok (.getfield 91, 3) := by decide +kernel
theorem dX7_forget_9 : decode cX7_forget 9 = .ok (.if_icmp .ge 17, 3) := by decide +kernel
theorem dX7_forget_12 : decode cX7_forget 12 = .ok (.aload_n 0, 1) := by decide +kernel
theorem dX7_forget_13 : decode cX7_forget 13 = .ok (.iload_n 2, 1) := by decide +kernel
theorem dX7_forget_14 : decode cX7_forget 14 = .ok (.iload_n 2, 1) := by decide +kernel
theorem dX7_forget_15 : decode cX7_forget 15 = .ok (.iconst 1, 1) := by decide +kernel
theorem dX7_forget_16 : decode cX7_forget 16 = .ok (.isub, 1) := by decide +kernel
theorem dX7_forget_17 : decode cX7_forget 17 = .ok (.invokevirtual 97, 3) := by decide +kernel
theorem dX7_forget_20 : decode cX7_forget 20 = .ok (.iinc 2 1, 3) := by decide +kernel
theorem dX7_forget_23 : decode cX7_forget 23 = .ok (.goto (-19), 3) := by decide +kernel
theorem dX7_forget_26 : decode cX7_forget 26 = .ok (.aload_n 0, 1) := by decide +kernel
theorem dX7_forget_27 : decode cX7_forget 27 = .ok (.dup, 1) := by decide +kernel
theorem dX7_forget_28 : decode cX7_forget 28 = .ok (.getfield 91, 3) := by decide +kernel
theorem dX7_forget_31 : decode cX7_forget 31 = .ok (.iconst 1, 1) := by decide +kernel
theorem dX7_forget_32 : decode cX7_forget 32 = .ok (.isub, 1) := by decide +kernel
theorem dX7_forget_33 : decode cX7_forget 33 = .ok (.putfield 91, 3) := by decide +kernel
theorem dX7_forget_36 : decode cX7_forget 36 = .ok (.return_, 1) := by decide +kernel
theorem dX7_isAlike_0 : decode cX7_isAlike 0 = .ok (.aload_n 0, 1) := by decide +kernel
theorem dX7_isAlike_1 : decode cX7_isAlike 1 = .ok (.getfield 49, 3) := by decide +kernel
theorem dX7_isAlike_4 : decode cX7_isAlike 4 = .ok (.iload_n 1, 1) := by decide +kernel
theorem dX7_isAlike_5 : decode cX7_isAlike 5 = .ok (.iaload, 1) := by decide +kernel
theorem dX7_isAlike_6 : decode cX7_isAlike 6 = .ok (.aload_n 0, 1) := by decide +kernel
theorem dX7_isAlike_7 : decode cX7_isAlike 7 = .ok (.getfield 49, 3) := by decide +kernel
theorem dX7_isAlike_10 : decode cX7_isAlike 10 = .ok (.iload_n 2, 1) := by decide +kernel
theorem dX7_isAlike_11 : decode cX7_isAlike 11 = .ok (.iaload, 1) := by decide +kernel
theorem dX7_isAlike_12 : decode cX7_isAlike 12 = .ok (.if_icmp .ne 7, 3) := by decide +kernel
theorem dX7_isAlike_15 : decode cX7_isAlike 15 = .ok (.iconst 1, 1) := by decide +kernel
theorem dX7_isAlike_16 : decode cX7_isAlike 16 = .ok (.goto 4, 3) := by decide +kernel
theorem dX7_isAlike_19 : decode cX7_isAlike 19 = .ok (.iconst 0, 1) := by decide +kernel
theorem dX7_isAlike_20 : decode cX7_isAlike 20 = .ok (.istore_n 3, 1) := by decide +kernel
theorem dX7_isAlike_21 : decode cX7_isAlike 21 = .ok (.iconst 1, 1) := by decide +kernel
theorem dX7_isAlike_22 : decode cX7_isAlike 22 = .ok (.istore 4, 2) := by decide +kernel
theorem dX7_isAlike_24 : decode cX7_isAlike 24 = .ok (.iload 4, 2) := by decide +kernel
theorem dX7_isAlike_26 : decode cX7_isAlike 26 = .ok (.iconst 3, 1) := by decide +kernel
theorem dX7_isAlike_27 : decode cX7_isAlike 27 = .ok (.if_icmp .ge 121, 3) := by decide +kernel
theorem dX7_isAlike_30 : decode cX7_isAlike 30 = .ok (.iload_n 3, 1) := by decide +kernel
theorem dX7_isAlike_31 : decode cX7_isAlike 31 = .ok (.ifCond .eq 34, 3) := by decide +kernel
theorem dX7_isAlike_34 : decode cX7_isAlike 34 = .ok (.aload_n 0, 1) := by decide +kernel
theorem dX7_isAlike_35 : decode cX7_isAlike 35 = .ok (.getfield 61, 3) := by decide +kernel
theorem dX7_isAlike_38 : decode cX7_isAlike 38 = .ok (.bipush 9, 2) := by decide +kernel
theorem dX7_isAlike_40 : decode cX7_isAlike 40 = .ok (.iload_n 1, 1) := by decide +kernel
theorem dX7_isAlike_41 : decode cX7_isAlike 41 = .ok (.imul, 1) := by decide +kernel
theorem dX7_isAlike_42 : decode cX7_isAlike 42 = .ok (.iload 4, 2) := by decide +kernel
theorem dX7_isAlike_44 : decode cX7_isAlike 44 = .ok (.iadd, 1) := by decide +kernel
theorem dX7_isAlike_45 : decode cX7_isAlike 45 = .ok (.iaload, 1) := by decide +kernel
theorem dX7_isAlike_46 : decode cX7_isAlike 46 = .ok (.aload_n 0, 1) := by decide +kernel
theorem dX7_isAlike_47 : decode cX7_isAlike 47 = .ok (.getfield 61, 3) := by decide +kernel
theorem dX7_isAlike_50 : decode cX7_isAlike 50 = .ok (.bipush 9, 2) := by decide +kernel
theorem dX7_isAlike_52 : decode cX7_isAlike 52 = .ok (.iload_n 2, 1) := by decide +kernel
theorem dX7_isAlike_53 : decode cX7_isAlike 53 = .ok (.imul, 1) := by decide +kernel
theorem dX7_isAlike_54 : decode cX7_isAlike 54 = .ok (.iload 4, 2) := by decide +kernel
theorem dX7_isAlike_56 : decode cX7_isAlike 56 = .ok (.iadd, 1) := by decide +kernel
theorem dX7_isAlike_57 : decode cX7_isAlike 57 = .ok (.iaload, 1) := by decide +kernel
theorem dX7_isAlike_58 : decode cX7_isAlike 58 = .ok (.if_icmp .ne 7, 3) := by decide +kernel
theorem dX7_isAlike_61 : decode cX7_isAlike 61 = .ok (.iconst 1, 1) := by decide +kernel
theorem dX7_isAlike_62 : decode cX7_isAlike 62 = .ok (.goto 4, 3) := by decide +kernel
theorem dX7_isAlike_65 : decode cX7_isAlike 65 = .ok (.iconst 0, 1) := by decide +kernel
theorem dX7_isAlike_66 : decode cX7_isAlike 66 = .ok (.istore_n 3, 1) := by decide +kernel
theorem dX7_isAlike_67 : decode cX7_isAlike 67 = .ok (.iconst 0, 1) := by decide +kernel
theorem dX7_isAlike_68 : decode cX7_isAlike 68 = .ok (.istore 5, 2) := by decide +kernel
theorem dX7_isAlike_70 : decode cX7_isAlike 70 = .ok (.iload_n 3, 1) := by decide +kernel
theorem dX7_isAlike_71 : decode cX7_isAlike 71 = .ok (.ifCond .eq 71, 3) := by decide +kernel
theorem dX7_isAlike_74 : decode cX7_isAlike 74 = .ok (.iload 5, 2) := by decide +kernel
theorem dX7_isAlike_76 : decode cX7_isAlike 76 = .ok (.aload_n 0, 1) := by decide +kernel
theorem dX7_isAlike_77 : decode cX7_isAlike 77 = .ok (.getfield 61, 3) := by decide +kernel
theorem dX7_isAlike_80 : decode cX7_isAlike 80 = .ok (.bipush 9, 2) := by decide +kernel
theorem dX7_isAlike_82 : decode cX7_isAlike 82 = .ok (.iload_n 1, 1) := by decide +kernel
theorem dX7_isAlike_83 : decode cX7_isAlike 83 = .ok (.imul, 1) := by decide +kernel
theorem dX7_isAlike_84 : decode cX7_isAlike 84 = .ok (.iload 4, 2) := by decide +kernel
theorem dX7_isAlike_86 : decode cX7_isAlike 86 = .ok (.iadd, 1) := by decide +kernel
theorem dX7_isAlike_87 : decode cX7_isAlike 87 = .ok (.iaload, 1) := by decide +kernel
theorem dX7_isAlike_88 : decode cX7_isAlike 88 = .ok (.if_icmp .ge 54, 3) := by decide +kernel
theorem dX7_isAlike_91 : decode cX7_isAlike 91 = .ok (.aload_n 0, 1) := by decide +kernel
theorem dX7_isAlike_92 : decode cX7_isAlike 92 = .ok (.getfield 58, 3) := by decide +kernel
theorem dX7_isAlike_95 : decode cX7_isAlike 95 = .ok (.bipush 9, 2) := by decide +kernel
theorem dX7_isAlike_97 : decode cX7_isAlike 97 = .ok (.iload_n 1, 1) := by decide +kernel
theorem dX7_isAlike_98 : decode cX7_isAlike 98 = .ok (.imul, 1) := by decide +kernel
theorem dX7_isAlike_99 : decode cX7_isAlike 99 = .ok (.iload 4, 2) := by decide +kernel
theorem dX7_isAlike_101 : decode cX7_isAlike 101 = .ok (.iadd, 1) := by decide +kernel
theorem dX7_isAlike_102 : decode cX7_isAlike 102 = .ok (.bipush 60, 2) := by decide +kernel
theorem dX7_isAlike_104 : decode cX7_isAlike 104 = .ok (.imul, 1) := by decide +kernel
theorem dX7_isAlike_105 : decode cX7_isAlike 105 = .ok (.iload 5, 2) := by decide +kernel
theorem dX7_isAlike_107 : decode cX7_isAlike 107 = .ok (.iadd, 1) := by decide +kernel
theorem dX7_isAlike_108 : decode cX7_isAlike 108 = .ok (.baload, 1) := by decide +kernel
theorem dX7_isAlike_109 : decode cX7_isAlike 109 = .ok (.aload_n 0, 1) := by decide +kernel
theorem dX7_isAlike_110 : decode cX7_isAlike 110 = .ok (.getfield 58, 3) := by decide +kernel
theorem dX7_isAlike_113 : decode cX7_isAlike 113 = .ok (.bipush 9, 2) := by decide +kernel
theorem dX7_isAlike_115 : decode cX7_isAlike 115 = .ok (.iload_n 2, 1) := by decide +kernel
theorem dX7_isAlike_116 : decode cX7_isAlike 116 = .ok (.imul, 1) := by decide +kernel
theorem dX7_isAlike_117 : decode cX7_isAlike 117 = .ok (.iload 4, 2) := by decide +kernel
theorem dX7_isAlike_119 : decode cX7_isAlike 119 = .ok (.iadd, 1) := by decide +kernel
theorem dX7_isAlike_120 : decode cX7_isAlike 120 = .ok (.bipush 60, 2) := by decide +kernel
theorem dX7_isAlike_122 : decode cX7_isAlike 122 = .ok (.imul, 1) := by decide +kernel
theorem dX7_isAlike_123 : decode cX7_isAlike 123 = .ok (.iload 5, 2) := by decide +kernel
theorem dX7_isAlike_125 : decode cX7_isAlike 125 = .ok (.iadd, 1) := by decide +kernel
theorem dX7_isAlike_126 : decode cX7_isAlike 126 = .ok (.baload, 1) := by decide +kernel
theorem dX7_isAlike_127 : decode cX7_isAlike 127 = .ok (.if_icmp .ne 7, 3) := by decide +kernel
theorem dX7_isAlike_130 : decode cX7_isAlike 130 = .ok (.iconst 1, 1) := by decide +kernel
theorem dX7_isAlike_131 : decode cX7_isAlike 131 = .ok (.goto 4, 3) := by decide +kernel
theorem dX7_isAlike_134 : decode cX7_isAlike 134 = .ok (.iconst 0, 1) := by decide +kernel
theorem dX7_isAlike_135 : decode cX7_isAlike 135 = .ok (.istore_n 3, 1) := by decide +kernel
theorem dX7_isAlike_136 : decode cX7_isAlike 136 = .ok (.iinc 5 1, 3) := by decide +kernel
theorem dX7_isAlike_139 : decode cX7_isAlike 139 = .ok (.goto (-69), 3) := by decide +kernel
theorem dX7_isAlike_142 : decode cX7_isAlike 142 = .ok (.iinc 4 1, 3) := by decide +kernel
theorem dX7_isAlike_145 : decode cX7_isAlike 145 = .ok (.goto (-121), 3) := by decide +kernel
theorem dX7_isAlike_148 : decode cX7_isAlike 148 = .ok (.iload_n 3, 1) := by decide +kernel
theorem dX7_isAlike_149 : decode cX7_isAlike 149 = .ok (.ireturn, 1) := by decide +kernel
set_option maxRecDepth 20000 in
theorem ggX7_parse_X7_isMore : GoodIn wsX7_parse wsX7_isMore := goodIn_r _ [9] (by decide +kernel) (by decide +kernel)
set_option maxRecDepth 20000 in
theorem gX7_parse_X7_isMore : GoodIn wsX7_parse (va_wsS RX7 73 yX7_isMore wsX7_isMore) := goodIn_app (goodIn_of _ (by decide +kernel)) ggX7_parse_X7_isMore
theorem dX7_parse_0 : decode cX7_parse 0 = .ok (.iconst 0, 1) := by decide +kernel
theorem dX7_parse_1 : decode cX7_parse 1 = .ok (.istore_n 1, 1) := by decide +kernel
theorem dX7_parse_2 : decode cX7_parse 2 = .ok (.iload_n 1, 1) := by decide +kernel
theorem dX7_parse_3 : decode cX7_parse 3 = .ok (.bipush 9, 2) := by decide +kernel
theorem dX7_parse_5 : decode cX7_parse 5 = .ok (.if_icmp .ge 19, 3) := by decide +kernel
theorem dX7_parse_8 : decode cX7_parse 8 = .ok (.aload_n 0, 1) := by decide +kernel
theorem dX7_parse_9 : decode cX7_parse 9 = .ok (.getfield 61, 3) := by decide +kernel
theorem dX7_parse_12 : decode cX7_parse 12 = .ok (.bipush 108, 2) := by decide +kernel
theorem dX7_parse_14 : decode cX7_parse 14 = .ok (.iload_n 1, 1) := by decide +kernel
theorem dX7_parse_15 : decode cX7_parse 15 = .ok (.iadd, 1) := by decide +kernel
theorem dX7_parse_16 : decode cX7_parse 16 = .ok (.iconst (-1), 1) := by decide +kernel
theorem dX7_parse_17 : decode cX7_parse 17 = .ok (.iastore, 1) := by decide +kernel
theorem dX7_parse_18 : decode cX7_parse 18 = .ok (.iinc 1 1, 3) := by decide +kernel
theorem dX7_parse_21 : decode cX7_parse 21 = .ok (.goto (-19), 3) := by decide +kernel
theorem dX7_parse_24 : decode cX7_parse 24 = .ok (.iconst 0, 1) := by decide +kernel
theorem dX7_parse_25 : decode cX7_parse 25 = .ok (.istore_n 1, 1) := by decide +kernel
theorem dX7_parse_26 : decode cX7_parse 26 = .ok (.iconst 0, 1) := by decide +kernel
theorem dX7_parse_27 : decode cX7_parse 27 = .ok (.istore_n 2, 1) := by decide +kernel
theorem dX7_parse_28 : decode cX7_parse 28 = .ok (.iload_n 1, 1) := by decide +kernel
theorem dX7_parse_29 : decode cX7_parse 29 = .ok (.iconst 2, 1) := by decide +kernel
theorem dX7_parse_30 : decode cX7_parse 30 = .ok (.iadd, 1) := by decide +kernel
theorem dX7_parse_31 : decode cX7_parse 31 = .ok (.aload_n 0, 1) := by decide +kernel
theorem dX7_parse_32 : decode cX7_parse 32 = .ok (.getfield 70, 3) := by decide +kernel
theorem dX7_parse_35 : decode cX7_parse 35 = .ok (.if_icmp .le 5, 3) := by decide +kernel
theorem dX7_parse_38 : decode cX7_parse 38 = .ok (.iconst 1, 1) := by decide +kernel
theorem dX7_parse_39 : decode cX7_parse 39 = .ok (.ireturn, 1) := by decide +kernel
theorem dX7_parse_40 : decode cX7_parse 40 = .ok (.aload_n 0, 1) := by decide +kernel
theorem dX7_parse_41 : decode cX7_parse 41 = .ok (.getfield 7, 3) := by decide +kernel
theorem dX7_parse_44 : decode cX7_parse 44 = .ok (.iload_n 1, 1) := by decide +kernel
theorem dX7_parse_45 : decode cX7_parse 45 = .ok (.baload, 1) := by decide +kernel
theorem dX7_parse_46 : decode cX7_parse 46 = .ok (.iconst 1, 1) := by decide +kernel
theorem dX7_parse_47 : decode cX7_parse 47 = .ok (.ishr, 1) := by decide +kernel
theorem dX7_parse_48 : decode cX7_parse 48 = .ok (.bipush 127, 2) := by decide +kernel
theorem dX7_parse_50 : decode cX7_parse 50 = .ok (.iand, 1) := by decide +kernel
theorem dX7_parse_51 : decode cX7_parse 51 = .ok (.istore_n 3, 1) := by decide +kernel
theorem dX7_parse_52 : decode cX7_parse 52 = .ok (.aload_n 0, 1) := by decide +kernel
theorem dX7_parse_53 : decode cX7_parse 53 = .ok (.getfield 7, 3) := by decide +kernel
theorem dX7_parse_56 : decode cX7_parse 56 = .ok (.iload_n 1, 1) := by decide +kernel
theorem dX7_parse_57 : decode cX7_parse 57 = .ok (.baload, 1) := by decide +kernel
theorem dX7_parse_58 : decode cX7_parse 58 = .ok (.iconst 1, 1) := by decide +kernel
theorem dX7_parse_59 : decode cX7_parse 59 = .ok (.iand, 1) := by decide +kernel
theorem dX7_parse_60 : decode cX7_parse 60 = .ok (.bipush 8, 2) := by decide +kernel
theorem dX7_parse_62 : decode cX7_parse 62 = .ok (.ishl, 1) := by decide +kernel
theorem dX7_parse_63 : decode cX7_parse 63 = .ok (.aload_n 0, 1) := by decide +kernel
theorem dX7_parse_64 : decode cX7_parse 64 = .ok (.getfield 7, 3) := by decide +kernel
theorem dX7_parse_67 : decode cX7_parse 67 = .ok (.iload_n 1, 1) := by decide +kernel
theorem dX7_parse_68 : decode cX7_parse 68 = .ok (.iconst 1, 1) := by decide +kernel
theorem dX7_parse_69 : decode cX7_parse 69 = .ok (.iadd, 1) := by decide +kernel
theorem dX7_parse_70 : decode cX7_parse 70 = .ok (.baload, 1) := by decide +kernel
theorem dX7_parse_71 : decode cX7_parse 71 = .ok (.sipush 255, 3) := by decide +kernel
theorem dX7_parse_74 : decode cX7_parse 74 = .ok (.iand, 1) := by decide +kernel
theorem dX7_parse_75 : decode cX7_parse 75 = .ok (.ior, 1) := by decide +kernel
theorem dX7_parse_76 : decode cX7_parse 76 = .ok (.istore 4, 2) := by decide +kernel
theorem dX7_parse_78 : decode cX7_parse 78 = .ok (.iinc 1 2, 3) := by decide +kernel
theorem dX7_parse_81 : decode cX7_parse 81 = .ok (.iload_n 2, 1) := by decide +kernel
theorem dX7_parse_82 : decode cX7_parse 82 = .ok (.iconst 3, 1) := by decide +kernel
theorem dX7_parse_83 : decode cX7_parse 83 = .ok (.if_icmp .ge 13, 3) := by decide +kernel
theorem dX7_parse_86 : decode cX7_parse 86 = .ok (.iload_n 3, 1) := by decide +kernel
theorem dX7_parse_87 : decode cX7_parse 87 = .ok (.iload_n 2, 1) := by decide +kernel
theorem dX7_parse_88 : decode cX7_parse 88 = .ok (.iconst 1, 1) := by decide +kernel
theorem dX7_parse_89 : decode cX7_parse 89 = .ok (.iadd, 1) := by decide +kernel
theorem dX7_parse_90 : decode cX7_parse 90 = .ok (.if_icmp .eq 18, 3) := by decide +kernel
theorem dX7_parse_93 : decode cX7_parse 93 = .ok (.goto 13, 3) := by decide +kernel
theorem dX7_parse_96 : decode cX7_parse 96 = .ok (.iload_n 3, 1) := by decide +kernel
theorem dX7_parse_97 : decode cX7_parse 97 = .ok (.iconst 1, 1) := by decide +kernel
theorem dX7_parse_98 : decode cX7_parse 98 = .ok (.if_icmp .lt 10, 3) := by decide +kernel
theorem dX7_parse_101 : decode cX7_parse 101 = .ok (.iload_n 3, 1) := by decide +kernel
theorem dX7_parse_102 : decode cX7_parse 102 = .ok (.iconst 3, 1) := by decide +kernel
theorem dX7_parse_103 : decode cX7_parse 103 = .ok (.if_icmp .gt 5, 3) := by decide +kernel
theorem dX7_parse_106 : decode cX7_parse 106 = .ok (.iconst 2, 1) := by decide +kernel
theorem dX7_parse_107 : decode cX7_parse 107 = .ok (.ireturn, 1) := by decide +kernel
theorem dX7_parse_108 : decode cX7_parse 108 = .ok (.iload_n 3, 1) := by decide +kernel
theorem dX7_parse_109 : decode cX7_parse 109 = .ok (.ifCond .ne 16, 3) := by decide +kernel
theorem dX7_parse_112 : decode cX7_parse 112 = .ok (.iload 4, 2) := by decide +kernel
theorem dX7_parse_114 : decode cX7_parse 114 = .ok (.ifCond .ne 7, 3) := by decide +kernel
theorem dX7_parse_117 : decode cX7_parse 117 = .ok (.iconst 1, 1) := by decide +kernel
theorem dX7_parse_118 : decode cX7_parse 118 = .ok (.goto 70, 3) := by decide +kernel
theorem dX7_parse_121 : decode cX7_parse 121 = .ok (.iconst 0, 1) := by decide +kernel
theorem dX7_parse_122 : decode cX7_parse 122 = .ok (.goto 66, 3) := by decide +kernel
theorem dX7_parse_125 : decode cX7_parse 125 = .ok (.iload_n 3, 1) := by decide +kernel
theorem dX7_parse_126 : decode cX7_parse 126 = .ok (.iconst 3, 1) := by decide +kernel
theorem dX7_parse_127 : decode cX7_parse 127 = .ok (.if_icmp .ge 24, 3) := by decide +kernel
theorem dX7_parse_130 : decode cX7_parse 130 = .ok (.iload 4, 2) := by decide +kernel
theorem dX7_parse_132 : decode cX7_parse 132 = .ok (.iconst 2, 1) := by decide +kernel
theorem dX7_parse_133 : decode cX7_parse 133 = .ok (.if_icmp .lt 14, 3) := by decide +kernel
theorem dX7_parse_136 : decode cX7_parse 136 = .ok (.iload 4, 2) := by decide +kernel
theorem dX7_parse_138 : decode cX7_parse 138 = .ok (.bipush 60, 2) := by decide +kernel
theorem dX7_parse_140 : decode cX7_parse 140 = .ok (.if_icmp .gt 7, 3) := by decide +kernel
theorem dX7_parse_143 : decode cX7_parse 143 = .ok (.iconst 1, 1) := by decide +kernel
theorem dX7_parse_144 : decode cX7_parse 144 = .ok (.goto 44, 3) := by decide +kernel
theorem dX7_parse_147 : decode cX7_parse 147 = .ok (.iconst 0, 1) := by decide +kernel
theorem dX7_parse_148 : decode cX7_parse 148 = .ok (.goto 40, 3) := by decide +kernel
theorem dX7_parse_151 : decode cX7_parse 151 = .ok (.iload_n 3, 1) := by decide +kernel
theorem dX7_parse_152 : decode cX7_parse 152 = .ok (.iconst 3, 1) := by decide +kernel
theorem dX7_parse_153 : decode cX7_parse 153 = .ok (.if_icmp .ne 17, 3) := by decide +kernel
theorem dX7_parse_156 : decode cX7_parse 156 = .ok (.iload 4, 2) := by decide +kernel
theorem dX7_parse_158 : decode cX7_parse 158 = .ok (.iconst 2, 1) := by decide +kernel
theorem dX7_parse_159 : decode cX7_parse 159 = .ok (.if_icmp .lt 7, 3) := by decide +kernel
theorem dX7_parse_162 : decode cX7_parse 162 = .ok (.iconst 1, 1) := by decide +kernel
theorem dX7_parse_163 : decode cX7_parse 163 = .ok (.goto 25, 3) := by decide +kernel
theorem dX7_parse_166 : decode cX7_parse 166 = .ok (.iconst 0, 1) := by decide +kernel
theorem dX7_parse_167 : decode cX7_parse 167 = .ok (.goto 21, 3) := by decide +kernel
theorem dX7_parse_170 : decode cX7_parse 170 = .ok (.iload_n 3, 1) := by decide +kernel
theorem dX7_parse_171 : decode cX7_parse 171 = .ok (.bipush 8, 2) := by decide +kernel
theorem dX7_parse_173 : decode cX7_parse 173 = .ok (.if_icmp .gt 10, 3) := by decide +kernel
theorem dX7_parse_176 : decode cX7_parse 176 = .ok (.iload 4, 2) := by decide +kernel
theorem dX7_parse_178 : decode cX7_parse 178 = .ok (.bipush 60, 2) := by decide +kernel
theorem dX7_parse_180 : decode cX7_parse 180 = .ok (.if_icmp .gt 7, 3) := by decide +kernel
theorem dX7_parse_183 : decode cX7_parse 183 = .ok (.iconst 1, 1) := by decide +kernel
theorem dX7_parse_184 : decode cX7_parse 184 = .ok (.goto 4, 3) := by decide +kernel
theorem dX7_parse_187 : decode cX7_parse 187 = .ok (.iconst 0, 1) := by decide +kernel
theorem dX7_parse_188 : decode cX7_parse 188 = .ok (.istore 5, 2) := by decide +kernel
theorem dX7_parse_190 : decode cX7_parse 190 = .ok (.iload 5, 2) := by decide +kernel
theorem dX7_parse_192 : decode cX7_parse 192 = .ok (.ifCond .ne 5, 3) := by decide +kernel
theorem dX7_parse_195 : decode cX7_parse 195 = .ok (.iconst 3, 1) := by decide +kernel
theorem dX7_parse_196 : decode cX7_parse 196 = .ok (.ireturn, 1) := by decide +kernel
theorem dX7_parse_197 : decode cX7_parse 197 = .ok (.iload_n 3, 1) := by decide +kernel
theorem dX7_parse_198 : decode cX7_parse 198 = .ok (.invokestatic 73, 3) := by decide +kernel
theorem dX7_parse_201 : decode cX7_parse 201 = .ok (.ifCond .eq 18, 3) := by decide +kernel
theorem dX7_parse_204 : decode cX7_parse 204 = .ok (.aload_n 0, 1) := by decide +kernel
theorem dX7_parse_205 : decode cX7_parse 205 = .ok (.getfield 61, 3) := by decide +kernel
theorem dX7_parse_208 : decode cX7_parse 208 = .ok (.bipush 108, 2) := by decide +kernel
theorem dX7_parse_210 : decode cX7_parse 210 = .ok (.iload_n 3, 1) := by decide +kernel
theorem dX7_parse_211 : decode cX7_parse 211 = .ok (.iadd, 1) := by decide +kernel
theorem dX7_parse_212 : decode cX7_parse 212 = .ok (.iaload, 1) := by decide +kernel
theorem dX7_parse_213 : decode cX7_parse 213 = .ok (.iconst (-1), 1) := by decide +kernel
theorem dX7_parse_214 : decode cX7_parse 214 = .ok (.if_icmp .eq 5, 3) := by decide +kernel
theorem dX7_parse_217 : decode cX7_parse 217 = .ok (.iconst 4, 1) := by decide +kernel
theorem dX7_parse_218 : decode cX7_parse 218 = .ok (.ireturn, 1) := by decide +kernel
theorem dX7_parse_219 : decode cX7_parse 219 = .ok (.iload_n 1, 1) := by decide +kernel
theorem dX7_parse_220 : decode cX7_parse 220 = .ok (.iload 4, 2) := by decide +kernel
theorem dX7_parse_222 : decode cX7_parse 222 = .ok (.iadd, 1) := by decide +kernel
theorem dX7_parse_223 : decode cX7_parse 223 = .ok (.aload_n 0, 1) := by decide +kernel
theorem dX7_parse_224 : decode cX7_parse 224 = .ok (.getfield 70, 3) := by decide +kernel
theorem dX7_parse_227 : decode cX7_parse 227 = .ok (.if_icmp .le 5, 3) := by decide +kernel
theorem dX7_parse_230 : decode cX7_parse 230 = .ok (.iconst 1, 1) := by decide +kernel
theorem dX7_parse_231 : decode cX7_parse 231 = .ok (.ireturn, 1) := by decide +kernel
theorem dX7_parse_232 : decode cX7_parse 232 = .ok (.iload_n 3, 1) := by decide +kernel
theorem dX7_parse_233 : decode cX7_parse 233 = .ok (.ifCond .ne 5, 3) := by decide +kernel
theorem dX7_parse_236 : decode cX7_parse 236 = .ok (.iconst 0, 1) := by decide +kernel
theorem dX7_parse_237 : decode cX7_parse 237 = .ok (.ireturn, 1) := by decide +kernel
theorem dX7_parse_238 : decode cX7_parse 238 = .ok (.iload_n 3, 1) := by decide +kernel
theorem dX7_parse_239 : decode cX7_parse 239 = .ok (.iconst 3, 1) := by decide +kernel
theorem dX7_parse_240 : decode cX7_parse 240 = .ok (.if_icmp .ne 39, 3) := by decide +kernel
theorem dX7_parse_243 : decode cX7_parse 243 = .ok (.aload_n 0, 1) := by decide +kernel
theorem dX7_parse_244 : decode cX7_parse 244 = .ok (.getfield 52, 3) := by decide +kernel
theorem dX7_parse_247 : decode cX7_parse 247 = .ok (.bipush 12, 2) := by decide +kernel
theorem dX7_parse_249 : decode cX7_parse 249 = .ok (.aload_n 0, 1) := by decide +kernel
theorem dX7_parse_250 : decode cX7_parse 250 = .ok (.getfield 7, 3) := by decide +kernel
theorem dX7_parse_253 : decode cX7_parse 253 = .ok (.iload_n 1, 1) := by decide +kernel
theorem dX7_parse_254 : decode cX7_parse 254 = .ok (.baload, 1) := by decide +kernel
theorem dX7_parse_255 : decode cX7_parse 255 = .ok (.sipush 255, 3) := by decide +kernel
theorem dX7_parse_258 : decode cX7_parse 258 = .ok (.iand, 1) := by decide +kernel
theorem dX7_parse_259 : decode cX7_parse 259 = .ok (.bipush 8, 2) := by decide +kernel
theorem dX7_parse_261 : decode cX7_parse 261 = .ok (.ishl, 1) := by decide +kernel
theorem dX7_parse_262 : decode cX7_parse 262 = .ok (.aload_n 0, 1) := by decide +kernel
theorem dX7_parse_263 : decode cX7_parse 263 = .ok (.getfield 7, 3) := by decide +kernel
theorem dX7_parse_266 : decode cX7_parse 266 = .ok (.iload_n 1, 1) := by decide +kernel
theorem dX7_parse_267 : decode cX7_parse 267 = .ok (.iconst 1, 1) := by decide +kernel
theorem dX7_parse_268 : decode cX7_parse 268 = .ok (.iadd, 1) := by decide +kernel
theorem dX7_parse_269 : decode cX7_parse 269 = .ok (.baload, 1) := by decide +kernel
theorem dX7_parse_270 : decode cX7_parse 270 = .ok (.sipush 255, 3) := by decide +kernel
theorem dX7_parse_273 : decode cX7_parse 273 = .ok (.iand, 1) := by decide +kernel
theorem dX7_parse_274 : decode cX7_parse 274 = .ok (.ior, 1) := by decide +kernel
theorem dX7_parse_275 : decode cX7_parse 275 = .ok (.iastore, 1) := by decide +kernel
theorem dX7_parse_276 : decode cX7_parse 276 = .ok (.goto 60, 3) := by decide +kernel
theorem dX7_parse_279 : decode cX7_parse 279 = .ok (.iload_n 3, 1) := by decide +kernel
theorem dX7_parse_280 : decode cX7_parse 280 = .ok (.bipush 9, 2) := by decide +kernel
theorem dX7_parse_282 : decode cX7_parse 282 = .ok (.if_icmp .ge 54, 3) := by decide +kernel
theorem dX7_parse_285 : decode cX7_parse 285 = .ok (.aload_n 0, 1) := by decide +kernel
theorem dX7_parse_286 : decode cX7_parse 286 = .ok (.getfield 61, 3) := by decide +kernel
theorem dX7_parse_289 : decode cX7_parse 289 = .ok (.bipush 108, 2) := by decide +kernel
theorem dX7_parse_291 : decode cX7_parse 291 = .ok (.iload_n 3, 1) := by decide +kernel
theorem dX7_parse_292 : decode cX7_parse 292 = .ok (.iadd, 1) := by decide +kernel
theorem dX7_parse_293 : decode cX7_parse 293 = .ok (.iload 4, 2) := by decide +kernel
theorem dX7_parse_295 : decode cX7_parse 295 = .ok (.iastore, 1) := by decide +kernel
theorem dX7_parse_296 : decode cX7_parse 296 = .ok (.iconst 0, 1) := by decide +kernel
theorem dX7_parse_297 : decode cX7_parse 297 = .ok (.istore 6, 2) := by decide +kernel
theorem dX7_parse_299 : decode cX7_parse 299 = .ok (.iload 6, 2) := by decide +kernel
theorem dX7_parse_301 : decode cX7_parse 301 = .ok (.iload 4, 2) := by decide +kernel
theorem dX7_parse_303 : decode cX7_parse 303 = .ok (.if_icmp .ge 33, 3) := by decide +kernel
theorem dX7_parse_306 : decode cX7_parse 306 = .ok (.aload_n 0, 1) := by decide +kernel
theorem dX7_parse_307 : decode cX7_parse 307 = .ok (.getfield 58, 3) := by decide +kernel
theorem dX7_parse_310 : decode cX7_parse 310 = .ok (.bipush 108, 2) := by decide +kernel
theorem dX7_parse_312 : decode cX7_parse 312 = .ok (.iload_n 3, 1) := by decide +kernel
theorem dX7_parse_313 : decode cX7_parse 313 = .ok (.iadd, 1) := by decide +kernel
theorem dX7_parse_314 : decode cX7_parse 314 = .ok (.bipush 60, 2) := by decide +kernel
theorem dX7_parse_316 : decode cX7_parse 316 = .ok (.imul, 1) := by decide +kernel
theorem dX7_parse_317 : decode cX7_parse 317 = .ok (.iload 6, 2) := by decide +kernel
theorem dX7_parse_319 : decode cX7_parse 319 = .ok (.iadd, 1) := by decide +kernel
theorem dX7_parse_320 : decode cX7_parse 320 = .ok (.aload_n 0, 1) := by decide +kernel
theorem dX7_parse_321 : decode cX7_parse 321 = .ok (.getfield 7, 3) := by decide +kernel
theorem dX7_parse_324 : decode cX7_parse 324 = .ok (.iload_n 1, 1) := by decide +kernel
theorem dX7_parse_325 : decode cX7_parse 325 = .ok (.iload 6, 2) := by decide +kernel
theorem dX7_parse_327 : decode cX7_parse 327 = .ok (.iadd, 1) := by decide +kernel
theorem dX7_parse_328 : decode cX7_parse 328 = .ok (.baload, 1) := by decide +kernel
theorem dX7_parse_329 : decode cX7_parse 329 = .ok (.bastore, 1) := by decide +kernel
theorem dX7_parse_330 : decode cX7_parse 330 = .ok (.iinc 6 1, 3) := by decide +kernel
theorem dX7_parse_333 : decode cX7_parse 333 = .ok (.goto (-34), 3) := by decide +kernel
theorem dX7_parse_336 : decode cX7_parse 336 = .ok (.iload_n 1, 1) := by decide +kernel
theorem dX7_parse_337 : decode cX7_parse 337 = .ok (.iload 4, 2) := by decide +kernel
theorem dX7_parse_339 : decode cX7_parse 339 = .ok (.iadd, 1) := by decide +kernel
theorem dX7_parse_340 : decode cX7_parse 340 = .ok (.istore_n 1, 1) := by decide +kernel
theorem dX7_parse_341 : decode cX7_parse 341 = .ok (.iinc 2 1, 3) := by decide +kernel
theorem dX7_parse_344 : decode cX7_parse 344 = .ok (.goto (-316), 3) := by decide +kernel
set_option maxRecDepth 20000 in
theorem ggX7_heard_X7_parse : GoodIn wsX7_heard wsX7_parse := goodIn_r _ [12, 13, 14, 15, 3, 16, 17, 18, 11, 19, 32, 33, 34, 35, 36, 37, 38, 39, 40, 41, 42, 43, 44, 45, 46, 47, 48, 49, 50, 51, 52, 53, 54, 55] (by decide +kernel) (by decide +kernel)
set_option maxRecDepth 20000 in
theorem gX7_heard_X7_parse : GoodIn wsX7_heard (wsV RX7 100 RX7 yX7_parse wsX7_parse) := goodIn_app (goodIn_of _ (by decide +kernel)) ggX7_heard_X7_parse
set_option maxRecDepth 20000 in
theorem ggX7_heard_X7_isAlike : GoodIn wsX7_heard wsX7_isAlike := goodIn_r _ [23, 1, 13, 16, 32, 33, 34, 35, 36, 37, 38, 39, 40, 41, 42, 43, 44, 45, 46, 47, 48, 49, 50, 51, 52, 53, 54, 55] (by decide +kernel) (by decide +kernel)
set_option maxRecDepth 20000 in
theorem gX7_heard_X7_isAlike : GoodIn wsX7_heard (wsV RX7 104 RX7 yX7_isAlike wsX7_isAlike) := goodIn_app (goodIn_of _ (by decide +kernel)) ggX7_heard_X7_isAlike
set_option maxRecDepth 20000 in
theorem ggX7_heard_X7_forget : GoodIn wsX7_heard wsX7_forget := goodIn_r _ [27, 2, 28, 29, 30, 11, 31, 1, 3, 4, 13, 16, 32, 33, 34, 35, 36, 37, 38, 39, 40, 41, 42, 43, 44, 45, 46, 47, 48, 49, 50, 51, 52, 53, 54, 55] (by decide +kernel) (by decide +kernel)
set_option maxRecDepth 20000 in
theorem gX7_heard_X7_forget : GoodIn wsX7_heard (wsV RX7 94 RX7 yX7_forget wsX7_forget) := goodIn_app (goodIn_of _ (by decide +kernel)) ggX7_heard_X7_forget
set_option maxRecDepth 20000 in
theorem ggX7_heard_X7_move : GoodIn wsX7_heard wsX7_move := goodIn_r _ [31, 1, 3, 4, 13, 16, 32, 33, 34, 35, 36, 37, 38, 39, 40, 41, 42, 43, 44, 45, 46, 47, 48, 49, 50, 51, 52, 53, 54, 55] (by decide +kernel) (by decide +kernel)
set_option maxRecDepth 20000 in
theorem gX7_heard_X7_move : GoodIn wsX7_heard (wsV RX7 97 RX7 yX7_move wsX7_move) := goodIn_app (goodIn_of _ (by decide +kernel)) ggX7_heard_X7_move
theorem dX7_heard_0 : decode cX7_heard 0 = .ok (.aload_n 0, 1) := by decide +kernel
theorem dX7_heard_1 : decode cX7_heard 1 = .ok (.invokevirtual 100, 3) := by decide +kernel
theorem dX7_heard_4 : decode cX7_heard 4 = .ok (.istore_n 2, 1) := by decide +kernel
theorem dX7_heard_5 : decode cX7_heard 5 = .ok (.iload_n 2, 1) := by decide +kernel
theorem dX7_heard_6 : decode cX7_heard 6 = .ok (.ifCond .le 5, 3) := by decide +kernel
theorem dX7_heard_9 : decode cX7_heard 9 = .ok (.iload_n 2, 1) := by decide +kernel
theorem dX7_heard_10 : decode cX7_heard 10 = .ok (.ireturn, 1) := by decide +kernel
theorem dX7_heard_11 : decode cX7_heard 11 = .ok (.aload_n 0, 1) := by decide +kernel
theorem dX7_heard_12 : decode cX7_heard 12 = .ok (.getfield 49, 3) := by decide +kernel
theorem dX7_heard_15 : decode cX7_heard 15 = .ok (.bipush 12, 2) := by decide +kernel
theorem dX7_heard_17 : decode cX7_heard 17 = .ok (.iload_n 1, 1) := by decide +kernel
theorem dX7_heard_18 : decode cX7_heard 18 = .ok (.iastore, 1) := by decide +kernel
theorem dX7_heard_19 : decode cX7_heard 19 = .ok (.iconst (-1), 1) := by decide +kernel
theorem dX7_heard_20 : decode cX7_heard 20 = .ok (.istore_n 3, 1) := by decide +kernel
theorem dX7_heard_21 : decode cX7_heard 21 = .ok (.iconst 0, 1) := by decide +kernel
theorem dX7_heard_22 : decode cX7_heard 22 = .ok (.istore 4, 2) := by decide +kernel
theorem dX7_heard_24 : decode cX7_heard 24 = .ok (.iload 4, 2) := by decide +kernel
theorem dX7_heard_26 : decode cX7_heard 26 = .ok (.aload_n 0, 1) := by decide +kernel
theorem dX7_heard_27 : decode cX7_heard 27 = .ok (.getfield 91, 3) := by decide +kernel
theorem dX7_heard_30 : decode cX7_heard 30 = .ok (.if_icmp .ge 23, 3) := by decide +kernel
theorem dX7_heard_33 : decode cX7_heard 33 = .ok (.aload_n 0, 1) := by decide +kernel
theorem dX7_heard_34 : decode cX7_heard 34 = .ok (.iload 4, 2) := by decide +kernel
theorem dX7_heard_36 : decode cX7_heard 36 = .ok (.bipush 12, 2) := by decide +kernel
theorem dX7_heard_38 : decode cX7_heard 38 = .ok (.invokevirtual 104, 3) := by decide +kernel
theorem dX7_heard_41 : decode cX7_heard 41 = .ok (.ifCond .eq 6, 3) := by decide +kernel
theorem dX7_heard_44 : decode cX7_heard 44 = .ok (.iload 4, 2) := by decide +kernel
theorem dX7_heard_46 : decode cX7_heard 46 = .ok (.istore_n 3, 1) := by decide +kernel
theorem dX7_heard_47 : decode cX7_heard 47 = .ok (.iinc 4 1, 3) := by decide +kernel
theorem dX7_heard_50 : decode cX7_heard 50 = .ok (.goto (-26), 3) := by decide +kernel
theorem dX7_heard_53 : decode cX7_heard 53 = .ok (.aload_n 0, 1) := by decide +kernel
theorem dX7_heard_54 : decode cX7_heard 54 = .ok (.getfield 52, 3) := by decide +kernel
theorem dX7_heard_57 : decode cX7_heard 57 = .ok (.bipush 12, 2) := by decide +kernel
theorem dX7_heard_59 : decode cX7_heard 59 = .ok (.iaload, 1) := by decide +kernel
theorem dX7_heard_60 : decode cX7_heard 60 = .ok (.ifCond .ne 15, 3) := by decide +kernel
theorem dX7_heard_63 : decode cX7_heard 63 = .ok (.iload_n 3, 1) := by decide +kernel
theorem dX7_heard_64 : decode cX7_heard 64 = .ok (.iconst (-1), 1) := by decide +kernel
theorem dX7_heard_65 : decode cX7_heard 65 = .ok (.if_icmp .eq 8, 3) := by decide +kernel
theorem dX7_heard_68 : decode cX7_heard 68 = .ok (.aload_n 0, 1) := by decide +kernel
theorem dX7_heard_69 : decode cX7_heard 69 = .ok (.iload_n 3, 1) := by decide +kernel
theorem dX7_heard_70 : decode cX7_heard 70 = .ok (.invokevirtual 94, 3) := by decide +kernel
theorem dX7_heard_73 : decode cX7_heard 73 = .ok (.iconst 0, 1) := by decide +kernel
theorem dX7_heard_74 : decode cX7_heard 74 = .ok (.ireturn, 1) := by decide +kernel
theorem dX7_heard_75 : decode cX7_heard 75 = .ok (.iload_n 3, 1) := by decide +kernel
theorem dX7_heard_76 : decode cX7_heard 76 = .ok (.iconst (-1), 1) := by decide +kernel
theorem dX7_heard_77 : decode cX7_heard 77 = .ok (.if_icmp .ne 84, 3) := by decide +kernel
theorem dX7_heard_80 : decode cX7_heard 80 = .ok (.aload_n 0, 1) := by decide +kernel
theorem dX7_heard_81 : decode cX7_heard 81 = .ok (.getfield 91, 3) := by decide +kernel
theorem dX7_heard_84 : decode cX7_heard 84 = .ok (.bipush 12, 2) := by decide +kernel
theorem dX7_heard_86 : decode cX7_heard 86 = .ok (.if_icmp .ne 5, 3) := by decide +kernel
theorem dX7_heard_89 : decode cX7_heard 89 = .ok (.iconst 5, 1) := by decide +kernel
theorem dX7_heard_90 : decode cX7_heard 90 = .ok (.ireturn, 1) := by decide +kernel
theorem dX7_heard_91 : decode cX7_heard 91 = .ok (.aload_n 0, 1) := by decide +kernel
theorem dX7_heard_92 : decode cX7_heard 92 = .ok (.getfield 55, 3) := by decide +kernel
theorem dX7_heard_95 : decode cX7_heard 95 = .ok (.bipush 12, 2) := by decide +kernel
theorem dX7_heard_97 : decode cX7_heard 97 = .ok (.iconst 1, 1) := by decide +kernel
theorem dX7_heard_98 : decode cX7_heard 98 = .ok (.iastore, 1) := by decide +kernel
theorem dX7_heard_99 : decode cX7_heard 99 = .ok (.aload_n 0, 1) := by decide +kernel
theorem dX7_heard_100 : decode cX7_heard 100 = .ok (.bipush 12, 2) := by decide +kernel
theorem dX7_heard_102 : decode cX7_heard 102 = .ok (.aload_n 0, 1) := by decide +kernel
theorem dX7_heard_103 : decode cX7_heard 103 = .ok (.getfield 91, 3) := by decide +kernel
theorem dX7_heard_106 : decode cX7_heard 106 = .ok (.invokevirtual 97, 3) := by decide +kernel
theorem dX7_heard_109 : decode cX7_heard 109 = .ok (.aload_n 0, 1) := by decide +kernel
theorem dX7_heard_110 : decode cX7_heard 110 = .ok (.dup, 1) := by decide +kernel
theorem dX7_heard_111 : decode cX7_heard 111 = .ok (.getfield 91, 3) := by decide +kernel
theorem dX7_heard_114 : decode cX7_heard 114 = .ok (.iconst 1, 1) := by decide +kernel
theorem dX7_heard_115 : decode cX7_heard 115 = .ok (.iadd, 1) := by decide +kernel
theorem dX7_heard_116 : decode cX7_heard 116 = .ok (.putfield 91, 3) := by decide +kernel
theorem dX7_heard_119 : decode cX7_heard 119 = .ok (.aload_n 0, 1) := by decide +kernel
theorem dX7_heard_120 : decode cX7_heard 120 = .ok (.getfield 46, 3) := by decide +kernel
theorem dX7_heard_123 : decode cX7_heard 123 = .ok (.iload_n 1, 1) := by decide +kernel
theorem dX7_heard_124 : decode cX7_heard 124 = .ok (.aload_n 0, 1) := by decide +kernel
theorem dX7_heard_125 : decode cX7_heard 125 = .ok (.getfield 27, 3) := by decide +kernel
theorem dX7_heard_128 : decode cX7_heard 128 = .ok (.aload_n 0, 1) := by decide +kernel
theorem dX7_heard_129 : decode cX7_heard 129 = .ok (.getfield 46, 3) := by decide +kernel
theorem dX7_heard_132 : decode cX7_heard 132 = .ok (.iload_n 1, 1) := by decide +kernel
theorem dX7_heard_133 : decode cX7_heard 133 = .ok (.iaload, 1) := by decide +kernel
theorem dX7_heard_134 : decode cX7_heard 134 = .ok (.if_icmp .le 10, 3) := by decide +kernel
theorem dX7_heard_137 : decode cX7_heard 137 = .ok (.aload_n 0, 1) := by decide +kernel
theorem dX7_heard_138 : decode cX7_heard 138 = .ok (.getfield 27, 3) := by decide +kernel
theorem dX7_heard_141 : decode cX7_heard 141 = .ok (.goto 9, 3) := by decide +kernel
theorem dX7_heard_144 : decode cX7_heard 144 = .ok (.aload_n 0, 1) := by decide +kernel
theorem dX7_heard_145 : decode cX7_heard 145 = .ok (.getfield 46, 3) := by decide +kernel
theorem dX7_heard_148 : decode cX7_heard 148 = .ok (.iload_n 1, 1) := by decide +kernel
theorem dX7_heard_149 : decode cX7_heard 149 = .ok (.iaload, 1) := by decide +kernel
theorem dX7_heard_150 : decode cX7_heard 150 = .ok (.iastore, 1) := by decide +kernel
theorem dX7_heard_151 : decode cX7_heard 151 = .ok (.aload_n 0, 1) := by decide +kernel
theorem dX7_heard_152 : decode cX7_heard 152 = .ok (.getfield 43, 3) := by decide +kernel
theorem dX7_heard_155 : decode cX7_heard 155 = .ok (.iload_n 1, 1) := by decide +kernel
theorem dX7_heard_156 : decode cX7_heard 156 = .ok (.iconst 1, 1) := by decide +kernel
theorem dX7_heard_157 : decode cX7_heard 157 = .ok (.iastore, 1) := by decide +kernel
theorem dX7_heard_158 : decode cX7_heard 158 = .ok (.goto 25, 3) := by decide +kernel
theorem dX7_heard_161 : decode cX7_heard 161 = .ok (.aload_n 0, 1) := by decide +kernel
theorem dX7_heard_162 : decode cX7_heard 162 = .ok (.getfield 55, 3) := by decide +kernel
theorem dX7_heard_165 : decode cX7_heard 165 = .ok (.bipush 12, 2) := by decide +kernel
theorem dX7_heard_167 : decode cX7_heard 167 = .ok (.aload_n 0, 1) := by decide +kernel
theorem dX7_heard_168 : decode cX7_heard 168 = .ok (.getfield 55, 3) := by decide +kernel
theorem dX7_heard_171 : decode cX7_heard 171 = .ok (.iload_n 3, 1) := by decide +kernel
theorem dX7_heard_172 : decode cX7_heard 172 = .ok (.iaload, 1) := by decide +kernel
theorem dX7_heard_173 : decode cX7_heard 173 = .ok (.iconst 1, 1) := by decide +kernel
theorem dX7_heard_174 : decode cX7_heard 174 = .ok (.iadd, 1) := by decide +kernel
theorem dX7_heard_175 : decode cX7_heard 175 = .ok (.iastore, 1) := by decide +kernel
theorem dX7_heard_176 : decode cX7_heard 176 = .ok (.aload_n 0, 1) := by decide +kernel
theorem dX7_heard_177 : decode cX7_heard 177 = .ok (.bipush 12, 2) := by decide +kernel
theorem dX7_heard_179 : decode cX7_heard 179 = .ok (.iload_n 3, 1) := by decide +kernel
theorem dX7_heard_180 : decode cX7_heard 180 = .ok (.invokevirtual 97, 3) := by decide +kernel
theorem dX7_heard_183 : decode cX7_heard 183 = .ok (.iconst 0, 1) := by decide +kernel
theorem dX7_heard_184 : decode cX7_heard 184 = .ok (.ireturn, 1) := by decide +kernel
set_option maxRecDepth 20000 in
theorem ggX7_hear_X7_heard : GoodIn wsX7_hear wsX7_heard := goodIn_r _ [10, 11, 12, 13, 14, 15, 16, 17, 18, 19, 20, 9, 21, 22, 3, 23, 24, 25, 26, 27, 28, 29, 30, 31, 32, 33, 34, 35, 36, 37, 38, 39, 40, 41, 42, 43, 44, 45, 46, 47, 48, 49, 50, 51, 52, 53, 54, 55, 56, 57, 58, 59, 60, 61, 62, 63] (by decide +kernel) (by decide +kernel)
set_option maxRecDepth 20000 in
theorem gX7_hear_X7_heard : GoodIn wsX7_hear (wsV RX7 108 RX7 yX7_heard wsX7_heard) := goodIn_app (goodIn_of _ (by decide +kernel)) ggX7_hear_X7_heard
theorem dX7_hear_0 : decode cX7_hear 0 = .ok (.iload_n 1, 1) := by decide +kernel
theorem dX7_hear_1 : decode cX7_hear 1 = .ok (.ifCond .lt 17, 3) := by decide +kernel
theorem dX7_hear_4 : decode cX7_hear 4 = .ok (.iload_n 1, 1) := by decide +kernel
theorem dX7_hear_5 : decode cX7_hear 5 = .ok (.iconst 4, 1) := by decide +kernel
theorem dX7_hear_6 : decode cX7_hear 6 = .ok (.if_icmp .ge 12, 3) := by decide +kernel
theorem dX7_hear_9 : decode cX7_hear 9 = .ok (.aload_n 0, 1) := by decide +kernel
theorem dX7_hear_10 : decode cX7_hear 10 = .ok (.getfield 30, 3) := by decide +kernel
theorem dX7_hear_13 : decode cX7_hear 13 = .ok (.iload_n 1, 1) := by decide +kernel
theorem dX7_hear_14 : decode cX7_hear 14 = .ok (.baload, 1) := by decide +kernel
theorem dX7_hear_15 : decode cX7_hear 15 = .ok (.ifCond .ne 5, 3) := by decide +kernel
theorem dX7_hear_18 : decode cX7_hear 18 = .ok (.iconst (-1), 1) := by decide +kernel
theorem dX7_hear_19 : decode cX7_hear 19 = .ok (.ireturn, 1) := by decide +kernel
theorem dX7_hear_20 : decode cX7_hear 20 = .ok (.aload_n 0, 1) := by decide +kernel
theorem dX7_hear_21 : decode cX7_hear 21 = .ok (.aload_n 0, 1) := by decide +kernel
theorem dX7_hear_22 : decode cX7_hear 22 = .ok (.iload_n 1, 1) := by decide +kernel
theorem dX7_hear_23 : decode cX7_hear 23 = .ok (.invokevirtual 108, 3) := by decide +kernel
theorem dX7_hear_26 : decode cX7_hear 26 = .ok (.putfield 112, 3) := by decide +kernel
theorem dX7_hear_29 : decode cX7_hear 29 = .ok (.aload_n 0, 1) := by decide +kernel
theorem dX7_hear_30 : decode cX7_hear 30 = .ok (.iconst 0, 1) := by decide +kernel
theorem dX7_hear_31 : decode cX7_hear 31 = .ok (.putfield 70, 3) := by decide +kernel
theorem dX7_hear_34 : decode cX7_hear 34 = .ok (.aload_n 0, 1) := by decide +kernel
theorem dX7_hear_35 : decode cX7_hear 35 = .ok (.getfield 112, 3) := by decide +kernel
theorem dX7_hear_38 : decode cX7_hear 38 = .ok (.ifCond .ne 16, 3) := by decide +kernel
theorem dX7_hear_41 : decode cX7_hear 41 = .ok (.aload_n 0, 1) := by decide +kernel
theorem dX7_hear_42 : decode cX7_hear 42 = .ok (.getfield 37, 3) := by decide +kernel
theorem dX7_hear_45 : decode cX7_hear 45 = .ok (.iload_n 1, 1) := by decide +kernel
theorem dX7_hear_46 : decode cX7_hear 46 = .ok (.dup2, 1) := by decide +kernel
theorem dX7_hear_47 : decode cX7_hear 47 = .ok (.iaload, 1) := by decide +kernel
theorem dX7_hear_48 : decode cX7_hear 48 = .ok (.iconst 1, 1) := by decide +kernel
theorem dX7_hear_49 : decode cX7_hear 49 = .ok (.iadd, 1) := by decide +kernel
theorem dX7_hear_50 : decode cX7_hear 50 = .ok (.iastore, 1) := by decide +kernel
theorem dX7_hear_51 : decode cX7_hear 51 = .ok (.goto 13, 3) := by decide +kernel
theorem dX7_hear_54 : decode cX7_hear 54 = .ok (.aload_n 0, 1) := by decide +kernel
theorem dX7_hear_55 : decode cX7_hear 55 = .ok (.getfield 40, 3) := by decide +kernel
theorem dX7_hear_58 : decode cX7_hear 58 = .ok (.iload_n 1, 1) := by decide +kernel
theorem dX7_hear_59 : decode cX7_hear 59 = .ok (.dup2, 1) := by decide +kernel
theorem dX7_hear_60 : decode cX7_hear 60 = .ok (.iaload, 1) := by decide +kernel
theorem dX7_hear_61 : decode cX7_hear 61 = .ok (.iconst 1, 1) := by decide +kernel
theorem dX7_hear_62 : decode cX7_hear 62 = .ok (.iadd, 1) := by decide +kernel
theorem dX7_hear_63 : decode cX7_hear 63 = .ok (.iastore, 1) := by decide +kernel
theorem dX7_hear_64 : decode cX7_hear 64 = .ok (.aload_n 0, 1) := by decide +kernel
theorem dX7_hear_65 : decode cX7_hear 65 = .ok (.getfield 112, 3) := by decide +kernel
theorem dX7_hear_68 : decode cX7_hear 68 = .ok (.ireturn, 1) := by decide +kernel
set_option maxRecDepth 20000 in
theorem ggX7_tick_X7_forget : GoodIn wsX7_tick wsX7_forget := goodIn_r _ [15, 3, 16, 17, 18, 14, 19, 20, 4, 21, 22, 23, 42, 43, 44, 45, 46, 47, 48, 49, 50, 51, 52, 53, 54, 55, 56, 57, 58, 59, 60, 61, 62, 63, 64, 65] (by decide +kernel) (by decide +kernel)
set_option maxRecDepth 20000 in
theorem gX7_tick_X7_forget : GoodIn wsX7_tick (wsV RX7 94 RX7 yX7_forget wsX7_forget) := goodIn_app (goodIn_of _ (by decide +kernel)) ggX7_tick_X7_forget
set_option maxRecDepth 20000 in
theorem ggX7_tick_X7_send : GoodIn wsX7_tick wsX7_send := goodIn_r _ [27, 28, 29, 30, 31, 32, 33, 34, 35, 14, 36, 37, 38, 39, 40, 41, 42, 43, 44, 45, 46, 47, 48, 49, 50, 51, 52, 53, 54, 55, 56, 57, 58, 59, 60, 61, 62, 63, 64, 65] (by decide +kernel) (by decide +kernel)
set_option maxRecDepth 20000 in
theorem gX7_tick_X7_send : GoodIn wsX7_tick (wsV RX7 88 RX7 yX7_send wsX7_send) := goodIn_app (goodIn_of _ (by decide +kernel)) ggX7_tick_X7_send
theorem dX7_tick_0 : decode cX7_tick 0 = .ok (.iload_n 1, 1) := by decide +kernel
theorem dX7_tick_1 : decode cX7_tick 1 = .ok (.iconst 1, 1) := by decide +kernel
theorem dX7_tick_2 : decode cX7_tick 2 = .ok (.if_icmp .lt 10, 3) := by decide +kernel
theorem dX7_tick_5 : decode cX7_tick 5 = .ok (.iload_n 1, 1) := by decide +kernel
theorem dX7_tick_6 : decode cX7_tick 6 = .ok (.sipush 5000, 3) := by decide +kernel
theorem dX7_tick_9 : decode cX7_tick 9 = .ok (.if_icmp .le 5, 3) := by decide +kernel
theorem dX7_tick_12 : decode cX7_tick 12 = .ok (.iconst (-1), 1) := by decide +kernel
theorem dX7_tick_13 : decode cX7_tick 13 = .ok (.ireturn, 1) := by decide +kernel
theorem dX7_tick_14 : decode cX7_tick 14 = .ok (.iconst 0, 1) := by decide +kernel
theorem dX7_tick_15 : decode cX7_tick 15 = .ok (.istore_n 2, 1) := by decide +kernel
theorem dX7_tick_16 : decode cX7_tick 16 = .ok (.iconst 0, 1) := by decide +kernel
theorem dX7_tick_17 : decode cX7_tick 17 = .ok (.istore_n 3, 1) := by decide +kernel
theorem dX7_tick_18 : decode cX7_tick 18 = .ok (.iload_n 3, 1) := by decide +kernel
theorem dX7_tick_19 : decode cX7_tick 19 = .ok (.iload_n 1, 1) := by decide +kernel
theorem dX7_tick_20 : decode cX7_tick 20 = .ok (.if_icmp .ge 202, 3) := by decide +kernel
theorem dX7_tick_23 : decode cX7_tick 23 = .ok (.aload_n 0, 1) := by decide +kernel
theorem dX7_tick_24 : decode cX7_tick 24 = .ok (.aload_n 0, 1) := by decide +kernel
theorem dX7_tick_25 : decode cX7_tick 25 = .ok (.getfield 115, 3) := by decide +kernel
theorem dX7_tick_28 : decode cX7_tick 28 = .ok (.iconst 1, 1) := by decide +kernel
theorem dX7_tick_29 : decode cX7_tick 29 = .ok (.iadd, 1) := by decide +kernel
theorem dX7_tick_30 : decode cX7_tick 30 = .ok (.ldc 118, 2) := by decide +kernel
theorem dX7_tick_32 : decode cX7_tick 32 = .ok (.iand, 1) := by decide +kernel
theorem dX7_tick_33 : decode cX7_tick 33 = .ok (.putfield 115, 3) := by decide +kernel
theorem dX7_tick_36 : decode cX7_tick 36 = .ok (.aload_n 0, 1) := by decide +kernel
theorem dX7_tick_37 : decode cX7_tick 37 = .ok (.getfield 91, 3) := by decide +kernel
theorem dX7_tick_40 : decode cX7_tick 40 = .ok (.iconst 1, 1) := by decide +kernel
theorem dX7_tick_41 : decode cX7_tick 41 = .ok (.isub, 1) := by decide +kernel
theorem dX7_tick_42 : decode cX7_tick 42 = .ok (.istore 4, 2) := by decide +kernel
theorem dX7_tick_44 : decode cX7_tick 44 = .ok (.iload 4, 2) := by decide +kernel
theorem dX7_tick_46 : decode cX7_tick 46 = .ok (.ifCond .lt 36, 3) := by decide +kernel
theorem dX7_tick_49 : decode cX7_tick 49 = .ok (.aload_n 0, 1) := by decide +kernel
theorem dX7_tick_50 : decode cX7_tick 50 = .ok (.getfield 52, 3) := by decide +kernel
theorem dX7_tick_53 : decode cX7_tick 53 = .ok (.iload 4, 2) := by decide +kernel
theorem dX7_tick_55 : decode cX7_tick 55 = .ok (.dup2, 1) := by decide +kernel
theorem dX7_tick_56 : decode cX7_tick 56 = .ok (.iaload, 1) := by decide +kernel
theorem dX7_tick_57 : decode cX7_tick 57 = .ok (.iconst 1, 1) := by decide +kernel
theorem dX7_tick_58 : decode cX7_tick 58 = .ok (.isub, 1) := by decide +kernel
theorem dX7_tick_59 : decode cX7_tick 59 = .ok (.iastore, 1) := by decide +kernel
theorem dX7_tick_60 : decode cX7_tick 60 = .ok (.aload_n 0, 1) := by decide +kernel
theorem dX7_tick_61 : decode cX7_tick 61 = .ok (.getfield 52, 3) := by decide +kernel
theorem dX7_tick_64 : decode cX7_tick 64 = .ok (.iload 4, 2) := by decide +kernel
theorem dX7_tick_66 : decode cX7_tick 66 = .ok (.iaload, 1) := by decide +kernel
theorem dX7_tick_67 : decode cX7_tick 67 = .ok (.ifCond .ne 9, 3) := by decide +kernel
theorem dX7_tick_70 : decode cX7_tick 70 = .ok (.aload_n 0, 1) := by decide +kernel
theorem dX7_tick_71 : decode cX7_tick 71 = .ok (.iload 4, 2) := by decide +kernel
theorem dX7_tick_73 : decode cX7_tick 73 = .ok (.invokevirtual 94, 3) := by decide +kernel
theorem dX7_tick_76 : decode cX7_tick 76 = .ok (.iinc 4 (-1), 3) := by decide +kernel
theorem dX7_tick_79 : decode cX7_tick 79 = .ok (.goto (-35), 3) := by decide +kernel
theorem dX7_tick_82 : decode cX7_tick 82 = .ok (.iconst 0, 1) := by decide +kernel
theorem dX7_tick_83 : decode cX7_tick 83 = .ok (.istore 4, 2) := by decide +kernel
theorem dX7_tick_85 : decode cX7_tick 85 = .ok (.iload 4, 2) := by decide +kernel
theorem dX7_tick_87 : decode cX7_tick 87 = .ok (.iconst 4, 1) := by decide +kernel
theorem dX7_tick_88 : decode cX7_tick 88 = .ok (.if_icmp .ge 128, 3) := by decide +kernel
theorem dX7_tick_91 : decode cX7_tick 91 = .ok (.aload_n 0, 1) := by decide +kernel
theorem dX7_tick_92 : decode cX7_tick 92 = .ok (.getfield 30, 3) := by decide +kernel
theorem dX7_tick_95 : decode cX7_tick 95 = .ok (.iload 4, 2) := by decide +kernel
theorem dX7_tick_97 : decode cX7_tick 97 = .ok (.baload, 1) := by decide +kernel
theorem dX7_tick_98 : decode cX7_tick 98 = .ok (.ifCond .ne 6, 3) := by decide +kernel
theorem dX7_tick_101 : decode cX7_tick 101 = .ok (.goto 109, 3) := by decide +kernel
theorem dX7_tick_104 : decode cX7_tick 104 = .ok (.aload_n 0, 1) := by decide +kernel
theorem dX7_tick_105 : decode cX7_tick 105 = .ok (.getfield 43, 3) := by decide +kernel
theorem dX7_tick_108 : decode cX7_tick 108 = .ok (.iload 4, 2) := by decide +kernel
theorem dX7_tick_110 : decode cX7_tick 110 = .ok (.dup2, 1) := by decide +kernel
theorem dX7_tick_111 : decode cX7_tick 111 = .ok (.iaload, 1) := by decide +kernel
theorem dX7_tick_112 : decode cX7_tick 112 = .ok (.iconst 1, 1) := by decide +kernel
theorem dX7_tick_113 : decode cX7_tick 113 = .ok (.isub, 1) := by decide +kernel
theorem dX7_tick_114 : decode cX7_tick 114 = .ok (.iastore, 1) := by decide +kernel
theorem dX7_tick_115 : decode cX7_tick 115 = .ok (.aload_n 0, 1) := by decide +kernel
theorem dX7_tick_116 : decode cX7_tick 116 = .ok (.getfield 43, 3) := by decide +kernel
theorem dX7_tick_119 : decode cX7_tick 119 = .ok (.iload 4, 2) := by decide +kernel
theorem dX7_tick_121 : decode cX7_tick 121 = .ok (.iaload, 1) := by decide +kernel
theorem dX7_tick_122 : decode cX7_tick 122 = .ok (.ifCond .le 6, 3) := by decide +kernel
theorem dX7_tick_125 : decode cX7_tick 125 = .ok (.goto 85, 3) := by decide +kernel
theorem dX7_tick_128 : decode cX7_tick 128 = .ok (.aload_n 0, 1) := by decide +kernel
theorem dX7_tick_129 : decode cX7_tick 129 = .ok (.getfield 20, 3) := by decide +kernel
theorem dX7_tick_132 : decode cX7_tick 132 = .ok (.aload_n 0, 1) := by decide +kernel
theorem dX7_tick_133 : decode cX7_tick 133 = .ok (.getfield 24, 3) := by decide +kernel
theorem dX7_tick_136 : decode cX7_tick 136 = .ok (.imul, 1) := by decide +kernel
theorem dX7_tick_137 : decode cX7_tick 137 = .ok (.iconst 1, 1) := by decide +kernel
theorem dX7_tick_138 : decode cX7_tick 138 = .ok (.iadd, 1) := by decide +kernel
theorem dX7_tick_139 : decode cX7_tick 139 = .ok (.istore 5, 2) := by decide +kernel
theorem dX7_tick_141 : decode cX7_tick 141 = .ok (.aload_n 0, 1) := by decide +kernel
theorem dX7_tick_142 : decode cX7_tick 142 = .ok (.iload 4, 2) := by decide +kernel
theorem dX7_tick_144 : decode cX7_tick 144 = .ok (.iload 5, 2) := by decide +kernel
theorem dX7_tick_146 : decode cX7_tick 146 = .ok (.ldc 119, 2) := by decide +kernel
theorem dX7_tick_148 : decode cX7_tick 148 = .ok (.if_icmp .le 8, 3) := by decide +kernel
theorem dX7_tick_151 : decode cX7_tick 151 = .ok (.ldc 119, 2) := by decide +kernel
theorem dX7_tick_153 : decode cX7_tick 153 = .ok (.goto 5, 3) := by decide +kernel
theorem dX7_tick_156 : decode cX7_tick 156 = .ok (.iload 5, 2) := by decide +kernel
theorem dX7_tick_158 : decode cX7_tick 158 = .ok (.invokevirtual 88, 3) := by decide +kernel
theorem dX7_tick_161 : decode cX7_tick 161 = .ok (.iinc 2 1, 3) := by decide +kernel
theorem dX7_tick_164 : decode cX7_tick 164 = .ok (.aload_n 0, 1) := by decide +kernel
theorem dX7_tick_165 : decode cX7_tick 165 = .ok (.getfield 46, 3) := by decide +kernel
theorem dX7_tick_168 : decode cX7_tick 168 = .ok (.iload 4, 2) := by decide +kernel
theorem dX7_tick_170 : decode cX7_tick 170 = .ok (.iaload, 1) := by decide +kernel
theorem dX7_tick_171 : decode cX7_tick 171 = .ok (.ifCond .le 14, 3) := by decide +kernel
theorem dX7_tick_174 : decode cX7_tick 174 = .ok (.aload_n 0, 1) := by decide +kernel
theorem dX7_tick_175 : decode cX7_tick 175 = .ok (.getfield 46, 3) := by decide +kernel
theorem dX7_tick_178 : decode cX7_tick 178 = .ok (.iload 4, 2) := by decide +kernel
theorem dX7_tick_180 : decode cX7_tick 180 = .ok (.dup2, 1) := by decide +kernel
theorem dX7_tick_181 : decode cX7_tick 181 = .ok (.iaload, 1) := by decide +kernel
theorem dX7_tick_182 : decode cX7_tick 182 = .ok (.iconst 1, 1) := by decide +kernel
theorem dX7_tick_183 : decode cX7_tick 183 = .ok (.isub, 1) := by decide +kernel
theorem dX7_tick_184 : decode cX7_tick 184 = .ok (.iastore, 1) := by decide +kernel
theorem dX7_tick_185 : decode cX7_tick 185 = .ok (.aload_n 0, 1) := by decide +kernel
theorem dX7_tick_186 : decode cX7_tick 186 = .ok (.getfield 43, 3) := by decide +kernel
theorem dX7_tick_189 : decode cX7_tick 189 = .ok (.iload 4, 2) := by decide +kernel
theorem dX7_tick_191 : decode cX7_tick 191 = .ok (.aload_n 0, 1) := by decide +kernel
theorem dX7_tick_192 : decode cX7_tick 192 = .ok (.getfield 46, 3) := by decide +kernel
theorem dX7_tick_195 : decode cX7_tick 195 = .ok (.iload 4, 2) := by decide +kernel
theorem dX7_tick_197 : decode cX7_tick 197 = .ok (.iaload, 1) := by decide +kernel
theorem dX7_tick_198 : decode cX7_tick 198 = .ok (.ifCond .le 7, 3) := by decide +kernel
theorem dX7_tick_201 : decode cX7_tick 201 = .ok (.iconst 1, 1) := by decide +kernel
theorem dX7_tick_202 : decode cX7_tick 202 = .ok (.goto 7, 3) := by decide +kernel
theorem dX7_tick_205 : decode cX7_tick 205 = .ok (.aload_n 0, 1) := by decide +kernel
theorem dX7_tick_206 : decode cX7_tick 206 = .ok (.getfield 20, 3) := by decide +kernel
theorem dX7_tick_209 : decode cX7_tick 209 = .ok (.iastore, 1) := by decide +kernel
theorem dX7_tick_210 : decode cX7_tick 210 = .ok (.iinc 4 1, 3) := by decide +kernel
theorem dX7_tick_213 : decode cX7_tick 213 = .ok (.goto (-128), 3) := by decide +kernel
theorem dX7_tick_216 : decode cX7_tick 216 = .ok (.iinc 3 1, 3) := by decide +kernel
theorem dX7_tick_219 : decode cX7_tick 219 = .ok (.goto (-201), 3) := by decide +kernel
theorem dX7_tick_222 : decode cX7_tick 222 = .ok (.iload_n 2, 1) := by decide +kernel
theorem dX7_tick_223 : decode cX7_tick 223 = .ok (.ireturn, 1) := by decide +kernel
theorem dX7_about_0 : decode cX7_about 0 = .ok (.iload_n 1, 1) := by decide +kernel
theorem dX7_about_1 : decode cX7_about 1 = .ok (.ifCond .lt 8, 3) := by decide +kernel
theorem dX7_about_4 : decode cX7_about 4 = .ok (.iload_n 1, 1) := by decide +kernel
theorem dX7_about_5 : decode cX7_about 5 = .ok (.iconst 4, 1) := by decide +kernel
theorem dX7_about_6 : decode cX7_about 6 = .ok (.if_icmp .lt 5, 3) := by decide +kernel
theorem dX7_about_9 : decode cX7_about 9 = .ok (.iconst (-1), 1) := by decide +kernel
theorem dX7_about_10 : decode cX7_about 10 = .ok (.ireturn, 1) := by decide +kernel
theorem dX7_about_11 : decode cX7_about 11 = .ok (.iconst 0, 1) := by decide +kernel
theorem dX7_about_12 : decode cX7_about 12 = .ok (.istore_n 3, 1) := by decide +kernel
theorem dX7_about_13 : decode cX7_about 13 = .ok (.iconst 0, 1) := by decide +kernel
theorem dX7_about_14 : decode cX7_about 14 = .ok (.istore 4, 2) := by decide +kernel
theorem dX7_about_16 : decode cX7_about 16 = .ok (.iload 4, 2) := by decide +kernel
theorem dX7_about_18 : decode cX7_about 18 = .ok (.aload_n 0, 1) := by decide +kernel
theorem dX7_about_19 : decode cX7_about 19 = .ok (.getfield 91, 3) := by decide +kernel
theorem dX7_about_22 : decode cX7_about 22 = .ok (.if_icmp .ge 28, 3) := by decide +kernel
theorem dX7_about_25 : decode cX7_about 25 = .ok (.iload_n 3, 1) := by decide +kernel
theorem dX7_about_26 : decode cX7_about 26 = .ok (.aload_n 0, 1) := by decide +kernel
theorem dX7_about_27 : decode cX7_about 27 = .ok (.getfield 49, 3) := by decide +kernel
theorem dX7_about_30 : decode cX7_about 30 = .ok (.iload 4, 2) := by decide +kernel
theorem dX7_about_32 : decode cX7_about 32 = .ok (.iaload, 1) := by decide +kernel
theorem dX7_about_33 : decode cX7_about 33 = .ok (.iload_n 1, 1) := by decide +kernel
theorem dX7_about_34 : decode cX7_about 34 = .ok (.if_icmp .ne 7, 3) := by decide +kernel
theorem dX7_about_37 : decode cX7_about 37 = .ok (.iconst 1, 1) := by decide +kernel
theorem dX7_about_38 : decode cX7_about 38 = .ok (.goto 4, 3) := by decide +kernel
theorem dX7_about_41 : decode cX7_about 41 = .ok (.iconst 0, 1) := by decide +kernel
theorem dX7_about_42 : decode cX7_about 42 = .ok (.iadd, 1) := by decide +kernel
theorem dX7_about_43 : decode cX7_about 43 = .ok (.istore_n 3, 1) := by decide +kernel
theorem dX7_about_44 : decode cX7_about 44 = .ok (.iinc 4 1, 3) := by decide +kernel
theorem dX7_about_47 : decode cX7_about 47 = .ok (.goto (-31), 3) := by decide +kernel
theorem dX7_about_50 : decode cX7_about 50 = .ok (.iload_n 2, 1) := by decide +kernel
theorem dX7_about_51 : decode cX7_about 51 = .ok (.tableswitch 93 0 6 #[41, 56, 63, 70, 77, 79, 86], 41) := by decide +kernel
theorem dX7_about_92 : decode cX7_about 92 = .ok (.aload_n 0, 1) := by decide +kernel
theorem dX7_about_93 : decode cX7_about 93 = .ok (.getfield 30, 3) := by decide +kernel
theorem dX7_about_96 : decode cX7_about 96 = .ok (.iload_n 1, 1) := by decide +kernel
theorem dX7_about_97 : decode cX7_about 97 = .ok (.baload, 1) := by decide +kernel
theorem dX7_about_98 : decode cX7_about 98 = .ok (.ifCond .eq 7, 3) := by decide +kernel
theorem dX7_about_101 : decode cX7_about 101 = .ok (.iconst 1, 1) := by decide +kernel
theorem dX7_about_102 : decode cX7_about 102 = .ok (.goto 4, 3) := by decide +kernel
theorem dX7_about_105 : decode cX7_about 105 = .ok (.iconst 0, 1) := by decide +kernel
theorem dX7_about_106 : decode cX7_about 106 = .ok (.ireturn, 1) := by decide +kernel
theorem dX7_about_107 : decode cX7_about 107 = .ok (.aload_n 0, 1) := by decide +kernel
theorem dX7_about_108 : decode cX7_about 108 = .ok (.getfield 34, 3) := by decide +kernel
theorem dX7_about_111 : decode cX7_about 111 = .ok (.iload_n 1, 1) := by decide +kernel
theorem dX7_about_112 : decode cX7_about 112 = .ok (.iaload, 1) := by decide +kernel
theorem dX7_about_113 : decode cX7_about 113 = .ok (.ireturn, 1) := by decide +kernel
theorem dX7_about_114 : decode cX7_about 114 = .ok (.aload_n 0, 1) := by decide +kernel
theorem dX7_about_115 : decode cX7_about 115 = .ok (.getfield 37, 3) := by decide +kernel
theorem dX7_about_118 : decode cX7_about 118 = .ok (.iload_n 1, 1) := by decide +kernel
theorem dX7_about_119 : decode cX7_about 119 = .ok (.iaload, 1) := by decide +kernel
theorem dX7_about_120 : decode cX7_about 120 = .ok (.ireturn, 1) := by decide +kernel
theorem dX7_about_121 : decode cX7_about 121 = .ok (.aload_n 0, 1) := by decide +kernel
theorem dX7_about_122 : decode cX7_about 122 = .ok (.getfield 40, 3) := by decide +kernel
theorem dX7_about_125 : decode cX7_about 125 = .ok (.iload_n 1, 1) := by decide +kernel
theorem dX7_about_126 : decode cX7_about 126 = .ok (.iaload, 1) := by decide +kernel
theorem dX7_about_127 : decode cX7_about 127 = .ok (.ireturn, 1) := by decide +kernel
theorem dX7_about_128 : decode cX7_about 128 = .ok (.iload_n 3, 1) := by decide +kernel
theorem dX7_about_129 : decode cX7_about 129 = .ok (.ireturn, 1) := by decide +kernel
theorem dX7_about_130 : decode cX7_about 130 = .ok (.aload_n 0, 1) := by decide +kernel
theorem dX7_about_131 : decode cX7_about 131 = .ok (.getfield 43, 3) := by decide +kernel
theorem dX7_about_134 : decode cX7_about 134 = .ok (.iload_n 1, 1) := by decide +kernel
theorem dX7_about_135 : decode cX7_about 135 = .ok (.iaload, 1) := by decide +kernel
theorem dX7_about_136 : decode cX7_about 136 = .ok (.ireturn, 1) := by decide +kernel
theorem dX7_about_137 : decode cX7_about 137 = .ok (.aload_n 0, 1) := by decide +kernel
theorem dX7_about_138 : decode cX7_about 138 = .ok (.getfield 46, 3) := by decide +kernel
theorem dX7_about_141 : decode cX7_about 141 = .ok (.iload_n 1, 1) := by decide +kernel
theorem dX7_about_142 : decode cX7_about 142 = .ok (.iaload, 1) := by decide +kernel
theorem dX7_about_143 : decode cX7_about 143 = .ok (.ireturn, 1) := by decide +kernel
theorem dX7_about_144 : decode cX7_about 144 = .ok (.iconst (-1), 1) := by decide +kernel
theorem dX7_about_145 : decode cX7_about 145 = .ok (.ireturn, 1) := by decide +kernel
theorem dX7_count_0 : decode cX7_count 0 = .ok (.iload_n 1, 1) := by decide +kernel
theorem dX7_count_1 : decode cX7_count 1 = .ok (.tableswitch 69 0 5 #[39, 44, 49, 54, 59, 64], 39) := by decide +kernel
theorem dX7_count_40 : decode cX7_count 40 = .ok (.aload_n 0, 1) := by decide +kernel
theorem dX7_count_41 : decode cX7_count 41 = .ok (.getfield 91, 3) := by decide +kernel
theorem dX7_count_44 : decode cX7_count 44 = .ok (.ireturn, 1) := by decide +kernel
theorem dX7_count_45 : decode cX7_count 45 = .ok (.aload_n 0, 1) := by decide +kernel
theorem dX7_count_46 : decode cX7_count 46 = .ok (.getfield 115, 3) := by decide +kernel
theorem dX7_count_49 : decode cX7_count 49 = .ok (.ireturn, 1) := by decide +kernel
theorem dX7_count_50 : decode cX7_count 50 = .ok (.aload_n 0, 1) := by decide +kernel
theorem dX7_count_51 : decode cX7_count 51 = .ok (.getfield 112, 3) := by decide +kernel
theorem dX7_count_54 : decode cX7_count 54 = .ok (.ireturn, 1) := by decide +kernel
theorem dX7_count_55 : decode cX7_count 55 = .ok (.aload_n 0, 1) := by decide +kernel
theorem dX7_count_56 : decode cX7_count 56 = .ok (.getfield 70, 3) := by decide +kernel
theorem dX7_count_59 : decode cX7_count 59 = .ok (.ireturn, 1) := by decide +kernel
theorem dX7_count_60 : decode cX7_count 60 = .ok (.aload_n 0, 1) := by decide +kernel
theorem dX7_count_61 : decode cX7_count 61 = .ok (.getfield 67, 3) := by decide +kernel
theorem dX7_count_64 : decode cX7_count 64 = .ok (.ireturn, 1) := by decide +kernel
theorem dX7_count_65 : decode cX7_count 65 = .ok (.aload_n 0, 1) := by decide +kernel
theorem dX7_count_66 : decode cX7_count 66 = .ok (.getfield 77, 3) := by decide +kernel
theorem dX7_count_69 : decode cX7_count 69 = .ok (.ireturn, 1) := by decide +kernel
theorem dX7_count_70 : decode cX7_count 70 = .ok (.iconst (-1), 1) := by decide +kernel
theorem dX7_count_71 : decode cX7_count 71 = .ok (.ireturn, 1) := by decide +kernel
theorem dX7_sent_0 : decode cX7_sent 0 = .ok (.iload_n 1, 1) := by decide +kernel
theorem dX7_sent_1 : decode cX7_sent 1 = .ok (.ifCond .lt 24, 3) := by decide +kernel
theorem dX7_sent_4 : decode cX7_sent 4 = .ok (.iload_n 1, 1) := by decide +kernel
theorem dX7_sent_5 : decode cX7_sent 5 = .ok (.aload_n 0, 1) := by decide +kernel
theorem dX7_sent_6 : decode cX7_sent 6 = .ok (.getfield 77, 3) := by decide +kernel
theorem dX7_sent_9 : decode cX7_sent 9 = .ok (.if_icmp .ge 16, 3) := by decide +kernel
theorem dX7_sent_12 : decode cX7_sent 12 = .ok (.aload_n 0, 1) := by decide +kernel
theorem dX7_sent_13 : decode cX7_sent 13 = .ok (.getfield 64, 3) := by decide +kernel
theorem dX7_sent_16 : decode cX7_sent 16 = .ok (.iload_n 1, 1) := by decide +kernel
theorem dX7_sent_17 : decode cX7_sent 17 = .ok (.baload, 1) := by decide +kernel
theorem dX7_sent_18 : decode cX7_sent 18 = .ok (.sipush 255, 3) := by decide +kernel
theorem dX7_sent_21 : decode cX7_sent 21 = .ok (.iand, 1) := by decide +kernel
theorem dX7_sent_22 : decode cX7_sent 22 = .ok (.goto 4, 3) := by decide +kernel
theorem dX7_sent_25 : decode cX7_sent 25 = .ok (.iconst (-1), 1) := by decide +kernel
theorem dX7_sent_26 : decode cX7_sent 26 = .ok (.ireturn, 1) := by decide +kernel
theorem dX7_neighbor_0 : decode cX7_neighbor 0 = .ok (.iload_n 1, 1) := by decide +kernel
theorem dX7_neighbor_1 : decode cX7_neighbor 1 = .ok (.ifCond .lt 20, 3) := by decide +kernel
theorem dX7_neighbor_4 : decode cX7_neighbor 4 = .ok (.iload_n 1, 1) := by decide +kernel
theorem dX7_neighbor_5 : decode cX7_neighbor 5 = .ok (.aload_n 0, 1) := by decide +kernel
theorem dX7_neighbor_6 : decode cX7_neighbor 6 = .ok (.getfield 91, 3) := by decide +kernel
theorem dX7_neighbor_9 : decode cX7_neighbor 9 = .ok (.if_icmp .ge 12, 3) := by decide +kernel
theorem dX7_neighbor_12 : decode cX7_neighbor 12 = .ok (.iload_n 2, 1) := by decide +kernel
theorem dX7_neighbor_13 : decode cX7_neighbor 13 = .ok (.ifCond .lt 8, 3) := by decide +kernel
theorem dX7_neighbor_16 : decode cX7_neighbor 16 = .ok (.iload_n 2, 1) := by decide +kernel
theorem dX7_neighbor_17 : decode cX7_neighbor 17 = .ok (.iconst 3, 1) := by decide +kernel
theorem dX7_neighbor_18 : decode cX7_neighbor 18 = .ok (.if_icmp .le 5, 3) := by decide +kernel
theorem dX7_neighbor_21 : decode cX7_neighbor 21 = .ok (.iconst (-1), 1) := by decide +kernel
theorem dX7_neighbor_22 : decode cX7_neighbor 22 = .ok (.ireturn, 1) := by decide +kernel
theorem dX7_neighbor_23 : decode cX7_neighbor 23 = .ok (.iload_n 2, 1) := by decide +kernel
theorem dX7_neighbor_24 : decode cX7_neighbor 24 = .ok (.ifCond .ne 10, 3) := by decide +kernel
theorem dX7_neighbor_27 : decode cX7_neighbor 27 = .ok (.aload_n 0, 1) := by decide +kernel
theorem dX7_neighbor_28 : decode cX7_neighbor 28 = .ok (.getfield 49, 3) := by decide +kernel
theorem dX7_neighbor_31 : decode cX7_neighbor 31 = .ok (.iload_n 1, 1) := by decide +kernel
theorem dX7_neighbor_32 : decode cX7_neighbor 32 = .ok (.iaload, 1) := by decide +kernel
theorem dX7_neighbor_33 : decode cX7_neighbor 33 = .ok (.ireturn, 1) := by decide +kernel
theorem dX7_neighbor_34 : decode cX7_neighbor 34 = .ok (.iload_n 2, 1) := by decide +kernel
theorem dX7_neighbor_35 : decode cX7_neighbor 35 = .ok (.iconst 1, 1) := by decide +kernel
theorem dX7_neighbor_36 : decode cX7_neighbor 36 = .ok (.if_icmp .ne 10, 3) := by decide +kernel
theorem dX7_neighbor_39 : decode cX7_neighbor 39 = .ok (.aload_n 0, 1) := by decide +kernel
theorem dX7_neighbor_40 : decode cX7_neighbor 40 = .ok (.getfield 52, 3) := by decide +kernel
theorem dX7_neighbor_43 : decode cX7_neighbor 43 = .ok (.iload_n 1, 1) := by decide +kernel
theorem dX7_neighbor_44 : decode cX7_neighbor 44 = .ok (.iaload, 1) := by decide +kernel
theorem dX7_neighbor_45 : decode cX7_neighbor 45 = .ok (.ireturn, 1) := by decide +kernel
theorem dX7_neighbor_46 : decode cX7_neighbor 46 = .ok (.iload_n 2, 1) := by decide +kernel
theorem dX7_neighbor_47 : decode cX7_neighbor 47 = .ok (.iconst 2, 1) := by decide +kernel
theorem dX7_neighbor_48 : decode cX7_neighbor 48 = .ok (.if_icmp .ne 10, 3) := by decide +kernel
theorem dX7_neighbor_51 : decode cX7_neighbor 51 = .ok (.aload_n 0, 1) := by decide +kernel
theorem dX7_neighbor_52 : decode cX7_neighbor 52 = .ok (.getfield 55, 3) := by decide +kernel
theorem dX7_neighbor_55 : decode cX7_neighbor 55 = .ok (.iload_n 1, 1) := by decide +kernel
theorem dX7_neighbor_56 : decode cX7_neighbor 56 = .ok (.iaload, 1) := by decide +kernel
theorem dX7_neighbor_57 : decode cX7_neighbor 57 = .ok (.ireturn, 1) := by decide +kernel
theorem dX7_neighbor_58 : decode cX7_neighbor 58 = .ok (.iconst 0, 1) := by decide +kernel
theorem dX7_neighbor_59 : decode cX7_neighbor 59 = .ok (.istore_n 3, 1) := by decide +kernel
theorem dX7_neighbor_60 : decode cX7_neighbor 60 = .ok (.iconst 1, 1) := by decide +kernel
theorem dX7_neighbor_61 : decode cX7_neighbor 61 = .ok (.istore 4, 2) := by decide +kernel
theorem dX7_neighbor_63 : decode cX7_neighbor 63 = .ok (.iload 4, 2) := by decide +kernel
theorem dX7_neighbor_65 : decode cX7_neighbor 65 = .ok (.bipush 9, 2) := by decide +kernel
theorem dX7_neighbor_67 : decode cX7_neighbor 67 = .ok (.if_icmp .ge 42, 3) := by decide +kernel
theorem dX7_neighbor_70 : decode cX7_neighbor 70 = .ok (.iload_n 3, 1) := by decide +kernel
theorem dX7_neighbor_71 : decode cX7_neighbor 71 = .ok (.iload 4, 2) := by decide +kernel
theorem dX7_neighbor_73 : decode cX7_neighbor 73 = .ok (.iconst 3, 1) := by decide +kernel
theorem dX7_neighbor_74 : decode cX7_neighbor 74 = .ok (.if_icmp .eq 26, 3) := by decide +kernel
theorem dX7_neighbor_77 : decode cX7_neighbor 77 = .ok (.aload_n 0, 1) := by decide +kernel
theorem dX7_neighbor_78 : decode cX7_neighbor 78 = .ok (.getfield 61, 3) := by decide +kernel
theorem dX7_neighbor_81 : decode cX7_neighbor 81 = .ok (.bipush 9, 2) := by decide +kernel
theorem dX7_neighbor_83 : decode cX7_neighbor 83 = .ok (.iload_n 1, 1) := by decide +kernel
theorem dX7_neighbor_84 : decode cX7_neighbor 84 = .ok (.imul, 1) := by decide +kernel
theorem dX7_neighbor_85 : decode cX7_neighbor 85 = .ok (.iload 4, 2) := by decide +kernel
theorem dX7_neighbor_87 : decode cX7_neighbor 87 = .ok (.iadd, 1) := by decide +kernel
theorem dX7_neighbor_88 : decode cX7_neighbor 88 = .ok (.iaload, 1) := by decide +kernel
theorem dX7_neighbor_89 : decode cX7_neighbor 89 = .ok (.iconst (-1), 1) := by decide +kernel
theorem dX7_neighbor_90 : decode cX7_neighbor 90 = .ok (.if_icmp .eq 10, 3) := by decide +kernel
theorem dX7_neighbor_93 : decode cX7_neighbor 93 = .ok (.iconst 1, 1) := by decide +kernel
theorem dX7_neighbor_94 : decode cX7_neighbor 94 = .ok (.iload 4, 2) := by decide +kernel
theorem dX7_neighbor_96 : decode cX7_neighbor 96 = .ok (.ishl, 1) := by decide +kernel
theorem dX7_neighbor_97 : decode cX7_neighbor 97 = .ok (.goto 4, 3) := by decide +kernel
theorem dX7_neighbor_100 : decode cX7_neighbor 100 = .ok (.iconst 0, 1) := by decide +kernel
theorem dX7_neighbor_101 : decode cX7_neighbor 101 = .ok (.ior, 1) := by decide +kernel
theorem dX7_neighbor_102 : decode cX7_neighbor 102 = .ok (.istore_n 3, 1) := by decide +kernel
theorem dX7_neighbor_103 : decode cX7_neighbor 103 = .ok (.iinc 4 1, 3) := by decide +kernel
theorem dX7_neighbor_106 : decode cX7_neighbor 106 = .ok (.goto (-43), 3) := by decide +kernel
theorem dX7_neighbor_109 : decode cX7_neighbor 109 = .ok (.iload_n 3, 1) := by decide +kernel
theorem dX7_neighbor_110 : decode cX7_neighbor 110 = .ok (.ireturn, 1) := by decide +kernel
theorem dX7_content_0 : decode cX7_content 0 = .ok (.iload_n 1, 1) := by decide +kernel
theorem dX7_content_1 : decode cX7_content 1 = .ok (.ifCond .lt 27, 3) := by decide +kernel
theorem dX7_content_4 : decode cX7_content 4 = .ok (.iload_n 1, 1) := by decide +kernel
theorem dX7_content_5 : decode cX7_content 5 = .ok (.aload_n 0, 1) := by decide +kernel
theorem dX7_content_6 : decode cX7_content 6 = .ok (.getfield 91, 3) := by decide +kernel
theorem dX7_content_9 : decode cX7_content 9 = .ok (.if_icmp .ge 19, 3) := by decide +kernel
theorem dX7_content_12 : decode cX7_content 12 = .ok (.iload_n 2, 1) := by decide +kernel
theorem dX7_content_13 : decode cX7_content 13 = .ok (.iconst 1, 1) := by decide +kernel
theorem dX7_content_14 : decode cX7_content 14 = .ok (.if_icmp .lt 14, 3) := by decide +kernel
theorem dX7_content_17 : decode cX7_content 17 = .ok (.iload_n 2, 1) := by decide +kernel
theorem dX7_content_18 : decode cX7_content 18 = .ok (.bipush 9, 2) := by decide +kernel
theorem dX7_content_20 : decode cX7_content 20 = .ok (.if_icmp .ge 8, 3) := by decide +kernel
theorem dX7_content_23 : decode cX7_content 23 = .ok (.iload_n 2, 1) := by decide +kernel
theorem dX7_content_24 : decode cX7_content 24 = .ok (.iconst 3, 1) := by decide +kernel
theorem dX7_content_25 : decode cX7_content 25 = .ok (.if_icmp .ne 5, 3) := by decide +kernel
theorem dX7_content_28 : decode cX7_content 28 = .ok (.iconst (-1), 1) := by decide +kernel
theorem dX7_content_29 : decode cX7_content 29 = .ok (.ireturn, 1) := by decide +kernel
theorem dX7_content_30 : decode cX7_content 30 = .ok (.aload_n 0, 1) := by decide +kernel
theorem dX7_content_31 : decode cX7_content 31 = .ok (.getfield 61, 3) := by decide +kernel
theorem dX7_content_34 : decode cX7_content 34 = .ok (.bipush 9, 2) := by decide +kernel
theorem dX7_content_36 : decode cX7_content 36 = .ok (.iload_n 1, 1) := by decide +kernel
theorem dX7_content_37 : decode cX7_content 37 = .ok (.imul, 1) := by decide +kernel
theorem dX7_content_38 : decode cX7_content 38 = .ok (.iload_n 2, 1) := by decide +kernel
theorem dX7_content_39 : decode cX7_content 39 = .ok (.iadd, 1) := by decide +kernel
theorem dX7_content_40 : decode cX7_content 40 = .ok (.iaload, 1) := by decide +kernel
theorem dX7_content_41 : decode cX7_content 41 = .ok (.istore 4, 2) := by decide +kernel
theorem dX7_content_43 : decode cX7_content 43 = .ok (.iload_n 3, 1) := by decide +kernel
theorem dX7_content_44 : decode cX7_content 44 = .ok (.iconst (-1), 1) := by decide +kernel
theorem dX7_content_45 : decode cX7_content 45 = .ok (.if_icmp .eq 9, 3) := by decide +kernel
theorem dX7_content_48 : decode cX7_content 48 = .ok (.iload 4, 2) := by decide +kernel
theorem dX7_content_50 : decode cX7_content 50 = .ok (.iconst (-1), 1) := by decide +kernel
theorem dX7_content_51 : decode cX7_content 51 = .ok (.if_icmp .ne 6, 3) := by decide +kernel
theorem dX7_content_54 : decode cX7_content 54 = .ok (.iload 4, 2) := by decide +kernel
theorem dX7_content_56 : decode cX7_content 56 = .ok (.ireturn, 1) := by decide +kernel
theorem dX7_content_57 : decode cX7_content 57 = .ok (.iload_n 3, 1) := by decide +kernel
theorem dX7_content_58 : decode cX7_content 58 = .ok (.ifCond .lt 32, 3) := by decide +kernel
theorem dX7_content_61 : decode cX7_content 61 = .ok (.iload_n 3, 1) := by decide +kernel
theorem dX7_content_62 : decode cX7_content 62 = .ok (.iload 4, 2) := by decide +kernel
theorem dX7_content_64 : decode cX7_content 64 = .ok (.if_icmp .ge 26, 3) := by decide +kernel
theorem dX7_content_67 : decode cX7_content 67 = .ok (.aload_n 0, 1) := by decide +kernel
theorem dX7_content_68 : decode cX7_content 68 = .ok (.getfield 58, 3) := by decide +kernel
theorem dX7_content_71 : decode cX7_content 71 = .ok (.bipush 9, 2) := by decide +kernel
theorem dX7_content_73 : decode cX7_content 73 = .ok (.iload_n 1, 1) := by decide +kernel
theorem dX7_content_74 : decode cX7_content 74 = .ok (.imul, 1) := by decide +kernel
theorem dX7_content_75 : decode cX7_content 75 = .ok (.iload_n 2, 1) := by decide +kernel
theorem dX7_content_76 : decode cX7_content 76 = .ok (.iadd, 1) := by decide +kernel
theorem dX7_content_77 : decode cX7_content 77 = .ok (.bipush 60, 2) := by decide +kernel
theorem dX7_content_79 : decode cX7_content 79 = .ok (.imul, 1) := by decide +kernel
theorem dX7_content_80 : decode cX7_content 80 = .ok (.iload_n 3, 1) := by decide +kernel
theorem dX7_content_81 : decode cX7_content 81 = .ok (.iadd, 1) := by decide +kernel
theorem dX7_content_82 : decode cX7_content 82 = .ok (.baload, 1) := by decide +kernel
theorem dX7_content_83 : decode cX7_content 83 = .ok (.sipush 255, 3) := by decide +kernel
theorem dX7_content_86 : decode cX7_content 86 = .ok (.iand, 1) := by decide +kernel
theorem dX7_content_87 : decode cX7_content 87 = .ok (.goto 4, 3) := by decide +kernel
theorem dX7_content_90 : decode cX7_content 90 = .ok (.iconst (-1), 1) := by decide +kernel
theorem dX7_content_91 : decode cX7_content 91 = .ok (.ireturn, 1) := by decide +kernel
set_option maxRecDepth 20000 in
theorem ggX7_check_X7_isAlike : GoodIn wsX7_check wsX7_isAlike := goodIn_r _ [8, 3, 9, 10, 11, 12, 13, 14, 15, 16, 17, 18, 19, 20, 21, 22, 23, 24, 25, 26, 27, 28, 29, 30, 31, 32, 33, 34] (by decide +kernel) (by decide +kernel)
set_option maxRecDepth 20000 in
theorem gX7_check_X7_isAlike : GoodIn wsX7_check (wsV RX7 104 RX7 yX7_isAlike wsX7_isAlike) := goodIn_app (goodIn_of _ (by decide +kernel)) ggX7_check_X7_isAlike
theorem dX7_check_0 : decode cX7_check 0 = .ok (.iconst 1, 1) := by decide +kernel
theorem dX7_check_1 : decode cX7_check 1 = .ok (.istore_n 1, 1) := by decide +kernel
theorem dX7_check_2 : decode cX7_check 2 = .ok (.iconst 0, 1) := by decide +kernel
theorem dX7_check_3 : decode cX7_check 3 = .ok (.istore_n 2, 1) := by decide +kernel
theorem dX7_check_4 : decode cX7_check 4 = .ok (.iload_n 2, 1) := by decide +kernel
theorem dX7_check_5 : decode cX7_check 5 = .ok (.aload_n 0, 1) := by decide +kernel
theorem dX7_check_6 : decode cX7_check 6 = .ok (.getfield 91, 3) := by decide +kernel
theorem dX7_check_9 : decode cX7_check 9 = .ok (.if_icmp .ge 65, 3) := by decide +kernel
theorem dX7_check_12 : decode cX7_check 12 = .ok (.iload_n 1, 1) := by decide +kernel
theorem dX7_check_13 : decode cX7_check 13 = .ok (.ifCond .eq 21, 3) := by decide +kernel
theorem dX7_check_16 : decode cX7_check 16 = .ok (.aload_n 0, 1) := by decide +kernel
theorem dX7_check_17 : decode cX7_check 17 = .ok (.getfield 30, 3) := by decide +kernel
theorem dX7_check_20 : decode cX7_check 20 = .ok (.aload_n 0, 1) := by decide +kernel
theorem dX7_check_21 : decode cX7_check 21 = .ok (.getfield 49, 3) := by decide +kernel
theorem dX7_check_24 : decode cX7_check 24 = .ok (.iload_n 2, 1) := by decide +kernel
theorem dX7_check_25 : decode cX7_check 25 = .ok (.iaload, 1) := by decide +kernel
theorem dX7_check_26 : decode cX7_check 26 = .ok (.baload, 1) := by decide +kernel
theorem dX7_check_27 : decode cX7_check 27 = .ok (.ifCond .eq 7, 3) := by decide +kernel
theorem dX7_check_30 : decode cX7_check 30 = .ok (.iconst 1, 1) := by decide +kernel
theorem dX7_check_31 : decode cX7_check 31 = .ok (.goto 4, 3) := by decide +kernel
theorem dX7_check_34 : decode cX7_check 34 = .ok (.iconst 0, 1) := by decide +kernel
theorem dX7_check_35 : decode cX7_check 35 = .ok (.istore_n 1, 1) := by decide +kernel
theorem dX7_check_36 : decode cX7_check 36 = .ok (.iconst 0, 1) := by decide +kernel
theorem dX7_check_37 : decode cX7_check 37 = .ok (.istore_n 3, 1) := by decide +kernel
theorem dX7_check_38 : decode cX7_check 38 = .ok (.iload_n 3, 1) := by decide +kernel
theorem dX7_check_39 : decode cX7_check 39 = .ok (.iload_n 2, 1) := by decide +kernel
theorem dX7_check_40 : decode cX7_check 40 = .ok (.if_icmp .ge 28, 3) := by decide +kernel
theorem dX7_check_43 : decode cX7_check 43 = .ok (.iload_n 1, 1) := by decide +kernel
theorem dX7_check_44 : decode cX7_check 44 = .ok (.ifCond .eq 16, 3) := by decide +kernel
theorem dX7_check_47 : decode cX7_check 47 = .ok (.aload_n 0, 1) := by decide +kernel
theorem dX7_check_48 : decode cX7_check 48 = .ok (.iload_n 2, 1) := by decide +kernel
theorem dX7_check_49 : decode cX7_check 49 = .ok (.iload_n 3, 1) := by decide +kernel
theorem dX7_check_50 : decode cX7_check 50 = .ok (.invokevirtual 104, 3) := by decide +kernel
theorem dX7_check_53 : decode cX7_check 53 = .ok (.ifCond .ne 7, 3) := by decide +kernel
theorem dX7_check_56 : decode cX7_check 56 = .ok (.iconst 1, 1) := by decide +kernel
theorem dX7_check_57 : decode cX7_check 57 = .ok (.goto 4, 3) := by decide +kernel
theorem dX7_check_60 : decode cX7_check 60 = .ok (.iconst 0, 1) := by decide +kernel
theorem dX7_check_61 : decode cX7_check 61 = .ok (.istore_n 1, 1) := by decide +kernel
theorem dX7_check_62 : decode cX7_check 62 = .ok (.iinc 3 1, 3) := by decide +kernel
theorem dX7_check_65 : decode cX7_check 65 = .ok (.goto (-27), 3) := by decide +kernel
theorem dX7_check_68 : decode cX7_check 68 = .ok (.iinc 2 1, 3) := by decide +kernel
theorem dX7_check_71 : decode cX7_check 71 = .ok (.goto (-67), 3) := by decide +kernel
theorem dX7_check_74 : decode cX7_check 74 = .ok (.iload_n 1, 1) := by decide +kernel
theorem dX7_check_75 : decode cX7_check 75 = .ok (.ifCond .eq 7, 3) := by decide +kernel
theorem dX7_check_78 : decode cX7_check 78 = .ok (.iconst 1, 1) := by decide +kernel
theorem dX7_check_79 : decode cX7_check 79 = .ok (.goto 4, 3) := by decide +kernel
theorem dX7_check_82 : decode cX7_check 82 = .ok (.iconst 0, 1) := by decide +kernel
theorem dX7_check_83 : decode cX7_check 83 = .ok (.ireturn, 1) := by decide +kernel
