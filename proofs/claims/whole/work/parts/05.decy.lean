theorem dX11_init_0 : decode cX11_init 0 = .ok (.aload_n 0, 1) := by decide +kernel
theorem dX11_init_1 : decode cX11_init 1 = .ok (.invokespecial 1, 3) := by decide +kernel
theorem dX11_init_4 : decode cX11_init 4 = .ok (.aload_n 0, 1) := by decide +kernel
theorem dX11_init_5 : decode cX11_init 5 = .ok (.sipush 160, 3) := by decide +kernel
theorem dX11_init_8 : decode cX11_init 8 = .ok (.newarray .long, 2) := by decide +kernel
theorem dX11_init_10 : decode cX11_init 10 = .ok (.putfield 7, 3) := by decide +kernel
theorem dX11_init_13 : decode cX11_init 13 = .ok (.aload_n 0, 1) := by decide +kernel
theorem dX11_init_14 : decode cX11_init 14 = .ok (.bipush 33, 2) := by decide +kernel
theorem dX11_init_16 : decode cX11_init 16 = .ok (.newarray .int, 2) := by decide +kernel
theorem dX11_init_18 : decode cX11_init 18 = .ok (.putfield 13, 3) := by decide +kernel
theorem dX11_init_21 : decode cX11_init 21 = .ok (.aload_n 0, 1) := by decide +kernel
theorem dX11_init_22 : decode cX11_init 22 = .ok (.bipush 76, 2) := by decide +kernel
theorem dX11_init_24 : decode cX11_init 24 = .ok (.newarray .int, 2) := by decide +kernel
theorem dX11_init_26 : decode cX11_init 26 = .ok (.putfield 17, 3) := by decide +kernel
theorem dX11_init_29 : decode cX11_init 29 = .ok (.aload_n 0, 1) := by decide +kernel
theorem dX11_init_30 : decode cX11_init 30 = .ok (.sipush 160, 3) := by decide +kernel
theorem dX11_init_33 : decode cX11_init 33 = .ok (.newarray .int, 2) := by decide +kernel
theorem dX11_init_35 : decode cX11_init 35 = .ok (.putfield 20, 3) := by decide +kernel
theorem dX11_init_38 : decode cX11_init 38 = .ok (.aload_n 0, 1) := by decide +kernel
theorem dX11_init_39 : decode cX11_init 39 = .ok (.bipush 16, 2) := by decide +kernel
theorem dX11_init_41 : decode cX11_init 41 = .ok (.newarray .long, 2) := by decide +kernel
theorem dX11_init_43 : decode cX11_init 43 = .ok (.putfield 23, 3) := by decide +kernel
theorem dX11_init_46 : decode cX11_init 46 = .ok (.aload_n 0, 1) := by decide +kernel
theorem dX11_init_47 : decode cX11_init 47 = .ok (.bipush 9, 2) := by decide +kernel
theorem dX11_init_49 : decode cX11_init 49 = .ok (.newarray .long, 2) := by decide +kernel
theorem dX11_init_51 : decode cX11_init 51 = .ok (.putfield 26, 3) := by decide +kernel
theorem dX11_init_54 : decode cX11_init 54 = .ok (.aload_n 0, 1) := by decide +kernel
theorem dX11_init_55 : decode cX11_init 55 = .ok (.bipush 9, 2) := by decide +kernel
theorem dX11_init_57 : decode cX11_init 57 = .ok (.newarray .long, 2) := by decide +kernel
theorem dX11_init_59 : decode cX11_init 59 = .ok (.putfield 29, 3) := by decide +kernel
theorem dX11_init_62 : decode cX11_init 62 = .ok (.aload_n 0, 1) := by decide +kernel
theorem dX11_init_63 : decode cX11_init 63 = .ok (.sipush 560, 3) := by decide +kernel
theorem dX11_init_66 : decode cX11_init 66 = .ok (.newarray .long, 2) := by decide +kernel
theorem dX11_init_68 : decode cX11_init 68 = .ok (.putfield 32, 3) := by decide +kernel
theorem dX11_init_71 : decode cX11_init 71 = .ok (.aload_n 0, 1) := by decide +kernel
theorem dX11_init_72 : decode cX11_init 72 = .ok (.bipush 40, 2) := by decide +kernel
theorem dX11_init_74 : decode cX11_init 74 = .ok (.putfield 35, 3) := by decide +kernel
theorem dX11_init_77 : decode cX11_init 77 = .ok (.aload_n 0, 1) := by decide +kernel
theorem dX11_init_78 : decode cX11_init 78 = .ok (.sipush 160, 3) := by decide +kernel
theorem dX11_init_81 : decode cX11_init 81 = .ok (.newarray .long, 2) := by decide +kernel
theorem dX11_init_83 : decode cX11_init 83 = .ok (.putfield 39, 3) := by decide +kernel
theorem dX11_init_86 : decode cX11_init 86 = .ok (.aload_n 0, 1) := by decide +kernel
theorem dX11_init_87 : decode cX11_init 87 = .ok (.sipush 160, 3) := by decide +kernel
theorem dX11_init_90 : decode cX11_init 90 = .ok (.newarray .long, 2) := by decide +kernel
theorem dX11_init_92 : decode cX11_init 92 = .ok (.putfield 42, 3) := by decide +kernel
theorem dX11_init_95 : decode cX11_init 95 = .ok (.aload_n 0, 1) := by decide +kernel
theorem dX11_init_96 : decode cX11_init 96 = .ok (.bipush 40, 2) := by decide +kernel
theorem dX11_init_98 : decode cX11_init 98 = .ok (.newarray .long, 2) := by decide +kernel
theorem dX11_init_100 : decode cX11_init 100 = .ok (.putfield 45, 3) := by decide +kernel
theorem dX11_init_103 : decode cX11_init 103 = .ok (.aload_n 0, 1) := by decide +kernel
theorem dX11_init_104 : decode cX11_init 104 = .ok (.bipush 40, 2) := by decide +kernel
theorem dX11_init_106 : decode cX11_init 106 = .ok (.newarray .long, 2) := by decide +kernel
theorem dX11_init_108 : decode cX11_init 108 = .ok (.putfield 48, 3) := by decide +kernel
theorem dX11_init_111 : decode cX11_init 111 = .ok (.aload_n 0, 1) := by decide +kernel
theorem dX11_init_112 : decode cX11_init 112 = .ok (.bipush 9, 2) := by decide +kernel
theorem dX11_init_114 : decode cX11_init 114 = .ok (.newarray .long, 2) := by decide +kernel
theorem dX11_init_116 : decode cX11_init 116 = .ok (.putfield 51, 3) := by decide +kernel
theorem dX11_init_119 : decode cX11_init 119 = .ok (.aload_n 0, 1) := by decide +kernel
theorem dX11_init_120 : decode cX11_init 120 = .ok (.bipush 10, 2) := by decide +kernel
theorem dX11_init_122 : decode cX11_init 122 = .ok (.newarray .long, 2) := by decide +kernel
theorem dX11_init_124 : decode cX11_init 124 = .ok (.putfield 54, 3) := by decide +kernel
theorem dX11_init_127 : decode cX11_init 127 = .ok (.aload_n 0, 1) := by decide +kernel
theorem dX11_init_128 : decode cX11_init 128 = .ok (.bipush 10, 2) := by decide +kernel
theorem dX11_init_130 : decode cX11_init 130 = .ok (.newarray .long, 2) := by decide +kernel
theorem dX11_init_132 : decode cX11_init 132 = .ok (.putfield 57, 3) := by decide +kernel
theorem dX11_init_135 : decode cX11_init 135 = .ok (.aload_n 0, 1) := by decide +kernel
theorem dX11_init_136 : decode cX11_init 136 = .ok (.bipush 9, 2) := by decide +kernel
theorem dX11_init_138 : decode cX11_init 138 = .ok (.newarray .long, 2) := by decide +kernel
theorem dX11_init_140 : decode cX11_init 140 = .ok (.putfield 60, 3) := by decide +kernel
theorem dX11_init_143 : decode cX11_init 143 = .ok (.aload_n 0, 1) := by decide +kernel
theorem dX11_init_144 : decode cX11_init 144 = .ok (.bipush 8, 2) := by decide +kernel
theorem dX11_init_146 : decode cX11_init 146 = .ok (.newarray .long, 2) := by decide +kernel
theorem dX11_init_148 : decode cX11_init 148 = .ok (.putfield 63, 3) := by decide +kernel
theorem dX11_init_151 : decode cX11_init 151 = .ok (.aload_n 0, 1) := by decide +kernel
theorem dX11_init_152 : decode cX11_init 152 = .ok (.bipush 40, 2) := by decide +kernel
theorem dX11_init_154 : decode cX11_init 154 = .ok (.newarray .long, 2) := by decide +kernel
theorem dX11_init_156 : decode cX11_init 156 = .ok (.putfield 66, 3) := by decide +kernel
theorem dX11_init_159 : decode cX11_init 159 = .ok (.return_, 1) := by decide +kernel
theorem dX11_thrown_0 : decode cX11_thrown 0 = .ok (.aload_n 0, 1) := by decide +kernel
theorem dX11_thrown_1 : decode cX11_thrown 1 = .ok (.getfield 69, 3) := by decide +kernel
theorem dX11_thrown_4 : decode cX11_thrown 4 = .ok (.ireturn, 1) := by decide +kernel
theorem dX11_refuses_0 : decode cX11_refuses 0 = .ok (.aload_n 0, 1) := by decide +kernel
theorem dX11_refuses_1 : decode cX11_refuses 1 = .ok (.iload_n 1, 1) := by decide +kernel
theorem dX11_refuses_2 : decode cX11_refuses 2 = .ok (.putfield 69, 3) := by decide +kernel
theorem dX11_refuses_5 : decode cX11_refuses 5 = .ok (.iload_n 1, 1) := by decide +kernel
theorem dX11_refuses_6 : decode cX11_refuses 6 = .ok (.ifCond .le 7, 3) := by decide +kernel
theorem dX11_refuses_9 : decode cX11_refuses 9 = .ok (.iconst 1, 1) := by decide +kernel
theorem dX11_refuses_10 : decode cX11_refuses 10 = .ok (.goto 4, 3) := by decide +kernel
theorem dX11_refuses_13 : decode cX11_refuses 13 = .ok (.iconst 0, 1) := by decide +kernel
theorem dX11_refuses_14 : decode cX11_refuses 14 = .ok (.ireturn, 1) := by decide +kernel
theorem dX11_cut_0 : decode cX11_cut 0 = .ok (.lload_n 0, 1) := by decide +kernel
theorem dX11_cut_1 : decode cX11_cut 1 = .ok (.ldc2_w 72, 3) := by decide +kernel
theorem dX11_cut_4 : decode cX11_cut 4 = .ok (.lcmp, 1) := by decide +kernel
theorem dX11_cut_5 : decode cX11_cut 5 = .ok (.ifCond .le 9, 3) := by decide +kernel
theorem dX11_cut_8 : decode cX11_cut 8 = .ok (.ldc2_w 72, 3) := by decide +kernel
theorem dX11_cut_11 : decode cX11_cut 11 = .ok (.goto 18, 3) := by decide +kernel
theorem dX11_cut_14 : decode cX11_cut 14 = .ok (.lload_n 0, 1) := by decide +kernel
theorem dX11_cut_15 : decode cX11_cut 15 = .ok (.ldc2_w 74, 3) := by decide +kernel
theorem dX11_cut_18 : decode cX11_cut 18 = .ok (.lcmp, 1) := by decide +kernel
theorem dX11_cut_19 : decode cX11_cut 19 = .ok (.ifCond .ge 9, 3) := by decide +kernel
theorem dX11_cut_22 : decode cX11_cut 22 = .ok (.ldc2_w 74, 3) := by decide +kernel
theorem dX11_cut_25 : decode cX11_cut 25 = .ok (.goto 4, 3) := by decide +kernel
theorem dX11_cut_28 : decode cX11_cut 28 = .ok (.lload_n 0, 1) := by decide +kernel
theorem dX11_cut_29 : decode cX11_cut 29 = .ok (.lreturn, 1) := by decide +kernel
theorem dX11_wide_0 : decode cX11_wide 0 = .ok (.lload_n 0, 1) := by decide +kernel
theorem dX11_wide_1 : decode cX11_wide 1 = .ok (.ldc2_w 76, 3) := by decide +kernel
theorem dX11_wide_4 : decode cX11_wide 4 = .ok (.lcmp, 1) := by decide +kernel
theorem dX11_wide_5 : decode cX11_wide 5 = .ok (.ifCond .le 9, 3) := by decide +kernel
theorem dX11_wide_8 : decode cX11_wide 8 = .ok (.ldc2_w 76, 3) := by decide +kernel
theorem dX11_wide_11 : decode cX11_wide 11 = .ok (.goto 18, 3) := by decide +kernel
theorem dX11_wide_14 : decode cX11_wide 14 = .ok (.lload_n 0, 1) := by decide +kernel
theorem dX11_wide_15 : decode cX11_wide 15 = .ok (.ldc2_w 78, 3) := by decide +kernel
theorem dX11_wide_18 : decode cX11_wide 18 = .ok (.lcmp, 1) := by decide +kernel
theorem dX11_wide_19 : decode cX11_wide 19 = .ok (.ifCond .ge 9, 3) := by decide +kernel
theorem dX11_wide_22 : decode cX11_wide 22 = .ok (.ldc2_w 78, 3) := by decide +kernel
theorem dX11_wide_25 : decode cX11_wide 25 = .ok (.goto 4, 3) := by decide +kernel
theorem dX11_wide_28 : decode cX11_wide 28 = .ok (.lload_n 0, 1) := by decide +kernel
theorem dX11_wide_29 : decode cX11_wide 29 = .ok (.lreturn, 1) := by decide +kernel
theorem dX11_rounded_0 : decode cX11_rounded 0 = .ok (.lload_n 0, 1) := by decide +kernel
theorem dX11_rounded_1 : decode cX11_rounded 1 = .ok (.lload_n 2, 1) := by decide +kernel
theorem dX11_rounded_2 : decode cX11_rounded 2 = .ok (.lmul, 1) := by decide +kernel
theorem dX11_rounded_3 : decode cX11_rounded 3 = .ok (.ldc2_w 80, 3) := by decide +kernel
theorem dX11_rounded_6 : decode cX11_rounded 6 = .ok (.ladd, 1) := by decide +kernel
theorem dX11_rounded_7 : decode cX11_rounded 7 = .ok (.bipush 15, 2) := by decide +kernel
theorem dX11_rounded_9 : decode cX11_rounded 9 = .ok (.lshr, 1) := by decide +kernel
theorem dX11_rounded_10 : decode cX11_rounded 10 = .ok (.invokestatic 82, 3) := by decide +kernel
theorem dX11_rounded_13 : decode cX11_rounded 13 = .ok (.lreturn, 1) := by decide +kernel
theorem dX11_lower_0 : decode cX11_lower 0 = .ok (.lload_n 0, 1) := by decide +kernel
theorem dX11_lower_1 : decode cX11_lower 1 = .ok (.lload_n 2, 1) := by decide +kernel
theorem dX11_lower_2 : decode cX11_lower 2 = .ok (.lmul, 1) := by decide +kernel
theorem dX11_lower_3 : decode cX11_lower 3 = .ok (.bipush 15, 2) := by decide +kernel
theorem dX11_lower_5 : decode cX11_lower 5 = .ok (.lshr, 1) := by decide +kernel
theorem dX11_lower_6 : decode cX11_lower 6 = .ok (.invokestatic 82, 3) := by decide +kernel
theorem dX11_lower_9 : decode cX11_lower 9 = .ok (.lreturn, 1) := by decide +kernel
theorem dX11_size_0 : decode cX11_size 0 = .ok (.lload_n 0, 1) := by decide +kernel
theorem dX11_size_1 : decode cX11_size 1 = .ok (.lconst 0, 1) := by decide +kernel
theorem dX11_size_2 : decode cX11_size 2 = .ok (.lcmp, 1) := by decide +kernel
theorem dX11_size_3 : decode cX11_size 3 = .ok (.ifCond .ge 8, 3) := by decide +kernel
theorem dX11_size_6 : decode cX11_size 6 = .ok (.lload_n 0, 1) := by decide +kernel
theorem dX11_size_7 : decode cX11_size 7 = .ok (.lneg, 1) := by decide +kernel
theorem dX11_size_8 : decode cX11_size 8 = .ok (.goto 4, 3) := by decide +kernel
theorem dX11_size_11 : decode cX11_size 11 = .ok (.lload_n 0, 1) := by decide +kernel
theorem dX11_size_12 : decode cX11_size 12 = .ok (.invokestatic 82, 3) := by decide +kernel
theorem dX11_size_15 : decode cX11_size 15 = .ok (.lreturn, 1) := by decide +kernel
theorem dX11_norm_0 : decode cX11_norm 0 = .ok (.iconst 0, 1) := by decide +kernel
theorem dX11_norm_1 : decode cX11_norm 1 = .ok (.istore_n 2, 1) := by decide +kernel
theorem dX11_norm_2 : decode cX11_norm 2 = .ok (.lload_n 0, 1) := by decide +kernel
theorem dX11_norm_3 : decode cX11_norm 3 = .ok (.iload_n 2, 1) := by decide +kernel
theorem dX11_norm_4 : decode cX11_norm 4 = .ok (.lshl, 1) := by decide +kernel
theorem dX11_norm_5 : decode cX11_norm 5 = .ok (.ldc2_w 86, 3) := by decide +kernel
theorem dX11_norm_8 : decode cX11_norm 8 = .ok (.lcmp, 1) := by decide +kernel
theorem dX11_norm_9 : decode cX11_norm 9 = .ok (.ifCond .ge 9, 3) := by decide +kernel
theorem dX11_norm_12 : decode cX11_norm 12 = .ok (.iinc 2 1, 3) := by decide +kernel
theorem dX11_norm_15 : decode cX11_norm 15 = .ok (.goto (-13), 3) := by decide +kernel
theorem dX11_norm_18 : decode cX11_norm 18 = .ok (.iload_n 2, 1) := by decide +kernel
theorem dX11_norm_19 : decode cX11_norm 19 = .ok (.ireturn, 1) := by decide +kernel
theorem dX11_bits_0 : decode cX11_bits 0 = .ok (.iload_n 0, 1) := by decide +kernel
theorem dX11_bits_1 : decode cX11_bits 1 = .ok (.bipush 8, 2) := by decide +kernel
theorem dX11_bits_3 : decode cX11_bits 3 = .ok (.if_icmp .ge 34, 3) := by decide +kernel
theorem dX11_bits_6 : decode cX11_bits 6 = .ok (.iload_n 0, 1) := by decide +kernel
theorem dX11_bits_7 : decode cX11_bits 7 = .ok (.iconst 2, 1) := by decide +kernel
theorem dX11_bits_8 : decode cX11_bits 8 = .ok (.if_icmp .ge 8, 3) := by decide +kernel
theorem dX11_bits_11 : decode cX11_bits 11 = .ok (.bipush 6, 2) := by decide +kernel
theorem dX11_bits_13 : decode cX11_bits 13 = .ok (.goto 23, 3) := by decide +kernel
theorem dX11_bits_16 : decode cX11_bits 16 = .ok (.iload_n 0, 1) := by decide +kernel
theorem dX11_bits_17 : decode cX11_bits 17 = .ok (.iconst 4, 1) := by decide +kernel
theorem dX11_bits_18 : decode cX11_bits 18 = .ok (.if_icmp .ge 7, 3) := by decide +kernel
theorem dX11_bits_21 : decode cX11_bits 21 = .ok (.iconst 5, 1) := by decide +kernel
theorem dX11_bits_22 : decode cX11_bits 22 = .ok (.goto 14, 3) := by decide +kernel
theorem dX11_bits_25 : decode cX11_bits 25 = .ok (.iload_n 0, 1) := by decide +kernel
theorem dX11_bits_26 : decode cX11_bits 26 = .ok (.bipush 6, 2) := by decide +kernel
theorem dX11_bits_28 : decode cX11_bits 28 = .ok (.if_icmp .ge 7, 3) := by decide +kernel
theorem dX11_bits_31 : decode cX11_bits 31 = .ok (.iconst 4, 1) := by decide +kernel
theorem dX11_bits_32 : decode cX11_bits 32 = .ok (.goto 4, 3) := by decide +kernel
theorem dX11_bits_35 : decode cX11_bits 35 = .ok (.iconst 3, 1) := by decide +kernel
theorem dX11_bits_36 : decode cX11_bits 36 = .ok (.ireturn, 1) := by decide +kernel
theorem dX11_bits_37 : decode cX11_bits 37 = .ok (.iload_n 0, 1) := by decide +kernel
theorem dX11_bits_38 : decode cX11_bits 38 = .ok (.bipush 8, 2) := by decide +kernel
theorem dX11_bits_40 : decode cX11_bits 40 = .ok (.isub, 1) := by decide +kernel
theorem dX11_bits_41 : decode cX11_bits 41 = .ok (.bipush 17, 2) := by decide +kernel
theorem dX11_bits_43 : decode cX11_bits 43 = .ok (.irem, 1) := by decide +kernel
theorem dX11_bits_44 : decode cX11_bits 44 = .ok (.istore_n 1, 1) := by decide +kernel
theorem dX11_bits_45 : decode cX11_bits 45 = .ok (.iload_n 1, 1) := by decide +kernel
theorem dX11_bits_46 : decode cX11_bits 46 = .ok (.ifCond .ne 8, 3) := by decide +kernel
theorem dX11_bits_49 : decode cX11_bits 49 = .ok (.bipush 7, 2) := by decide +kernel
theorem dX11_bits_51 : decode cX11_bits 51 = .ok (.goto 23, 3) := by decide +kernel
theorem dX11_bits_54 : decode cX11_bits 54 = .ok (.iload_n 1, 1) := by decide +kernel
theorem dX11_bits_55 : decode cX11_bits 55 = .ok (.iconst 3, 1) := by decide +kernel
theorem dX11_bits_56 : decode cX11_bits 56 = .ok (.if_icmp .ge 7, 3) := by decide +kernel
theorem dX11_bits_59 : decode cX11_bits 59 = .ok (.iconst 2, 1) := by decide +kernel
theorem dX11_bits_60 : decode cX11_bits 60 = .ok (.goto 14, 3) := by decide +kernel
theorem dX11_bits_63 : decode cX11_bits 63 = .ok (.iload_n 1, 1) := by decide +kernel
theorem dX11_bits_64 : decode cX11_bits 64 = .ok (.iconst 3, 1) := by decide +kernel
theorem dX11_bits_65 : decode cX11_bits 65 = .ok (.if_icmp .ne 8, 3) := by decide +kernel
theorem dX11_bits_68 : decode cX11_bits 68 = .ok (.bipush 6, 2) := by decide +kernel
theorem dX11_bits_70 : decode cX11_bits 70 = .ok (.goto 4, 3) := by decide +kernel
theorem dX11_bits_73 : decode cX11_bits 73 = .ok (.iconst 3, 1) := by decide +kernel
theorem dX11_bits_74 : decode cX11_bits 74 = .ok (.ireturn, 1) := by decide +kernel
theorem dX11_tableA_0 : decode cX11_tableA 0 = .ok (.iload_n 0, 1) := by decide +kernel
theorem dX11_tableA_1 : decode cX11_tableA 1 = .ok (.iconst 4, 1) := by decide +kernel
theorem dX11_tableA_2 : decode cX11_tableA 2 = .ok (.if_icmp .ge 9, 3) := by decide +kernel
theorem dX11_tableA_5 : decode cX11_tableA 5 = .ok (.sipush 20480, 3) := by decide +kernel
theorem dX11_tableA_8 : decode cX11_tableA 8 = .ok (.goto 40, 3) := by decide +kernel
theorem dX11_tableA_11 : decode cX11_tableA 11 = .ok (.iload_n 0, 1) := by decide +kernel
theorem dX11_tableA_12 : decode cX11_tableA 12 = .ok (.iconst 4, 1) := by decide +kernel
theorem dX11_tableA_13 : decode cX11_tableA 13 = .ok (.if_icmp .ne 9, 3) := by decide +kernel
theorem dX11_tableA_16 : decode cX11_tableA 16 = .ok (.sipush 13964, 3) := by decide +kernel
theorem dX11_tableA_19 : decode cX11_tableA 19 = .ok (.goto 29, 3) := by decide +kernel
theorem dX11_tableA_22 : decode cX11_tableA 22 = .ok (.iload_n 0, 1) := by decide +kernel
theorem dX11_tableA_23 : decode cX11_tableA 23 = .ok (.iconst 5, 1) := by decide +kernel
theorem dX11_tableA_24 : decode cX11_tableA 24 = .ok (.if_icmp .ne 9, 3) := by decide +kernel
theorem dX11_tableA_27 : decode cX11_tableA 27 = .ok (.sipush 15360, 3) := by decide +kernel
theorem dX11_tableA_30 : decode cX11_tableA 30 = .ok (.goto 18, 3) := by decide +kernel
theorem dX11_tableA_33 : decode cX11_tableA 33 = .ok (.iload_n 0, 1) := by decide +kernel
theorem dX11_tableA_34 : decode cX11_tableA 34 = .ok (.bipush 6, 2) := by decide +kernel
theorem dX11_tableA_36 : decode cX11_tableA 36 = .ok (.if_icmp .ne 9, 3) := by decide +kernel
theorem dX11_tableA_39 : decode cX11_tableA 39 = .ok (.sipush 8534, 3) := by decide +kernel
theorem dX11_tableA_42 : decode cX11_tableA 42 = .ok (.goto 6, 3) := by decide +kernel
theorem dX11_tableA_45 : decode cX11_tableA 45 = .ok (.sipush 9036, 3) := by decide +kernel
theorem dX11_tableA_48 : decode cX11_tableA 48 = .ok (.ireturn, 1) := by decide +kernel
theorem dX11_tableB_0 : decode cX11_tableB 0 = .ok (.iload_n 0, 1) := by decide +kernel
theorem dX11_tableB_1 : decode cX11_tableB 1 = .ok (.tableswitch 62 2 7 #[39, 43, 47, 50, 54, 58], 39) := by decide +kernel
theorem dX11_tableB_40 : decode cX11_tableB 40 = .ok (.sipush 2048, 3) := by decide +kernel
theorem dX11_tableB_43 : decode cX11_tableB 43 = .ok (.ireturn, 1) := by decide +kernel
theorem dX11_tableB_44 : decode cX11_tableB 44 = .ok (.sipush (-2560), 3) := by decide +kernel
theorem dX11_tableB_47 : decode cX11_tableB 47 = .ok (.ireturn, 1) := by decide +kernel
theorem dX11_tableB_48 : decode cX11_tableB 48 = .ok (.bipush 94, 2) := by decide +kernel
theorem dX11_tableB_50 : decode cX11_tableB 50 = .ok (.ireturn, 1) := by decide +kernel
theorem dX11_tableB_51 : decode cX11_tableB 51 = .ok (.sipush (-1792), 3) := by decide +kernel
theorem dX11_tableB_54 : decode cX11_tableB 54 = .ok (.ireturn, 1) := by decide +kernel
theorem dX11_tableB_55 : decode cX11_tableB 55 = .ok (.sipush (-341), 3) := by decide +kernel
theorem dX11_tableB_58 : decode cX11_tableB 58 = .ok (.ireturn, 1) := by decide +kernel
theorem dX11_tableB_59 : decode cX11_tableB 59 = .ok (.sipush (-1144), 3) := by decide +kernel
theorem dX11_tableB_62 : decode cX11_tableB 62 = .ok (.ireturn, 1) := by decide +kernel
theorem dX11_tableB_63 : decode cX11_tableB 63 = .ok (.iconst 0, 1) := by decide +kernel
theorem dX11_tableB_64 : decode cX11_tableB 64 = .ok (.ireturn, 1) := by decide +kernel
theorem dX11_least_0 : decode cX11_least 0 = .ok (.iload_n 0, 1) := by decide +kernel
theorem dX11_least_1 : decode cX11_least 1 = .ok (.iconst 2, 1) := by decide +kernel
theorem dX11_least_2 : decode cX11_least 2 = .ok (.if_icmp .ge 8, 3) := by decide +kernel
theorem dX11_least_5 : decode cX11_least 5 = .ok (.bipush (-32), 2) := by decide +kernel
theorem dX11_least_7 : decode cX11_least 7 = .ok (.goto 26, 3) := by decide +kernel
theorem dX11_least_10 : decode cX11_least 10 = .ok (.iload_n 0, 1) := by decide +kernel
theorem dX11_least_11 : decode cX11_least 11 = .ok (.iconst 4, 1) := by decide +kernel
theorem dX11_least_12 : decode cX11_least 12 = .ok (.if_icmp .ge 8, 3) := by decide +kernel
theorem dX11_least_15 : decode cX11_least 15 = .ok (.bipush (-16), 2) := by decide +kernel
theorem dX11_least_17 : decode cX11_least 17 = .ok (.goto 16, 3) := by decide +kernel
theorem dX11_least_20 : decode cX11_least 20 = .ok (.iload_n 0, 1) := by decide +kernel
theorem dX11_least_21 : decode cX11_least 21 = .ok (.bipush 6, 2) := by decide +kernel
theorem dX11_least_23 : decode cX11_least 23 = .ok (.if_icmp .ge 8, 3) := by decide +kernel
theorem dX11_least_26 : decode cX11_least 26 = .ok (.bipush (-8), 2) := by decide +kernel
theorem dX11_least_28 : decode cX11_least 28 = .ok (.goto 5, 3) := by decide +kernel
theorem dX11_least_31 : decode cX11_least 31 = .ok (.bipush (-4), 2) := by decide +kernel
theorem dX11_least_33 : decode cX11_least 33 = .ok (.ireturn, 1) := by decide +kernel
theorem dX11_tableC_0 : decode cX11_tableC 0 = .ok (.iload_n 0, 1) := by decide +kernel
theorem dX11_tableC_1 : decode cX11_tableC 1 = .ok (.iconst 4, 1) := by decide +kernel
theorem dX11_tableC_2 : decode cX11_tableC 2 = .ok (.if_icmp .ge 9, 3) := by decide +kernel
theorem dX11_tableC_5 : decode cX11_tableC 5 = .ok (.sipush 13107, 3) := by decide +kernel
theorem dX11_tableC_8 : decode cX11_tableC 8 = .ok (.goto 40, 3) := by decide +kernel
theorem dX11_tableC_11 : decode cX11_tableC 11 = .ok (.iload_n 0, 1) := by decide +kernel
theorem dX11_tableC_12 : decode cX11_tableC 12 = .ok (.iconst 4, 1) := by decide +kernel
theorem dX11_tableC_13 : decode cX11_tableC 13 = .ok (.if_icmp .ne 9, 3) := by decide +kernel
theorem dX11_tableC_16 : decode cX11_tableC 16 = .ok (.sipush 19223, 3) := by decide +kernel
theorem dX11_tableC_19 : decode cX11_tableC 19 = .ok (.goto 29, 3) := by decide +kernel
theorem dX11_tableC_22 : decode cX11_tableC 22 = .ok (.iload_n 0, 1) := by decide +kernel
theorem dX11_tableC_23 : decode cX11_tableC 23 = .ok (.iconst 5, 1) := by decide +kernel
theorem dX11_tableC_24 : decode cX11_tableC 24 = .ok (.if_icmp .ne 9, 3) := by decide +kernel
theorem dX11_tableC_27 : decode cX11_tableC 27 = .ok (.sipush 17476, 3) := by decide +kernel
theorem dX11_tableC_30 : decode cX11_tableC 30 = .ok (.goto 18, 3) := by decide +kernel
theorem dX11_tableC_33 : decode cX11_tableC 33 = .ok (.iload_n 0, 1) := by decide +kernel
theorem dX11_tableC_34 : decode cX11_tableC 34 = .ok (.bipush 6, 2) := by decide +kernel
theorem dX11_tableC_36 : decode cX11_tableC 36 = .ok (.if_icmp .ne 9, 3) := by decide +kernel
theorem dX11_tableC_39 : decode cX11_tableC 39 = .ok (.sipush 31454, 3) := by decide +kernel
theorem dX11_tableC_42 : decode cX11_tableC 42 = .ok (.goto 6, 3) := by decide +kernel
theorem dX11_tableC_45 : decode cX11_tableC 45 = .ok (.sipush 29708, 3) := by decide +kernel
theorem dX11_tableC_48 : decode cX11_tableC 48 = .ok (.ireturn, 1) := by decide +kernel
theorem dX11_tableD_0 : decode cX11_tableD 0 = .ok (.iload_n 0, 1) := by decide +kernel
theorem dX11_tableD_1 : decode cX11_tableD 1 = .ok (.ifCond .ne 9, 3) := by decide +kernel
theorem dX11_tableD_4 : decode cX11_tableD 4 = .ok (.sipush 6554, 3) := by decide +kernel
theorem dX11_tableD_7 : decode cX11_tableD 7 = .ok (.goto 17, 3) := by decide +kernel
theorem dX11_tableD_10 : decode cX11_tableD 10 = .ok (.iload_n 0, 1) := by decide +kernel
theorem dX11_tableD_11 : decode cX11_tableD 11 = .ok (.iconst 1, 1) := by decide +kernel
theorem dX11_tableD_12 : decode cX11_tableD 12 = .ok (.if_icmp .ne 9, 3) := by decide +kernel
theorem dX11_tableD_15 : decode cX11_tableD 15 = .ok (.sipush 16384, 3) := by decide +kernel
theorem dX11_tableD_18 : decode cX11_tableD 18 = .ok (.goto 6, 3) := by decide +kernel
theorem dX11_tableD_21 : decode cX11_tableD 21 = .ok (.sipush 26214, 3) := by decide +kernel
theorem dX11_tableD_24 : decode cX11_tableD 24 = .ok (.ireturn, 1) := by decide +kernel
theorem dX11_tableG_0 : decode cX11_tableG 0 = .ok (.iload_n 0, 1) := by decide +kernel
theorem dX11_tableG_1 : decode cX11_tableG 1 = .ok (.ifCond .ne 9, 3) := by decide +kernel
theorem dX11_tableG_4 : decode cX11_tableG 4 = .ok (.sipush 3277, 3) := by decide +kernel
theorem dX11_tableG_7 : decode cX11_tableG 7 = .ok (.goto 28, 3) := by decide +kernel
theorem dX11_tableG_10 : decode cX11_tableG 10 = .ok (.iload_n 0, 1) := by decide +kernel
theorem dX11_tableG_11 : decode cX11_tableG 11 = .ok (.iconst 1, 1) := by decide +kernel
theorem dX11_tableG_12 : decode cX11_tableG 12 = .ok (.if_icmp .ne 9, 3) := by decide +kernel
theorem dX11_tableG_15 : decode cX11_tableG 15 = .ok (.sipush 11469, 3) := by decide +kernel
theorem dX11_tableG_18 : decode cX11_tableG 18 = .ok (.goto 17, 3) := by decide +kernel
theorem dX11_tableG_21 : decode cX11_tableG 21 = .ok (.iload_n 0, 1) := by decide +kernel
theorem dX11_tableG_22 : decode cX11_tableG 22 = .ok (.iconst 2, 1) := by decide +kernel
theorem dX11_tableG_23 : decode cX11_tableG 23 = .ok (.if_icmp .ne 9, 3) := by decide +kernel
theorem dX11_tableG_26 : decode cX11_tableG 26 = .ok (.sipush 21299, 3) := by decide +kernel
theorem dX11_tableG_29 : decode cX11_tableG 29 = .ok (.goto 6, 3) := by decide +kernel
theorem dX11_tableG_32 : decode cX11_tableG 32 = .ok (.sipush 32767, 3) := by decide +kernel
theorem dX11_tableG_35 : decode cX11_tableG 35 = .ok (.ireturn, 1) := by decide +kernel
theorem dX11_tableH_0 : decode cX11_tableH 0 = .ok (.iload_n 0, 1) := by decide +kernel
theorem dX11_tableH_1 : decode cX11_tableH 1 = .ok (.iconst 5, 1) := by decide +kernel
theorem dX11_tableH_2 : decode cX11_tableH 2 = .ok (.if_icmp .le 9, 3) := by decide +kernel
theorem dX11_tableH_5 : decode cX11_tableH 5 = .ok (.iload_n 0, 1) := by decide +kernel
theorem dX11_tableH_6 : decode cX11_tableH 6 = .ok (.iconst 5, 1) := by decide +kernel
theorem dX11_tableH_7 : decode cX11_tableH 7 = .ok (.isub, 1) := by decide +kernel
theorem dX11_tableH_8 : decode cX11_tableH 8 = .ok (.goto 6, 3) := by decide +kernel
theorem dX11_tableH_11 : decode cX11_tableH 11 = .ok (.iconst 5, 1) := by decide +kernel
theorem dX11_tableH_12 : decode cX11_tableH 12 = .ok (.iload_n 0, 1) := by decide +kernel
theorem dX11_tableH_13 : decode cX11_tableH 13 = .ok (.isub, 1) := by decide +kernel
theorem dX11_tableH_14 : decode cX11_tableH 14 = .ok (.istore_n 1, 1) := by decide +kernel
theorem dX11_tableH_15 : decode cX11_tableH 15 = .ok (.iload_n 1, 1) := by decide +kernel
theorem dX11_tableH_16 : decode cX11_tableH 16 = .ok (.ifCond .ne 9, 3) := by decide +kernel
theorem dX11_tableH_19 : decode cX11_tableH 19 = .ok (.sipush 8192, 3) := by decide +kernel
theorem dX11_tableH_22 : decode cX11_tableH 22 = .ok (.goto 48, 3) := by decide +kernel
theorem dX11_tableH_25 : decode cX11_tableH 25 = .ok (.iload_n 1, 1) := by decide +kernel
theorem dX11_tableH_26 : decode cX11_tableH 26 = .ok (.iconst 1, 1) := by decide +kernel
theorem dX11_tableH_27 : decode cX11_tableH 27 = .ok (.if_icmp .ne 9, 3) := by decide +kernel
theorem dX11_tableH_30 : decode cX11_tableH 30 = .ok (.sipush 5741, 3) := by decide +kernel
theorem dX11_tableH_33 : decode cX11_tableH 33 = .ok (.goto 37, 3) := by decide +kernel
theorem dX11_tableH_36 : decode cX11_tableH 36 = .ok (.iload_n 1, 1) := by decide +kernel
theorem dX11_tableH_37 : decode cX11_tableH 37 = .ok (.iconst 2, 1) := by decide +kernel
theorem dX11_tableH_38 : decode cX11_tableH 38 = .ok (.if_icmp .ne 9, 3) := by decide +kernel
theorem dX11_tableH_41 : decode cX11_tableH 41 = .ok (.sipush 2054, 3) := by decide +kernel
theorem dX11_tableH_44 : decode cX11_tableH 44 = .ok (.goto 26, 3) := by decide +kernel
theorem dX11_tableH_47 : decode cX11_tableH 47 = .ok (.iload_n 1, 1) := by decide +kernel
theorem dX11_tableH_48 : decode cX11_tableH 48 = .ok (.iconst 3, 1) := by decide +kernel
theorem dX11_tableH_49 : decode cX11_tableH 49 = .ok (.if_icmp .ne 7, 3) := by decide +kernel
theorem dX11_tableH_52 : decode cX11_tableH 52 = .ok (.iconst 0, 1) := by decide +kernel
theorem dX11_tableH_53 : decode cX11_tableH 53 = .ok (.goto 17, 3) := by decide +kernel
theorem dX11_tableH_56 : decode cX11_tableH 56 = .ok (.iload_n 1, 1) := by decide +kernel
theorem dX11_tableH_57 : decode cX11_tableH 57 = .ok (.iconst 4, 1) := by decide +kernel
theorem dX11_tableH_58 : decode cX11_tableH 58 = .ok (.if_icmp .ne 9, 3) := by decide +kernel
theorem dX11_tableH_61 : decode cX11_tableH 61 = .ok (.sipush (-374), 3) := by decide +kernel
theorem dX11_tableH_64 : decode cX11_tableH 64 = .ok (.goto 6, 3) := by decide +kernel
theorem dX11_tableH_67 : decode cX11_tableH 67 = .ok (.sipush (-134), 3) := by decide +kernel
theorem dX11_tableH_70 : decode cX11_tableH 70 = .ok (.ireturn, 1) := by decide +kernel
theorem dX11_tableR_0 : decode cX11_tableR 0 = .ok (.iload_n 0, 1) := by decide +kernel
theorem dX11_tableR_1 : decode cX11_tableR 1 = .ok (.tableswitch 71 0 6 #[43, 47, 51, 55, 59, 63, 67], 43) := by decide +kernel
theorem dX11_tableR_44 : decode cX11_tableR 44 = .ok (.sipush 29128, 3) := by decide +kernel
theorem dX11_tableR_47 : decode cX11_tableR 47 = .ok (.ireturn, 1) := by decide +kernel
theorem dX11_tableR_48 : decode cX11_tableR 48 = .ok (.sipush 26215, 3) := by decide +kernel
theorem dX11_tableR_51 : decode cX11_tableR 51 = .ok (.ireturn, 1) := by decide +kernel
theorem dX11_tableR_52 : decode cX11_tableR 52 = .ok (.sipush 23832, 3) := by decide +kernel
theorem dX11_tableR_55 : decode cX11_tableR 55 = .ok (.ireturn, 1) := by decide +kernel
theorem dX11_tableR_56 : decode cX11_tableR 56 = .ok (.sipush 21846, 3) := by decide +kernel
theorem dX11_tableR_59 : decode cX11_tableR 59 = .ok (.ireturn, 1) := by decide +kernel
theorem dX11_tableR_60 : decode cX11_tableR 60 = .ok (.sipush 20165, 3) := by decide +kernel
theorem dX11_tableR_63 : decode cX11_tableR 63 = .ok (.ireturn, 1) := by decide +kernel
theorem dX11_tableR_64 : decode cX11_tableR 64 = .ok (.sipush 18725, 3) := by decide +kernel
theorem dX11_tableR_67 : decode cX11_tableR 67 = .ok (.ireturn, 1) := by decide +kernel
theorem dX11_tableR_68 : decode cX11_tableR 68 = .ok (.sipush 17476, 3) := by decide +kernel
theorem dX11_tableR_71 : decode cX11_tableR 71 = .ok (.ireturn, 1) := by decide +kernel
theorem dX11_tableR_72 : decode cX11_tableR 72 = .ok (.sipush 16384, 3) := by decide +kernel
theorem dX11_tableR_75 : decode cX11_tableR 75 = .ok (.ireturn, 1) := by decide +kernel
theorem dX11_tableF_0 : decode cX11_tableF 0 = .ok (.iload_n 0, 1) := by decide +kernel
theorem dX11_tableF_1 : decode cX11_tableF 1 = .ok (.bipush 7, 2) := by decide +kernel
theorem dX11_tableF_3 : decode cX11_tableF 3 = .ok (.if_icmp .ne 9, 3) := by decide +kernel
theorem dX11_tableF_6 : decode cX11_tableF 6 = .ok (.sipush 32767, 3) := by decide +kernel
theorem dX11_tableF_9 : decode cX11_tableF 9 = .ok (.goto 12, 3) := by decide +kernel
theorem dX11_tableF_12 : decode cX11_tableF 12 = .ok (.sipush 18431, 3) := by decide +kernel
theorem dX11_tableF_15 : decode cX11_tableF 15 = .ok (.sipush 2048, 3) := by decide +kernel
theorem dX11_tableF_18 : decode cX11_tableF 18 = .ok (.iload_n 0, 1) := by decide +kernel
theorem dX11_tableF_19 : decode cX11_tableF 19 = .ok (.imul, 1) := by decide +kernel
theorem dX11_tableF_20 : decode cX11_tableF 20 = .ok (.iadd, 1) := by decide +kernel
theorem dX11_tableF_21 : decode cX11_tableF 21 = .ok (.ireturn, 1) := by decide +kernel
theorem dX11_put_0 : decode cX11_put 0 = .ok (.aload_n 0, 1) := by decide +kernel
theorem dX11_put_1 : decode cX11_put 1 = .ok (.iload_n 1, 1) := by decide +kernel
theorem dX11_put_2 : decode cX11_put 2 = .ok (.sipush (-32768), 3) := by decide +kernel
theorem dX11_put_5 : decode cX11_put 5 = .ok (.if_icmp .lt 10, 3) := by decide +kernel
theorem dX11_put_8 : decode cX11_put 8 = .ok (.iload_n 1, 1) := by decide +kernel
theorem dX11_put_9 : decode cX11_put 9 = .ok (.sipush 32767, 3) := by decide +kernel
theorem dX11_put_12 : decode cX11_put 12 = .ok (.if_icmp .le 7, 3) := by decide +kernel
theorem dX11_put_15 : decode cX11_put 15 = .ok (.iconst 1, 1) := by decide +kernel
theorem dX11_put_16 : decode cX11_put 16 = .ok (.goto 18, 3) := by decide +kernel
theorem dX11_put_19 : decode cX11_put 19 = .ok (.aload_n 0, 1) := by decide +kernel
theorem dX11_put_20 : decode cX11_put 20 = .ok (.getfield 88, 3) := by decide +kernel
theorem dX11_put_23 : decode cX11_put 23 = .ok (.sipush 160, 3) := by decide +kernel
theorem dX11_put_26 : decode cX11_put 26 = .ok (.if_icmp .ne 7, 3) := by decide +kernel
theorem dX11_put_29 : decode cX11_put 29 = .ok (.iconst 2, 1) := by decide +kernel
theorem dX11_put_30 : decode cX11_put 30 = .ok (.goto 4, 3) := by decide +kernel
theorem dX11_put_33 : decode cX11_put 33 = .ok (.iconst 0, 1) := by decide +kernel
theorem dX11_put_34 : decode cX11_put 34 = .ok (.invokevirtual 91, 3) := by decide +kernel
theorem dX11_put_37 : decode cX11_put 37 = .ok (.ifCond .eq 5, 3) := by decide +kernel
theorem dX11_put_40 : decode cX11_put 40 = .ok (.iconst 0, 1) := by decide +kernel
theorem dX11_put_41 : decode cX11_put 41 = .ok (.ireturn, 1) := by decide +kernel
theorem dX11_put_42 : decode cX11_put 42 = .ok (.aload_n 0, 1) := by decide +kernel
theorem dX11_put_43 : decode cX11_put 43 = .ok (.getfield 7, 3) := by decide +kernel
theorem dX11_put_46 : decode cX11_put 46 = .ok (.aload_n 0, 1) := by decide +kernel
theorem dX11_put_47 : decode cX11_put 47 = .ok (.getfield 88, 3) := by decide +kernel
theorem dX11_put_50 : decode cX11_put 50 = .ok (.iload_n 1, 1) := by decide +kernel
theorem dX11_put_51 : decode cX11_put 51 = .ok (.i2l, 1) := by decide +kernel
theorem dX11_put_52 : decode cX11_put 52 = .ok (.lastore, 1) := by decide +kernel
theorem dX11_put_53 : decode cX11_put 53 = .ok (.aload_n 0, 1) := by decide +kernel
theorem dX11_put_54 : decode cX11_put 54 = .ok (.dup, 1) := by decide +kernel
theorem dX11_put_55 : decode cX11_put 55 = .ok (.getfield 88, 3) := by decide +kernel
theorem dX11_put_58 : decode cX11_put 58 = .ok (.iconst 1, 1) := by decide +kernel
theorem dX11_put_59 : decode cX11_put 59 = .ok (.iadd, 1) := by decide +kernel
theorem dX11_put_60 : decode cX11_put 60 = .ok (.putfield 88, 3) := by decide +kernel
theorem dX11_put_63 : decode cX11_put 63 = .ok (.aload_n 0, 1) := by decide +kernel
theorem dX11_put_64 : decode cX11_put 64 = .ok (.getfield 88, 3) := by decide +kernel
theorem dX11_put_67 : decode cX11_put 67 = .ok (.ireturn, 1) := by decide +kernel
theorem dX11_fill_0 : decode cX11_fill 0 = .ok (.aload_n 0, 1) := by decide +kernel
theorem dX11_fill_1 : decode cX11_fill 1 = .ok (.iload_n 3, 1) := by decide +kernel
theorem dX11_fill_2 : decode cX11_fill 2 = .ok (.ifCond .lt 10, 3) := by decide +kernel
theorem dX11_fill_5 : decode cX11_fill 5 = .ok (.iload_n 3, 1) := by decide +kernel
theorem dX11_fill_6 : decode cX11_fill 6 = .ok (.sipush 160, 3) := by decide +kernel
theorem dX11_fill_9 : decode cX11_fill 9 = .ok (.if_icmp .le 7, 3) := by decide +kernel
theorem dX11_fill_12 : decode cX11_fill 12 = .ok (.iconst 1, 1) := by decide +kernel
theorem dX11_fill_13 : decode cX11_fill 13 = .ok (.goto 20, 3) := by decide +kernel
theorem dX11_fill_16 : decode cX11_fill 16 = .ok (.aload_n 0, 1) := by decide +kernel
theorem dX11_fill_17 : decode cX11_fill 17 = .ok (.getfield 88, 3) := by decide +kernel
theorem dX11_fill_20 : decode cX11_fill 20 = .ok (.iload_n 3, 1) := by decide +kernel
theorem dX11_fill_21 : decode cX11_fill 21 = .ok (.iadd, 1) := by decide +kernel
theorem dX11_fill_22 : decode cX11_fill 22 = .ok (.sipush 160, 3) := by decide +kernel
theorem dX11_fill_25 : decode cX11_fill 25 = .ok (.if_icmp .le 7, 3) := by decide +kernel
theorem dX11_fill_28 : decode cX11_fill 28 = .ok (.iconst 2, 1) := by decide +kernel
theorem dX11_fill_29 : decode cX11_fill 29 = .ok (.goto 4, 3) := by decide +kernel
theorem dX11_fill_32 : decode cX11_fill 32 = .ok (.iconst 0, 1) := by decide +kernel
theorem dX11_fill_33 : decode cX11_fill 33 = .ok (.invokevirtual 91, 3) := by decide +kernel
theorem dX11_fill_36 : decode cX11_fill 36 = .ok (.ifCond .eq 5, 3) := by decide +kernel
theorem dX11_fill_39 : decode cX11_fill 39 = .ok (.iconst 0, 1) := by decide +kernel
theorem dX11_fill_40 : decode cX11_fill 40 = .ok (.ireturn, 1) := by decide +kernel
theorem dX11_fill_41 : decode cX11_fill 41 = .ok (.iload_n 1, 1) := by decide +kernel
theorem dX11_fill_42 : decode cX11_fill 42 = .ok (.i2l, 1) := by decide +kernel
theorem dX11_fill_43 : decode cX11_fill 43 = .ok (.lstore 4, 2) := by decide +kernel
theorem dX11_fill_45 : decode cX11_fill 45 = .ok (.iconst 0, 1) := by decide +kernel
theorem dX11_fill_46 : decode cX11_fill 46 = .ok (.istore 6, 2) := by decide +kernel
theorem dX11_fill_48 : decode cX11_fill 48 = .ok (.iload 6, 2) := by decide +kernel
theorem dX11_fill_50 : decode cX11_fill 50 = .ok (.iload_n 3, 1) := by decide +kernel
theorem dX11_fill_51 : decode cX11_fill 51 = .ok (.if_icmp .ge 63, 3) := by decide +kernel
theorem dX11_fill_54 : decode cX11_fill 54 = .ok (.lload 4, 2) := by decide +kernel
theorem dX11_fill_56 : decode cX11_fill 56 = .ok (.ldc2_w 95, 3) := by decide +kernel
theorem dX11_fill_59 : decode cX11_fill 59 = .ok (.land, 1) := by decide +kernel
theorem dX11_fill_60 : decode cX11_fill 60 = .ok (.lstore 7, 2) := by decide +kernel
theorem dX11_fill_62 : decode cX11_fill 62 = .ok (.aload_n 0, 1) := by decide +kernel
theorem dX11_fill_63 : decode cX11_fill 63 = .ok (.getfield 7, 3) := by decide +kernel
theorem dX11_fill_66 : decode cX11_fill 66 = .ok (.aload_n 0, 1) := by decide +kernel
theorem dX11_fill_67 : decode cX11_fill 67 = .ok (.getfield 88, 3) := by decide +kernel
theorem dX11_fill_70 : decode cX11_fill 70 = .ok (.lload 7, 2) := by decide +kernel
theorem dX11_fill_72 : decode cX11_fill 72 = .ok (.ldc2_w 72, 3) := by decide +kernel
theorem dX11_fill_75 : decode cX11_fill 75 = .ok (.lcmp, 1) := by decide +kernel
theorem dX11_fill_76 : decode cX11_fill 76 = .ok (.ifCond .le 12, 3) := by decide +kernel
theorem dX11_fill_79 : decode cX11_fill 79 = .ok (.lload 7, 2) := by decide +kernel
theorem dX11_fill_81 : decode cX11_fill 81 = .ok (.ldc2_w 97, 3) := by decide +kernel
theorem dX11_fill_84 : decode cX11_fill 84 = .ok (.lsub, 1) := by decide +kernel
theorem dX11_fill_85 : decode cX11_fill 85 = .ok (.goto 5, 3) := by decide +kernel
theorem dX11_fill_88 : decode cX11_fill 88 = .ok (.lload 7, 2) := by decide +kernel
theorem dX11_fill_90 : decode cX11_fill 90 = .ok (.lastore, 1) := by decide +kernel
theorem dX11_fill_91 : decode cX11_fill 91 = .ok (.aload_n 0, 1) := by decide +kernel
theorem dX11_fill_92 : decode cX11_fill 92 = .ok (.dup, 1) := by decide +kernel
theorem dX11_fill_93 : decode cX11_fill 93 = .ok (.getfield 88, 3) := by decide +kernel
theorem dX11_fill_96 : decode cX11_fill 96 = .ok (.iconst 1, 1) := by decide +kernel
theorem dX11_fill_97 : decode cX11_fill 97 = .ok (.iadd, 1) := by decide +kernel
theorem dX11_fill_98 : decode cX11_fill 98 = .ok (.putfield 88, 3) := by decide +kernel
theorem dX11_fill_101 : decode cX11_fill 101 = .ok (.lload 4, 2) := by decide +kernel
theorem dX11_fill_103 : decode cX11_fill 103 = .ok (.iload_n 2, 1) := by decide +kernel
theorem dX11_fill_104 : decode cX11_fill 104 = .ok (.i2l, 1) := by decide +kernel
theorem dX11_fill_105 : decode cX11_fill 105 = .ok (.ladd, 1) := by decide +kernel
theorem dX11_fill_106 : decode cX11_fill 106 = .ok (.lstore 4, 2) := by decide +kernel
theorem dX11_fill_108 : decode cX11_fill 108 = .ok (.iinc 6 1, 3) := by decide +kernel
theorem dX11_fill_111 : decode cX11_fill 111 = .ok (.goto (-63), 3) := by decide +kernel
theorem dX11_fill_114 : decode cX11_fill 114 = .ok (.aload_n 0, 1) := by decide +kernel
theorem dX11_fill_115 : decode cX11_fill 115 = .ok (.getfield 88, 3) := by decide +kernel
theorem dX11_fill_118 : decode cX11_fill 118 = .ok (.ireturn, 1) := by decide +kernel
theorem dX11_prepares_0 : decode cX11_prepares 0 = .ok (.iconst 0, 1) := by decide +kernel
theorem dX11_prepares_1 : decode cX11_prepares 1 = .ok (.istore_n 1, 1) := by decide +kernel
theorem dX11_prepares_2 : decode cX11_prepares 2 = .ok (.iload_n 1, 1) := by decide +kernel
theorem dX11_prepares_3 : decode cX11_prepares 3 = .ok (.sipush 160, 3) := by decide +kernel
theorem dX11_prepares_6 : decode cX11_prepares 6 = .ok (.if_icmp .ge 133, 3) := by decide +kernel
theorem dX11_prepares_9 : decode cX11_prepares 9 = .ok (.aload_n 0, 1) := by decide +kernel
theorem dX11_prepares_10 : decode cX11_prepares 10 = .ok (.getfield 7, 3) := by decide +kernel
theorem dX11_prepares_13 : decode cX11_prepares 13 = .ok (.iload_n 1, 1) := by decide +kernel
theorem dX11_prepares_14 : decode cX11_prepares 14 = .ok (.laload, 1) := by decide +kernel
theorem dX11_prepares_15 : decode cX11_prepares 15 = .ok (.iconst 3, 1) := by decide +kernel
theorem dX11_prepares_16 : decode cX11_prepares 16 = .ok (.lshr, 1) := by decide +kernel
theorem dX11_prepares_17 : decode cX11_prepares 17 = .ok (.ldc2_w 99, 3) := by decide +kernel
theorem dX11_prepares_20 : decode cX11_prepares 20 = .ok (.lmul, 1) := by decide +kernel
theorem dX11_prepares_21 : decode cX11_prepares 21 = .ok (.lstore_n 2, 1) := by decide +kernel
theorem dX11_prepares_22 : decode cX11_prepares 22 = .ok (.lload_n 2, 1) := by decide +kernel
theorem dX11_prepares_23 : decode cX11_prepares 23 = .ok (.aload_n 0, 1) := by decide +kernel
theorem dX11_prepares_24 : decode cX11_prepares 24 = .ok (.getfield 101, 3) := by decide +kernel
theorem dX11_prepares_27 : decode cX11_prepares 27 = .ok (.lsub, 1) := by decide +kernel
theorem dX11_prepares_28 : decode cX11_prepares 28 = .ok (.ldc2_w 105, 3) := by decide +kernel
theorem dX11_prepares_31 : decode cX11_prepares 31 = .ok (.lmul, 1) := by decide +kernel
theorem dX11_prepares_32 : decode cX11_prepares 32 = .ok (.lstore 4, 2) := by decide +kernel
theorem dX11_prepares_34 : decode cX11_prepares 34 = .ok (.aload_n 0, 1) := by decide +kernel
theorem dX11_prepares_35 : decode cX11_prepares 35 = .ok (.lload_n 2, 1) := by decide +kernel
theorem dX11_prepares_36 : decode cX11_prepares 36 = .ok (.putfield 101, 3) := by decide +kernel
theorem dX11_prepares_39 : decode cX11_prepares 39 = .ok (.aload_n 0, 1) := by decide +kernel
theorem dX11_prepares_40 : decode cX11_prepares 40 = .ok (.getfield 107, 3) := by decide +kernel
theorem dX11_prepares_43 : decode cX11_prepares 43 = .ok (.bipush 15, 2) := by decide +kernel
theorem dX11_prepares_45 : decode cX11_prepares 45 = .ok (.lshr, 1) := by decide +kernel
theorem dX11_prepares_46 : decode cX11_prepares 46 = .ok (.lstore 6, 2) := by decide +kernel
theorem dX11_prepares_48 : decode cX11_prepares 48 = .ok (.aload_n 0, 1) := by decide +kernel
theorem dX11_prepares_49 : decode cX11_prepares 49 = .ok (.getfield 107, 3) := by decide +kernel
theorem dX11_prepares_52 : decode cX11_prepares 52 = .ok (.lload 6, 2) := by decide +kernel
theorem dX11_prepares_54 : decode cX11_prepares 54 = .ok (.ldc2_w 105, 3) := by decide +kernel
theorem dX11_prepares_57 : decode cX11_prepares 57 = .ok (.lmul, 1) := by decide +kernel
theorem dX11_prepares_58 : decode cX11_prepares 58 = .ok (.lsub, 1) := by decide +kernel
theorem dX11_prepares_59 : decode cX11_prepares 59 = .ok (.lstore 8, 2) := by decide +kernel
theorem dX11_prepares_61 : decode cX11_prepares 61 = .ok (.aload_n 0, 1) := by decide +kernel
theorem dX11_prepares_62 : decode cX11_prepares 62 = .ok (.lload 6, 2) := by decide +kernel
theorem dX11_prepares_64 : decode cX11_prepares 64 = .ok (.ldc2_w 110, 3) := by decide +kernel
theorem dX11_prepares_67 : decode cX11_prepares 67 = .ok (.lmul, 1) := by decide +kernel
theorem dX11_prepares_68 : decode cX11_prepares 68 = .ok (.lload 4, 2) := by decide +kernel
theorem dX11_prepares_70 : decode cX11_prepares 70 = .ok (.ladd, 1) := by decide +kernel
theorem dX11_prepares_71 : decode cX11_prepares 71 = .ok (.lload 8, 2) := by decide +kernel
theorem dX11_prepares_73 : decode cX11_prepares 73 = .ok (.ldc2_w 110, 3) := by decide +kernel
theorem dX11_prepares_76 : decode cX11_prepares 76 = .ok (.invokestatic 112, 3) := by decide +kernel
theorem dX11_prepares_79 : decode cX11_prepares 79 = .ok (.ladd, 1) := by decide +kernel
theorem dX11_prepares_80 : decode cX11_prepares 80 = .ok (.invokestatic 116, 3) := by decide +kernel
theorem dX11_prepares_83 : decode cX11_prepares 83 = .ok (.putfield 107, 3) := by decide +kernel
theorem dX11_prepares_86 : decode cX11_prepares 86 = .ok (.aload_n 0, 1) := by decide +kernel
theorem dX11_prepares_87 : decode cX11_prepares 87 = .ok (.getfield 107, 3) := by decide +kernel
theorem dX11_prepares_90 : decode cX11_prepares 90 = .ok (.ldc2_w 80, 3) := by decide +kernel
theorem dX11_prepares_93 : decode cX11_prepares 93 = .ok (.ladd, 1) := by decide +kernel
theorem dX11_prepares_94 : decode cX11_prepares 94 = .ok (.invokestatic 116, 3) := by decide +kernel
theorem dX11_prepares_97 : decode cX11_prepares 97 = .ok (.bipush 15, 2) := by decide +kernel
theorem dX11_prepares_99 : decode cX11_prepares 99 = .ok (.lshr, 1) := by decide +kernel
theorem dX11_prepares_100 : decode cX11_prepares 100 = .ok (.invokestatic 82, 3) := by decide +kernel
theorem dX11_prepares_103 : decode cX11_prepares 103 = .ok (.lstore 10, 2) := by decide +kernel
theorem dX11_prepares_105 : decode cX11_prepares 105 = .ok (.aload_n 0, 1) := by decide +kernel
theorem dX11_prepares_106 : decode cX11_prepares 106 = .ok (.getfield 39, 3) := by decide +kernel
theorem dX11_prepares_109 : decode cX11_prepares 109 = .ok (.iload_n 1, 1) := by decide +kernel
theorem dX11_prepares_110 : decode cX11_prepares 110 = .ok (.lload 10, 2) := by decide +kernel
theorem dX11_prepares_112 : decode cX11_prepares 112 = .ok (.aload_n 0, 1) := by decide +kernel
theorem dX11_prepares_113 : decode cX11_prepares 113 = .ok (.getfield 119, 3) := by decide +kernel
theorem dX11_prepares_116 : decode cX11_prepares 116 = .ok (.ldc2_w 122, 3) := by decide +kernel
theorem dX11_prepares_119 : decode cX11_prepares 119 = .ok (.invokestatic 112, 3) := by decide +kernel
theorem dX11_prepares_122 : decode cX11_prepares 122 = .ok (.ladd, 1) := by decide +kernel
theorem dX11_prepares_123 : decode cX11_prepares 123 = .ok (.invokestatic 82, 3) := by decide +kernel
theorem dX11_prepares_126 : decode cX11_prepares 126 = .ok (.lastore, 1) := by decide +kernel
theorem dX11_prepares_127 : decode cX11_prepares 127 = .ok (.aload_n 0, 1) := by decide +kernel
theorem dX11_prepares_128 : decode cX11_prepares 128 = .ok (.lload 10, 2) := by decide +kernel
theorem dX11_prepares_130 : decode cX11_prepares 130 = .ok (.putfield 119, 3) := by decide +kernel
theorem dX11_prepares_133 : decode cX11_prepares 133 = .ok (.iinc 1 1, 3) := by decide +kernel
theorem dX11_prepares_136 : decode cX11_prepares 136 = .ok (.goto (-134), 3) := by decide +kernel
theorem dX11_prepares_139 : decode cX11_prepares 139 = .ok (.return_, 1) := by decide +kernel
theorem dX11_greatest_0 : decode cX11_greatest 0 = .ok (.lconst 0, 1) := by decide +kernel
theorem dX11_greatest_1 : decode cX11_greatest 1 = .ok (.lstore_n 3, 1) := by decide +kernel
theorem dX11_greatest_2 : decode cX11_greatest 2 = .ok (.iload_n 1, 1) := by decide +kernel
theorem dX11_greatest_3 : decode cX11_greatest 3 = .ok (.istore 5, 2) := by decide +kernel
theorem dX11_greatest_5 : decode cX11_greatest 5 = .ok (.iload 5, 2) := by decide +kernel
theorem dX11_greatest_7 : decode cX11_greatest 7 = .ok (.iload_n 1, 1) := by decide +kernel
theorem dX11_greatest_8 : decode cX11_greatest 8 = .ok (.iload_n 2, 1) := by decide +kernel
theorem dX11_greatest_9 : decode cX11_greatest 9 = .ok (.iadd, 1) := by decide +kernel
theorem dX11_greatest_10 : decode cX11_greatest 10 = .ok (.if_icmp .ge 33, 3) := by decide +kernel
theorem dX11_greatest_13 : decode cX11_greatest 13 = .ok (.aload_n 0, 1) := by decide +kernel
theorem dX11_greatest_14 : decode cX11_greatest 14 = .ok (.iload 5, 2) := by decide +kernel
theorem dX11_greatest_16 : decode cX11_greatest 16 = .ok (.laload, 1) := by decide +kernel
theorem dX11_greatest_17 : decode cX11_greatest 17 = .ok (.invokestatic 124, 3) := by decide +kernel
theorem dX11_greatest_20 : decode cX11_greatest 20 = .ok (.lload_n 3, 1) := by decide +kernel
theorem dX11_greatest_21 : decode cX11_greatest 21 = .ok (.lcmp, 1) := by decide +kernel
theorem dX11_greatest_22 : decode cX11_greatest 22 = .ok (.ifCond .le 13, 3) := by decide +kernel
theorem dX11_greatest_25 : decode cX11_greatest 25 = .ok (.aload_n 0, 1) := by decide +kernel
theorem dX11_greatest_26 : decode cX11_greatest 26 = .ok (.iload 5, 2) := by decide +kernel
theorem dX11_greatest_28 : decode cX11_greatest 28 = .ok (.laload, 1) := by decide +kernel
theorem dX11_greatest_29 : decode cX11_greatest 29 = .ok (.invokestatic 124, 3) := by decide +kernel
theorem dX11_greatest_32 : decode cX11_greatest 32 = .ok (.goto 4, 3) := by decide +kernel
theorem dX11_greatest_35 : decode cX11_greatest 35 = .ok (.lload_n 3, 1) := by decide +kernel
theorem dX11_greatest_36 : decode cX11_greatest 36 = .ok (.lstore_n 3, 1) := by decide +kernel
theorem dX11_greatest_37 : decode cX11_greatest 37 = .ok (.iinc 5 1, 3) := by decide +kernel
theorem dX11_greatest_40 : decode cX11_greatest 40 = .ok (.goto (-35), 3) := by decide +kernel
theorem dX11_greatest_43 : decode cX11_greatest 43 = .ok (.lload_n 3, 1) := by decide +kernel
theorem dX11_greatest_44 : decode cX11_greatest 44 = .ok (.lreturn, 1) := by decide +kernel
theorem dX11_correlates_0 : decode cX11_correlates 0 = .ok (.aload_n 0, 1) := by decide +kernel
theorem dX11_correlates_1 : decode cX11_correlates 1 = .ok (.getfield 39, 3) := by decide +kernel
theorem dX11_correlates_4 : decode cX11_correlates 4 = .ok (.iconst 0, 1) := by decide +kernel
theorem dX11_correlates_5 : decode cX11_correlates 5 = .ok (.sipush 160, 3) := by decide +kernel
theorem dX11_correlates_8 : decode cX11_correlates 8 = .ok (.invokestatic 127, 3) := by decide +kernel
theorem dX11_correlates_11 : decode cX11_correlates 11 = .ok (.lstore_n 1, 1) := by decide +kernel
theorem dX11_correlates_12 : decode cX11_correlates 12 = .ok (.lload_n 1, 1) := by decide +kernel
theorem dX11_correlates_13 : decode cX11_correlates 13 = .ok (.lconst 0, 1) := by decide +kernel
theorem dX11_correlates_14 : decode cX11_correlates 14 = .ok (.lcmp, 1) := by decide +kernel
theorem dX11_correlates_15 : decode cX11_correlates 15 = .ok (.ifCond .ne 7, 3) := by decide +kernel
theorem dX11_correlates_18 : decode cX11_correlates 18 = .ok (.iconst 0, 1) := by decide +kernel
theorem dX11_correlates_19 : decode cX11_correlates 19 = .ok (.goto 13, 3) := by decide +kernel
theorem dX11_correlates_22 : decode cX11_correlates 22 = .ok (.iconst 4, 1) := by decide +kernel
theorem dX11_correlates_23 : decode cX11_correlates 23 = .ok (.lload_n 1, 1) := by decide +kernel
theorem dX11_correlates_24 : decode cX11_correlates 24 = .ok (.ldc2_w 97, 3) := by decide +kernel
theorem dX11_correlates_27 : decode cX11_correlates 27 = .ok (.lmul, 1) := by decide +kernel
theorem dX11_correlates_28 : decode cX11_correlates 28 = .ok (.invokestatic 131, 3) := by decide +kernel
theorem dX11_correlates_31 : decode cX11_correlates 31 = .ok (.isub, 1) := by decide +kernel
theorem dX11_correlates_32 : decode cX11_correlates 32 = .ok (.istore_n 3, 1) := by decide +kernel
theorem dX11_correlates_33 : decode cX11_correlates 33 = .ok (.iload_n 3, 1) := by decide +kernel
theorem dX11_correlates_34 : decode cX11_correlates 34 = .ok (.ifCond .le 44, 3) := by decide +kernel
theorem dX11_correlates_37 : decode cX11_correlates 37 = .ok (.iconst 0, 1) := by decide +kernel
theorem dX11_correlates_38 : decode cX11_correlates 38 = .ok (.istore 4, 2) := by decide +kernel
theorem dX11_correlates_40 : decode cX11_correlates 40 = .ok (.iload 4, 2) := by decide +kernel
theorem dX11_correlates_42 : decode cX11_correlates 42 = .ok (.sipush 160, 3) := by decide +kernel
theorem dX11_correlates_45 : decode cX11_correlates 45 = .ok (.if_icmp .ge 33, 3) := by decide +kernel
theorem dX11_correlates_48 : decode cX11_correlates 48 = .ok (.aload_n 0, 1) := by decide +kernel
theorem dX11_correlates_49 : decode cX11_correlates 49 = .ok (.getfield 39, 3) := by decide +kernel
theorem dX11_correlates_52 : decode cX11_correlates 52 = .ok (.iload 4, 2) := by decide +kernel
theorem dX11_correlates_54 : decode cX11_correlates 54 = .ok (.aload_n 0, 1) := by decide +kernel
theorem dX11_correlates_55 : decode cX11_correlates 55 = .ok (.getfield 39, 3) := by decide +kernel
theorem dX11_correlates_58 : decode cX11_correlates 58 = .ok (.iload 4, 2) := by decide +kernel
theorem dX11_correlates_60 : decode cX11_correlates 60 = .ok (.laload, 1) := by decide +kernel
theorem dX11_correlates_61 : decode cX11_correlates 61 = .ok (.ldc2_w 80, 3) := by decide +kernel
theorem dX11_correlates_64 : decode cX11_correlates 64 = .ok (.iload_n 3, 1) := by decide +kernel
theorem dX11_correlates_65 : decode cX11_correlates 65 = .ok (.iconst 1, 1) := by decide +kernel
theorem dX11_correlates_66 : decode cX11_correlates 66 = .ok (.isub, 1) := by decide +kernel
theorem dX11_correlates_67 : decode cX11_correlates 67 = .ok (.lshr, 1) := by decide +kernel
theorem dX11_correlates_68 : decode cX11_correlates 68 = .ok (.invokestatic 112, 3) := by decide +kernel
theorem dX11_correlates_71 : decode cX11_correlates 71 = .ok (.lastore, 1) := by decide +kernel
theorem dX11_correlates_72 : decode cX11_correlates 72 = .ok (.iinc 4 1, 3) := by decide +kernel
theorem dX11_correlates_75 : decode cX11_correlates 75 = .ok (.goto (-35), 3) := by decide +kernel
theorem dX11_correlates_78 : decode cX11_correlates 78 = .ok (.iconst 0, 1) := by decide +kernel
theorem dX11_correlates_79 : decode cX11_correlates 79 = .ok (.istore 4, 2) := by decide +kernel
theorem dX11_correlates_81 : decode cX11_correlates 81 = .ok (.iload 4, 2) := by decide +kernel
theorem dX11_correlates_83 : decode cX11_correlates 83 = .ok (.bipush 9, 2) := by decide +kernel
theorem dX11_correlates_85 : decode cX11_correlates 85 = .ok (.if_icmp .ge 66, 3) := by decide +kernel
theorem dX11_correlates_88 : decode cX11_correlates 88 = .ok (.lconst 0, 1) := by decide +kernel
theorem dX11_correlates_89 : decode cX11_correlates 89 = .ok (.lstore 5, 2) := by decide +kernel
theorem dX11_correlates_91 : decode cX11_correlates 91 = .ok (.iload 4, 2) := by decide +kernel
theorem dX11_correlates_93 : decode cX11_correlates 93 = .ok (.istore 7, 2) := by decide +kernel
theorem dX11_correlates_95 : decode cX11_correlates 95 = .ok (.iload 7, 2) := by decide +kernel
theorem dX11_correlates_97 : decode cX11_correlates 97 = .ok (.sipush 160, 3) := by decide +kernel
theorem dX11_correlates_100 : decode cX11_correlates 100 = .ok (.if_icmp .ge 32, 3) := by decide +kernel
theorem dX11_correlates_103 : decode cX11_correlates 103 = .ok (.lload 5, 2) := by decide +kernel
theorem dX11_correlates_105 : decode cX11_correlates 105 = .ok (.aload_n 0, 1) := by decide +kernel
theorem dX11_correlates_106 : decode cX11_correlates 106 = .ok (.getfield 39, 3) := by decide +kernel
theorem dX11_correlates_109 : decode cX11_correlates 109 = .ok (.iload 7, 2) := by decide +kernel
theorem dX11_correlates_111 : decode cX11_correlates 111 = .ok (.laload, 1) := by decide +kernel
theorem dX11_correlates_112 : decode cX11_correlates 112 = .ok (.aload_n 0, 1) := by decide +kernel
theorem dX11_correlates_113 : decode cX11_correlates 113 = .ok (.getfield 39, 3) := by decide +kernel
theorem dX11_correlates_116 : decode cX11_correlates 116 = .ok (.iload 7, 2) := by decide +kernel
theorem dX11_correlates_118 : decode cX11_correlates 118 = .ok (.iload 4, 2) := by decide +kernel
theorem dX11_correlates_120 : decode cX11_correlates 120 = .ok (.isub, 1) := by decide +kernel
theorem dX11_correlates_121 : decode cX11_correlates 121 = .ok (.laload, 1) := by decide +kernel
theorem dX11_correlates_122 : decode cX11_correlates 122 = .ok (.lmul, 1) := by decide +kernel
theorem dX11_correlates_123 : decode cX11_correlates 123 = .ok (.ladd, 1) := by decide +kernel
theorem dX11_correlates_124 : decode cX11_correlates 124 = .ok (.lstore 5, 2) := by decide +kernel
theorem dX11_correlates_126 : decode cX11_correlates 126 = .ok (.iinc 7 1, 3) := by decide +kernel
theorem dX11_correlates_129 : decode cX11_correlates 129 = .ok (.goto (-34), 3) := by decide +kernel
theorem dX11_correlates_132 : decode cX11_correlates 132 = .ok (.aload_n 0, 1) := by decide +kernel
theorem dX11_correlates_133 : decode cX11_correlates 133 = .ok (.getfield 51, 3) := by decide +kernel
theorem dX11_correlates_136 : decode cX11_correlates 136 = .ok (.iload 4, 2) := by decide +kernel
theorem dX11_correlates_138 : decode cX11_correlates 138 = .ok (.ldc2_w 135, 3) := by decide +kernel
theorem dX11_correlates_141 : decode cX11_correlates 141 = .ok (.lload 5, 2) := by decide +kernel
theorem dX11_correlates_143 : decode cX11_correlates 143 = .ok (.lmul, 1) := by decide +kernel
theorem dX11_correlates_144 : decode cX11_correlates 144 = .ok (.lastore, 1) := by decide +kernel
theorem dX11_correlates_145 : decode cX11_correlates 145 = .ok (.iinc 4 1, 3) := by decide +kernel
theorem dX11_correlates_148 : decode cX11_correlates 148 = .ok (.goto (-67), 3) := by decide +kernel
theorem dX11_correlates_151 : decode cX11_correlates 151 = .ok (.iconst 0, 1) := by decide +kernel
theorem dX11_correlates_152 : decode cX11_correlates 152 = .ok (.istore 4, 2) := by decide +kernel
theorem dX11_correlates_154 : decode cX11_correlates 154 = .ok (.iload 4, 2) := by decide +kernel
theorem dX11_correlates_156 : decode cX11_correlates 156 = .ok (.sipush 160, 3) := by decide +kernel
theorem dX11_correlates_159 : decode cX11_correlates 159 = .ok (.if_icmp .ge 32, 3) := by decide +kernel
theorem dX11_correlates_162 : decode cX11_correlates 162 = .ok (.iload_n 3, 1) := by decide +kernel
theorem dX11_correlates_163 : decode cX11_correlates 163 = .ok (.ifCond .le 28, 3) := by decide +kernel
theorem dX11_correlates_166 : decode cX11_correlates 166 = .ok (.aload_n 0, 1) := by decide +kernel
theorem dX11_correlates_167 : decode cX11_correlates 167 = .ok (.getfield 39, 3) := by decide +kernel
theorem dX11_correlates_170 : decode cX11_correlates 170 = .ok (.iload 4, 2) := by decide +kernel
theorem dX11_correlates_172 : decode cX11_correlates 172 = .ok (.aload_n 0, 1) := by decide +kernel
theorem dX11_correlates_173 : decode cX11_correlates 173 = .ok (.getfield 39, 3) := by decide +kernel
theorem dX11_correlates_176 : decode cX11_correlates 176 = .ok (.iload 4, 2) := by decide +kernel
theorem dX11_correlates_178 : decode cX11_correlates 178 = .ok (.laload, 1) := by decide +kernel
theorem dX11_correlates_179 : decode cX11_correlates 179 = .ok (.iload_n 3, 1) := by decide +kernel
theorem dX11_correlates_180 : decode cX11_correlates 180 = .ok (.lshl, 1) := by decide +kernel
theorem dX11_correlates_181 : decode cX11_correlates 181 = .ok (.invokestatic 82, 3) := by decide +kernel
theorem dX11_correlates_184 : decode cX11_correlates 184 = .ok (.lastore, 1) := by decide +kernel
theorem dX11_correlates_185 : decode cX11_correlates 185 = .ok (.iinc 4 1, 3) := by decide +kernel
theorem dX11_correlates_188 : decode cX11_correlates 188 = .ok (.goto (-34), 3) := by decide +kernel
theorem dX11_correlates_191 : decode cX11_correlates 191 = .ok (.return_, 1) := by decide +kernel
theorem dX11_reflects_0 : decode cX11_reflects 0 = .ok (.iconst 0, 1) := by decide +kernel
theorem dX11_reflects_1 : decode cX11_reflects 1 = .ok (.istore_n 1, 1) := by decide +kernel
theorem dX11_reflects_2 : decode cX11_reflects 2 = .ok (.iload_n 1, 1) := by decide +kernel
theorem dX11_reflects_3 : decode cX11_reflects 3 = .ok (.bipush 9, 2) := by decide +kernel
theorem dX11_reflects_5 : decode cX11_reflects 5 = .ok (.if_icmp .ge 16, 3) := by decide +kernel
theorem dX11_reflects_8 : decode cX11_reflects 8 = .ok (.aload_n 0, 1) := by decide +kernel
theorem dX11_reflects_9 : decode cX11_reflects 9 = .ok (.getfield 60, 3) := by decide +kernel
theorem dX11_reflects_12 : decode cX11_reflects 12 = .ok (.iload_n 1, 1) := by decide +kernel
theorem dX11_reflects_13 : decode cX11_reflects 13 = .ok (.lconst 0, 1) := by decide +kernel
theorem dX11_reflects_14 : decode cX11_reflects 14 = .ok (.lastore, 1) := by decide +kernel
theorem dX11_reflects_15 : decode cX11_reflects 15 = .ok (.iinc 1 1, 3) := by decide +kernel
theorem dX11_reflects_18 : decode cX11_reflects 18 = .ok (.goto (-16), 3) := by decide +kernel
theorem dX11_reflects_21 : decode cX11_reflects 21 = .ok (.aload_n 0, 1) := by decide +kernel
theorem dX11_reflects_22 : decode cX11_reflects 22 = .ok (.getfield 51, 3) := by decide +kernel
theorem dX11_reflects_25 : decode cX11_reflects 25 = .ok (.iconst 0, 1) := by decide +kernel
theorem dX11_reflects_26 : decode cX11_reflects 26 = .ok (.laload, 1) := by decide +kernel
theorem dX11_reflects_27 : decode cX11_reflects 27 = .ok (.lconst 0, 1) := by decide +kernel
theorem dX11_reflects_28 : decode cX11_reflects 28 = .ok (.lcmp, 1) := by decide +kernel
theorem dX11_reflects_29 : decode cX11_reflects 29 = .ok (.ifCond .ne 4, 3) := by decide +kernel
theorem dX11_reflects_32 : decode cX11_reflects 32 = .ok (.return_, 1) := by decide +kernel
theorem dX11_reflects_33 : decode cX11_reflects 33 = .ok (.aload_n 0, 1) := by decide +kernel
theorem dX11_reflects_34 : decode cX11_reflects 34 = .ok (.getfield 51, 3) := by decide +kernel
theorem dX11_reflects_37 : decode cX11_reflects 37 = .ok (.iconst 0, 1) := by decide +kernel
theorem dX11_reflects_38 : decode cX11_reflects 38 = .ok (.laload, 1) := by decide +kernel
theorem dX11_reflects_39 : decode cX11_reflects 39 = .ok (.invokestatic 131, 3) := by decide +kernel
theorem dX11_reflects_42 : decode cX11_reflects 42 = .ok (.istore_n 1, 1) := by decide +kernel
theorem dX11_reflects_43 : decode cX11_reflects 43 = .ok (.iconst 0, 1) := by decide +kernel
theorem dX11_reflects_44 : decode cX11_reflects 44 = .ok (.istore_n 2, 1) := by decide +kernel
theorem dX11_reflects_45 : decode cX11_reflects 45 = .ok (.iload_n 2, 1) := by decide +kernel
theorem dX11_reflects_46 : decode cX11_reflects 46 = .ok (.bipush 9, 2) := by decide +kernel
theorem dX11_reflects_48 : decode cX11_reflects 48 = .ok (.if_icmp .ge 38, 3) := by decide +kernel
theorem dX11_reflects_51 : decode cX11_reflects 51 = .ok (.aload_n 0, 1) := by decide +kernel
theorem dX11_reflects_52 : decode cX11_reflects 52 = .ok (.getfield 54, 3) := by decide +kernel
theorem dX11_reflects_55 : decode cX11_reflects 55 = .ok (.iload_n 2, 1) := by decide +kernel
theorem dX11_reflects_56 : decode cX11_reflects 56 = .ok (.aload_n 0, 1) := by decide +kernel
theorem dX11_reflects_57 : decode cX11_reflects 57 = .ok (.getfield 51, 3) := by decide +kernel
theorem dX11_reflects_60 : decode cX11_reflects 60 = .ok (.iload_n 2, 1) := by decide +kernel
theorem dX11_reflects_61 : decode cX11_reflects 61 = .ok (.laload, 1) := by decide +kernel
theorem dX11_reflects_62 : decode cX11_reflects 62 = .ok (.iload_n 1, 1) := by decide +kernel
theorem dX11_reflects_63 : decode cX11_reflects 63 = .ok (.lshl, 1) := by decide +kernel
theorem dX11_reflects_64 : decode cX11_reflects 64 = .ok (.bipush 16, 2) := by decide +kernel
theorem dX11_reflects_66 : decode cX11_reflects 66 = .ok (.lshr, 1) := by decide +kernel
theorem dX11_reflects_67 : decode cX11_reflects 67 = .ok (.lastore, 1) := by decide +kernel
theorem dX11_reflects_68 : decode cX11_reflects 68 = .ok (.aload_n 0, 1) := by decide +kernel
theorem dX11_reflects_69 : decode cX11_reflects 69 = .ok (.getfield 57, 3) := by decide +kernel
theorem dX11_reflects_72 : decode cX11_reflects 72 = .ok (.iload_n 2, 1) := by decide +kernel
theorem dX11_reflects_73 : decode cX11_reflects 73 = .ok (.aload_n 0, 1) := by decide +kernel
theorem dX11_reflects_74 : decode cX11_reflects 74 = .ok (.getfield 54, 3) := by decide +kernel
theorem dX11_reflects_77 : decode cX11_reflects 77 = .ok (.iload_n 2, 1) := by decide +kernel
theorem dX11_reflects_78 : decode cX11_reflects 78 = .ok (.laload, 1) := by decide +kernel
theorem dX11_reflects_79 : decode cX11_reflects 79 = .ok (.lastore, 1) := by decide +kernel
theorem dX11_reflects_80 : decode cX11_reflects 80 = .ok (.iinc 2 1, 3) := by decide +kernel
theorem dX11_reflects_83 : decode cX11_reflects 83 = .ok (.goto (-38), 3) := by decide +kernel
theorem dX11_reflects_86 : decode cX11_reflects 86 = .ok (.iconst 1, 1) := by decide +kernel
theorem dX11_reflects_87 : decode cX11_reflects 87 = .ok (.istore_n 2, 1) := by decide +kernel
theorem dX11_reflects_88 : decode cX11_reflects 88 = .ok (.iload_n 2, 1) := by decide +kernel
theorem dX11_reflects_89 : decode cX11_reflects 89 = .ok (.bipush 9, 2) := by decide +kernel
theorem dX11_reflects_91 : decode cX11_reflects 91 = .ok (.if_icmp .ge 224, 3) := by decide +kernel
theorem dX11_reflects_94 : decode cX11_reflects 94 = .ok (.aload_n 0, 1) := by decide +kernel
theorem dX11_reflects_95 : decode cX11_reflects 95 = .ok (.getfield 54, 3) := by decide +kernel
theorem dX11_reflects_98 : decode cX11_reflects 98 = .ok (.iconst 1, 1) := by decide +kernel
theorem dX11_reflects_99 : decode cX11_reflects 99 = .ok (.laload, 1) := by decide +kernel
theorem dX11_reflects_100 : decode cX11_reflects 100 = .ok (.invokestatic 124, 3) := by decide +kernel
theorem dX11_reflects_103 : decode cX11_reflects 103 = .ok (.lstore_n 3, 1) := by decide +kernel
theorem dX11_reflects_104 : decode cX11_reflects 104 = .ok (.aload_n 0, 1) := by decide +kernel
theorem dX11_reflects_105 : decode cX11_reflects 105 = .ok (.getfield 54, 3) := by decide +kernel
theorem dX11_reflects_108 : decode cX11_reflects 108 = .ok (.iconst 0, 1) := by decide +kernel
theorem dX11_reflects_109 : decode cX11_reflects 109 = .ok (.laload, 1) := by decide +kernel
theorem dX11_reflects_110 : decode cX11_reflects 110 = .ok (.lload_n 3, 1) := by decide +kernel
theorem dX11_reflects_111 : decode cX11_reflects 111 = .ok (.lcmp, 1) := by decide +kernel
theorem dX11_reflects_112 : decode cX11_reflects 112 = .ok (.ifCond .ge 4, 3) := by decide +kernel
theorem dX11_reflects_115 : decode cX11_reflects 115 = .ok (.return_, 1) := by decide +kernel
theorem dX11_reflects_116 : decode cX11_reflects 116 = .ok (.lload_n 3, 1) := by decide +kernel
theorem dX11_reflects_117 : decode cX11_reflects 117 = .ok (.lconst 0, 1) := by decide +kernel
theorem dX11_reflects_118 : decode cX11_reflects 118 = .ok (.lcmp, 1) := by decide +kernel
theorem dX11_reflects_119 : decode cX11_reflects 119 = .ok (.ifCond .ne 7, 3) := by decide +kernel
theorem dX11_reflects_122 : decode cX11_reflects 122 = .ok (.lconst 0, 1) := by decide +kernel
theorem dX11_reflects_123 : decode cX11_reflects 123 = .ok (.goto 15, 3) := by decide +kernel
theorem dX11_reflects_126 : decode cX11_reflects 126 = .ok (.lload_n 3, 1) := by decide +kernel
theorem dX11_reflects_127 : decode cX11_reflects 127 = .ok (.ldc2_w 105, 3) := by decide +kernel
theorem dX11_reflects_130 : decode cX11_reflects 130 = .ok (.lmul, 1) := by decide +kernel
theorem dX11_reflects_131 : decode cX11_reflects 131 = .ok (.aload_n 0, 1) := by decide +kernel
theorem dX11_reflects_132 : decode cX11_reflects 132 = .ok (.getfield 54, 3) := by decide +kernel
theorem dX11_reflects_135 : decode cX11_reflects 135 = .ok (.iconst 0, 1) := by decide +kernel
theorem dX11_reflects_136 : decode cX11_reflects 136 = .ok (.laload, 1) := by decide +kernel
theorem dX11_reflects_137 : decode cX11_reflects 137 = .ok (.ldiv, 1) := by decide +kernel
theorem dX11_reflects_138 : decode cX11_reflects 138 = .ok (.lstore 5, 2) := by decide +kernel
theorem dX11_reflects_140 : decode cX11_reflects 140 = .ok (.lload 5, 2) := by decide +kernel
theorem dX11_reflects_142 : decode cX11_reflects 142 = .ok (.ldc2_w 72, 3) := by decide +kernel
theorem dX11_reflects_145 : decode cX11_reflects 145 = .ok (.lcmp, 1) := by decide +kernel
theorem dX11_reflects_146 : decode cX11_reflects 146 = .ok (.ifCond .le 9, 3) := by decide +kernel
theorem dX11_reflects_149 : decode cX11_reflects 149 = .ok (.ldc2_w 72, 3) := by decide +kernel
theorem dX11_reflects_152 : decode cX11_reflects 152 = .ok (.goto 5, 3) := by decide +kernel
theorem dX11_reflects_155 : decode cX11_reflects 155 = .ok (.lload 5, 2) := by decide +kernel
theorem dX11_reflects_157 : decode cX11_reflects 157 = .ok (.lstore 5, 2) := by decide +kernel
theorem dX11_reflects_159 : decode cX11_reflects 159 = .ok (.aload_n 0, 1) := by decide +kernel
theorem dX11_reflects_160 : decode cX11_reflects 160 = .ok (.getfield 60, 3) := by decide +kernel
theorem dX11_reflects_163 : decode cX11_reflects 163 = .ok (.iload_n 2, 1) := by decide +kernel
theorem dX11_reflects_164 : decode cX11_reflects 164 = .ok (.aload_n 0, 1) := by decide +kernel
theorem dX11_reflects_165 : decode cX11_reflects 165 = .ok (.getfield 54, 3) := by decide +kernel
theorem dX11_reflects_168 : decode cX11_reflects 168 = .ok (.iconst 1, 1) := by decide +kernel
theorem dX11_reflects_169 : decode cX11_reflects 169 = .ok (.laload, 1) := by decide +kernel
theorem dX11_reflects_170 : decode cX11_reflects 170 = .ok (.lconst 0, 1) := by decide +kernel
theorem dX11_reflects_171 : decode cX11_reflects 171 = .ok (.lcmp, 1) := by decide +kernel
theorem dX11_reflects_172 : decode cX11_reflects 172 = .ok (.ifCond .le 9, 3) := by decide +kernel
theorem dX11_reflects_175 : decode cX11_reflects 175 = .ok (.lload 5, 2) := by decide +kernel
theorem dX11_reflects_177 : decode cX11_reflects 177 = .ok (.lneg, 1) := by decide +kernel
theorem dX11_reflects_178 : decode cX11_reflects 178 = .ok (.goto 5, 3) := by decide +kernel
theorem dX11_reflects_181 : decode cX11_reflects 181 = .ok (.lload 5, 2) := by decide +kernel
theorem dX11_reflects_183 : decode cX11_reflects 183 = .ok (.lastore, 1) := by decide +kernel
theorem dX11_reflects_184 : decode cX11_reflects 184 = .ok (.aload_n 0, 1) := by decide +kernel
theorem dX11_reflects_185 : decode cX11_reflects 185 = .ok (.getfield 54, 3) := by decide +kernel
theorem dX11_reflects_188 : decode cX11_reflects 188 = .ok (.iconst 0, 1) := by decide +kernel
theorem dX11_reflects_189 : decode cX11_reflects 189 = .ok (.aload_n 0, 1) := by decide +kernel
theorem dX11_reflects_190 : decode cX11_reflects 190 = .ok (.getfield 54, 3) := by decide +kernel
theorem dX11_reflects_193 : decode cX11_reflects 193 = .ok (.iconst 0, 1) := by decide +kernel
theorem dX11_reflects_194 : decode cX11_reflects 194 = .ok (.laload, 1) := by decide +kernel
theorem dX11_reflects_195 : decode cX11_reflects 195 = .ok (.aload_n 0, 1) := by decide +kernel
theorem dX11_reflects_196 : decode cX11_reflects 196 = .ok (.getfield 54, 3) := by decide +kernel
theorem dX11_reflects_199 : decode cX11_reflects 199 = .ok (.iconst 1, 1) := by decide +kernel
theorem dX11_reflects_200 : decode cX11_reflects 200 = .ok (.laload, 1) := by decide +kernel
theorem dX11_reflects_201 : decode cX11_reflects 201 = .ok (.aload_n 0, 1) := by decide +kernel
theorem dX11_reflects_202 : decode cX11_reflects 202 = .ok (.getfield 60, 3) := by decide +kernel
theorem dX11_reflects_205 : decode cX11_reflects 205 = .ok (.iload_n 2, 1) := by decide +kernel
theorem dX11_reflects_206 : decode cX11_reflects 206 = .ok (.laload, 1) := by decide +kernel
theorem dX11_reflects_207 : decode cX11_reflects 207 = .ok (.invokestatic 112, 3) := by decide +kernel
theorem dX11_reflects_210 : decode cX11_reflects 210 = .ok (.ladd, 1) := by decide +kernel
theorem dX11_reflects_211 : decode cX11_reflects 211 = .ok (.invokestatic 82, 3) := by decide +kernel
theorem dX11_reflects_214 : decode cX11_reflects 214 = .ok (.lastore, 1) := by decide +kernel
theorem dX11_reflects_215 : decode cX11_reflects 215 = .ok (.iconst 1, 1) := by decide +kernel
theorem dX11_reflects_216 : decode cX11_reflects 216 = .ok (.istore 7, 2) := by decide +kernel
theorem dX11_reflects_218 : decode cX11_reflects 218 = .ok (.iload 7, 2) := by decide +kernel
theorem dX11_reflects_220 : decode cX11_reflects 220 = .ok (.bipush 8, 2) := by decide +kernel
theorem dX11_reflects_222 : decode cX11_reflects 222 = .ok (.iload_n 2, 1) := by decide +kernel
theorem dX11_reflects_223 : decode cX11_reflects 223 = .ok (.isub, 1) := by decide +kernel
theorem dX11_reflects_224 : decode cX11_reflects 224 = .ok (.if_icmp .gt 85, 3) := by decide +kernel
theorem dX11_reflects_227 : decode cX11_reflects 227 = .ok (.aload_n 0, 1) := by decide +kernel
theorem dX11_reflects_228 : decode cX11_reflects 228 = .ok (.getfield 54, 3) := by decide +kernel
theorem dX11_reflects_231 : decode cX11_reflects 231 = .ok (.iload 7, 2) := by decide +kernel
theorem dX11_reflects_233 : decode cX11_reflects 233 = .ok (.iconst 1, 1) := by decide +kernel
theorem dX11_reflects_234 : decode cX11_reflects 234 = .ok (.iadd, 1) := by decide +kernel
theorem dX11_reflects_235 : decode cX11_reflects 235 = .ok (.laload, 1) := by decide +kernel
theorem dX11_reflects_236 : decode cX11_reflects 236 = .ok (.aload_n 0, 1) := by decide +kernel
theorem dX11_reflects_237 : decode cX11_reflects 237 = .ok (.getfield 57, 3) := by decide +kernel
theorem dX11_reflects_240 : decode cX11_reflects 240 = .ok (.iload 7, 2) := by decide +kernel
theorem dX11_reflects_242 : decode cX11_reflects 242 = .ok (.laload, 1) := by decide +kernel
theorem dX11_reflects_243 : decode cX11_reflects 243 = .ok (.aload_n 0, 1) := by decide +kernel
theorem dX11_reflects_244 : decode cX11_reflects 244 = .ok (.getfield 60, 3) := by decide +kernel
theorem dX11_reflects_247 : decode cX11_reflects 247 = .ok (.iload_n 2, 1) := by decide +kernel
theorem dX11_reflects_248 : decode cX11_reflects 248 = .ok (.laload, 1) := by decide +kernel
theorem dX11_reflects_249 : decode cX11_reflects 249 = .ok (.invokestatic 112, 3) := by decide +kernel
theorem dX11_reflects_252 : decode cX11_reflects 252 = .ok (.ladd, 1) := by decide +kernel
theorem dX11_reflects_253 : decode cX11_reflects 253 = .ok (.invokestatic 82, 3) := by decide +kernel
theorem dX11_reflects_256 : decode cX11_reflects 256 = .ok (.lstore 8, 2) := by decide +kernel
theorem dX11_reflects_258 : decode cX11_reflects 258 = .ok (.aload_n 0, 1) := by decide +kernel
theorem dX11_reflects_259 : decode cX11_reflects 259 = .ok (.getfield 57, 3) := by decide +kernel
theorem dX11_reflects_262 : decode cX11_reflects 262 = .ok (.iload 7, 2) := by decide +kernel
theorem dX11_reflects_264 : decode cX11_reflects 264 = .ok (.aload_n 0, 1) := by decide +kernel
theorem dX11_reflects_265 : decode cX11_reflects 265 = .ok (.getfield 57, 3) := by decide +kernel
theorem dX11_reflects_268 : decode cX11_reflects 268 = .ok (.iload 7, 2) := by decide +kernel
theorem dX11_reflects_270 : decode cX11_reflects 270 = .ok (.laload, 1) := by decide +kernel
theorem dX11_reflects_271 : decode cX11_reflects 271 = .ok (.aload_n 0, 1) := by decide +kernel
theorem dX11_reflects_272 : decode cX11_reflects 272 = .ok (.getfield 54, 3) := by decide +kernel
theorem dX11_reflects_275 : decode cX11_reflects 275 = .ok (.iload 7, 2) := by decide +kernel
theorem dX11_reflects_277 : decode cX11_reflects 277 = .ok (.iconst 1, 1) := by decide +kernel
theorem dX11_reflects_278 : decode cX11_reflects 278 = .ok (.iadd, 1) := by decide +kernel
theorem dX11_reflects_279 : decode cX11_reflects 279 = .ok (.laload, 1) := by decide +kernel
theorem dX11_reflects_280 : decode cX11_reflects 280 = .ok (.aload_n 0, 1) := by decide +kernel
theorem dX11_reflects_281 : decode cX11_reflects 281 = .ok (.getfield 60, 3) := by decide +kernel
theorem dX11_reflects_284 : decode cX11_reflects 284 = .ok (.iload_n 2, 1) := by decide +kernel
theorem dX11_reflects_285 : decode cX11_reflects 285 = .ok (.laload, 1) := by decide +kernel
theorem dX11_reflects_286 : decode cX11_reflects 286 = .ok (.invokestatic 112, 3) := by decide +kernel
theorem dX11_reflects_289 : decode cX11_reflects 289 = .ok (.ladd, 1) := by decide +kernel
theorem dX11_reflects_290 : decode cX11_reflects 290 = .ok (.invokestatic 82, 3) := by decide +kernel
theorem dX11_reflects_293 : decode cX11_reflects 293 = .ok (.lastore, 1) := by decide +kernel
theorem dX11_reflects_294 : decode cX11_reflects 294 = .ok (.aload_n 0, 1) := by decide +kernel
theorem dX11_reflects_295 : decode cX11_reflects 295 = .ok (.getfield 54, 3) := by decide +kernel
theorem dX11_reflects_298 : decode cX11_reflects 298 = .ok (.iload 7, 2) := by decide +kernel
theorem dX11_reflects_300 : decode cX11_reflects 300 = .ok (.lload 8, 2) := by decide +kernel
theorem dX11_reflects_302 : decode cX11_reflects 302 = .ok (.lastore, 1) := by decide +kernel
theorem dX11_reflects_303 : decode cX11_reflects 303 = .ok (.iinc 7 1, 3) := by decide +kernel
theorem dX11_reflects_306 : decode cX11_reflects 306 = .ok (.goto (-88), 3) := by decide +kernel
theorem dX11_reflects_309 : decode cX11_reflects 309 = .ok (.iinc 2 1, 3) := by decide +kernel
theorem dX11_reflects_312 : decode cX11_reflects 312 = .ok (.goto (-224), 3) := by decide +kernel
theorem dX11_reflects_315 : decode cX11_reflects 315 = .ok (.return_, 1) := by decide +kernel
theorem dX11_tellsFilter_0 : decode cX11_tellsFilter 0 = .ok (.iconst 0, 1) := by decide +kernel
theorem dX11_tellsFilter_1 : decode cX11_tellsFilter 1 = .ok (.istore_n 1, 1) := by decide +kernel
theorem dX11_tellsFilter_2 : decode cX11_tellsFilter 2 = .ok (.iload_n 1, 1) := by decide +kernel
theorem dX11_tellsFilter_3 : decode cX11_tellsFilter 3 = .ok (.bipush 8, 2) := by decide +kernel
theorem dX11_tellsFilter_5 : decode cX11_tellsFilter 5 = .ok (.if_icmp .ge 171, 3) := by decide +kernel
theorem dX11_tellsFilter_8 : decode cX11_tellsFilter 8 = .ok (.aload_n 0, 1) := by decide +kernel
theorem dX11_tellsFilter_9 : decode cX11_tellsFilter 9 = .ok (.getfield 60, 3) := by decide +kernel
theorem dX11_tellsFilter_12 : decode cX11_tellsFilter 12 = .ok (.iload_n 1, 1) := by decide +kernel
theorem dX11_tellsFilter_13 : decode cX11_tellsFilter 13 = .ok (.iconst 1, 1) := by decide +kernel
theorem dX11_tellsFilter_14 : decode cX11_tellsFilter 14 = .ok (.iadd, 1) := by decide +kernel
theorem dX11_tellsFilter_15 : decode cX11_tellsFilter 15 = .ok (.laload, 1) := by decide +kernel
theorem dX11_tellsFilter_16 : decode cX11_tellsFilter 16 = .ok (.invokestatic 124, 3) := by decide +kernel
theorem dX11_tellsFilter_19 : decode cX11_tellsFilter 19 = .ok (.lstore_n 2, 1) := by decide +kernel
theorem dX11_tellsFilter_20 : decode cX11_tellsFilter 20 = .ok (.lload_n 2, 1) := by decide +kernel
theorem dX11_tellsFilter_21 : decode cX11_tellsFilter 21 = .ok (.ldc2_w 137, 3) := by decide +kernel
theorem dX11_tellsFilter_24 : decode cX11_tellsFilter 24 = .ok (.lcmp, 1) := by decide +kernel
theorem dX11_tellsFilter_25 : decode cX11_tellsFilter 25 = .ok (.ifCond .ge 9, 3) := by decide +kernel
theorem dX11_tellsFilter_28 : decode cX11_tellsFilter 28 = .ok (.lload_n 2, 1) := by decide +kernel
theorem dX11_tellsFilter_29 : decode cX11_tellsFilter 29 = .ok (.iconst 1, 1) := by decide +kernel
theorem dX11_tellsFilter_30 : decode cX11_tellsFilter 30 = .ok (.lshr, 1) := by decide +kernel
theorem dX11_tellsFilter_31 : decode cX11_tellsFilter 31 = .ok (.goto 28, 3) := by decide +kernel
theorem dX11_tellsFilter_34 : decode cX11_tellsFilter 34 = .ok (.lload_n 2, 1) := by decide +kernel
theorem dX11_tellsFilter_35 : decode cX11_tellsFilter 35 = .ok (.ldc2_w 139, 3) := by decide +kernel
theorem dX11_tellsFilter_38 : decode cX11_tellsFilter 38 = .ok (.lcmp, 1) := by decide +kernel
theorem dX11_tellsFilter_39 : decode cX11_tellsFilter 39 = .ok (.ifCond .ge 11, 3) := by decide +kernel
theorem dX11_tellsFilter_42 : decode cX11_tellsFilter 42 = .ok (.lload_n 2, 1) := by decide +kernel
theorem dX11_tellsFilter_43 : decode cX11_tellsFilter 43 = .ok (.ldc2_w 141, 3) := by decide +kernel
theorem dX11_tellsFilter_46 : decode cX11_tellsFilter 46 = .ok (.lsub, 1) := by decide +kernel
theorem dX11_tellsFilter_47 : decode cX11_tellsFilter 47 = .ok (.goto 12, 3) := by decide +kernel
theorem dX11_tellsFilter_50 : decode cX11_tellsFilter 50 = .ok (.lload_n 2, 1) := by decide +kernel
theorem dX11_tellsFilter_51 : decode cX11_tellsFilter 51 = .ok (.ldc2_w 143, 3) := by decide +kernel
theorem dX11_tellsFilter_54 : decode cX11_tellsFilter 54 = .ok (.lsub, 1) := by decide +kernel
theorem dX11_tellsFilter_55 : decode cX11_tellsFilter 55 = .ok (.ldc2_w 99, 3) := by decide +kernel
theorem dX11_tellsFilter_58 : decode cX11_tellsFilter 58 = .ok (.lmul, 1) := by decide +kernel
theorem dX11_tellsFilter_59 : decode cX11_tellsFilter 59 = .ok (.lstore_n 2, 1) := by decide +kernel
theorem dX11_tellsFilter_60 : decode cX11_tellsFilter 60 = .ok (.aload_n 0, 1) := by decide +kernel
theorem dX11_tellsFilter_61 : decode cX11_tellsFilter 61 = .ok (.getfield 60, 3) := by decide +kernel
theorem dX11_tellsFilter_64 : decode cX11_tellsFilter 64 = .ok (.iload_n 1, 1) := by decide +kernel
theorem dX11_tellsFilter_65 : decode cX11_tellsFilter 65 = .ok (.iconst 1, 1) := by decide +kernel
theorem dX11_tellsFilter_66 : decode cX11_tellsFilter 66 = .ok (.iadd, 1) := by decide +kernel
theorem dX11_tellsFilter_67 : decode cX11_tellsFilter 67 = .ok (.laload, 1) := by decide +kernel
theorem dX11_tellsFilter_68 : decode cX11_tellsFilter 68 = .ok (.lconst 0, 1) := by decide +kernel
theorem dX11_tellsFilter_69 : decode cX11_tellsFilter 69 = .ok (.lcmp, 1) := by decide +kernel
theorem dX11_tellsFilter_70 : decode cX11_tellsFilter 70 = .ok (.ifCond .ge 8, 3) := by decide +kernel
theorem dX11_tellsFilter_73 : decode cX11_tellsFilter 73 = .ok (.lload_n 2, 1) := by decide +kernel
theorem dX11_tellsFilter_74 : decode cX11_tellsFilter 74 = .ok (.lneg, 1) := by decide +kernel
theorem dX11_tellsFilter_75 : decode cX11_tellsFilter 75 = .ok (.goto 4, 3) := by decide +kernel
theorem dX11_tellsFilter_78 : decode cX11_tellsFilter 78 = .ok (.lload_n 2, 1) := by decide +kernel
theorem dX11_tellsFilter_79 : decode cX11_tellsFilter 79 = .ok (.lstore_n 2, 1) := by decide +kernel
theorem dX11_tellsFilter_80 : decode cX11_tellsFilter 80 = .ok (.iload_n 1, 1) := by decide +kernel
theorem dX11_tellsFilter_81 : decode cX11_tellsFilter 81 = .ok (.invokestatic 145, 3) := by decide +kernel
theorem dX11_tellsFilter_84 : decode cX11_tellsFilter 84 = .ok (.i2l, 1) := by decide +kernel
theorem dX11_tellsFilter_85 : decode cX11_tellsFilter 85 = .ok (.lload_n 2, 1) := by decide +kernel
theorem dX11_tellsFilter_86 : decode cX11_tellsFilter 86 = .ok (.invokestatic 149, 3) := by decide +kernel
theorem dX11_tellsFilter_89 : decode cX11_tellsFilter 89 = .ok (.iload_n 1, 1) := by decide +kernel
theorem dX11_tellsFilter_90 : decode cX11_tellsFilter 90 = .ok (.invokestatic 152, 3) := by decide +kernel
theorem dX11_tellsFilter_93 : decode cX11_tellsFilter 93 = .ok (.i2l, 1) := by decide +kernel
theorem dX11_tellsFilter_94 : decode cX11_tellsFilter 94 = .ok (.ladd, 1) := by decide +kernel
theorem dX11_tellsFilter_95 : decode cX11_tellsFilter 95 = .ok (.invokestatic 82, 3) := by decide +kernel
theorem dX11_tellsFilter_98 : decode cX11_tellsFilter 98 = .ok (.ldc2_w 155, 3) := by decide +kernel
theorem dX11_tellsFilter_101 : decode cX11_tellsFilter 101 = .ok (.ladd, 1) := by decide +kernel
theorem dX11_tellsFilter_102 : decode cX11_tellsFilter 102 = .ok (.invokestatic 82, 3) := by decide +kernel
theorem dX11_tellsFilter_105 : decode cX11_tellsFilter 105 = .ok (.bipush 9, 2) := by decide +kernel
theorem dX11_tellsFilter_107 : decode cX11_tellsFilter 107 = .ok (.lshr, 1) := by decide +kernel
theorem dX11_tellsFilter_108 : decode cX11_tellsFilter 108 = .ok (.lstore 4, 2) := by decide +kernel
theorem dX11_tellsFilter_110 : decode cX11_tellsFilter 110 = .ok (.iload_n 1, 1) := by decide +kernel
theorem dX11_tellsFilter_111 : decode cX11_tellsFilter 111 = .ok (.invokestatic 157, 3) := by decide +kernel
theorem dX11_tellsFilter_114 : decode cX11_tellsFilter 114 = .ok (.ineg, 1) := by decide +kernel
theorem dX11_tellsFilter_115 : decode cX11_tellsFilter 115 = .ok (.i2l, 1) := by decide +kernel
theorem dX11_tellsFilter_116 : decode cX11_tellsFilter 116 = .ok (.lconst 1, 1) := by decide +kernel
theorem dX11_tellsFilter_117 : decode cX11_tellsFilter 117 = .ok (.lsub, 1) := by decide +kernel
theorem dX11_tellsFilter_118 : decode cX11_tellsFilter 118 = .ok (.lstore 6, 2) := by decide +kernel
theorem dX11_tellsFilter_120 : decode cX11_tellsFilter 120 = .ok (.lload 4, 2) := by decide +kernel
theorem dX11_tellsFilter_122 : decode cX11_tellsFilter 122 = .ok (.lload 6, 2) := by decide +kernel
theorem dX11_tellsFilter_124 : decode cX11_tellsFilter 124 = .ok (.lcmp, 1) := by decide +kernel
theorem dX11_tellsFilter_125 : decode cX11_tellsFilter 125 = .ok (.ifCond .le 8, 3) := by decide +kernel
theorem dX11_tellsFilter_128 : decode cX11_tellsFilter 128 = .ok (.lload 6, 2) := by decide +kernel
theorem dX11_tellsFilter_130 : decode cX11_tellsFilter 130 = .ok (.goto 24, 3) := by decide +kernel
theorem dX11_tellsFilter_133 : decode cX11_tellsFilter 133 = .ok (.lload 4, 2) := by decide +kernel
theorem dX11_tellsFilter_135 : decode cX11_tellsFilter 135 = .ok (.iload_n 1, 1) := by decide +kernel
theorem dX11_tellsFilter_136 : decode cX11_tellsFilter 136 = .ok (.invokestatic 157, 3) := by decide +kernel
theorem dX11_tellsFilter_139 : decode cX11_tellsFilter 139 = .ok (.i2l, 1) := by decide +kernel
theorem dX11_tellsFilter_140 : decode cX11_tellsFilter 140 = .ok (.lcmp, 1) := by decide +kernel
theorem dX11_tellsFilter_141 : decode cX11_tellsFilter 141 = .ok (.ifCond .ge 11, 3) := by decide +kernel
theorem dX11_tellsFilter_144 : decode cX11_tellsFilter 144 = .ok (.iload_n 1, 1) := by decide +kernel
theorem dX11_tellsFilter_145 : decode cX11_tellsFilter 145 = .ok (.invokestatic 157, 3) := by decide +kernel
theorem dX11_tellsFilter_148 : decode cX11_tellsFilter 148 = .ok (.i2l, 1) := by decide +kernel
theorem dX11_tellsFilter_149 : decode cX11_tellsFilter 149 = .ok (.goto 5, 3) := by decide +kernel
theorem dX11_tellsFilter_152 : decode cX11_tellsFilter 152 = .ok (.lload 4, 2) := by decide +kernel
theorem dX11_tellsFilter_154 : decode cX11_tellsFilter 154 = .ok (.lstore 4, 2) := by decide +kernel
theorem dX11_tellsFilter_156 : decode cX11_tellsFilter 156 = .ok (.aload_n 0, 1) := by decide +kernel
theorem dX11_tellsFilter_157 : decode cX11_tellsFilter 157 = .ok (.getfield 17, 3) := by decide +kernel
theorem dX11_tellsFilter_160 : decode cX11_tellsFilter 160 = .ok (.iload_n 1, 1) := by decide +kernel
theorem dX11_tellsFilter_161 : decode cX11_tellsFilter 161 = .ok (.lload 4, 2) := by decide +kernel
theorem dX11_tellsFilter_163 : decode cX11_tellsFilter 163 = .ok (.l2i, 1) := by decide +kernel
theorem dX11_tellsFilter_164 : decode cX11_tellsFilter 164 = .ok (.iload_n 1, 1) := by decide +kernel
theorem dX11_tellsFilter_165 : decode cX11_tellsFilter 165 = .ok (.invokestatic 157, 3) := by decide +kernel
theorem dX11_tellsFilter_168 : decode cX11_tellsFilter 168 = .ok (.isub, 1) := by decide +kernel
theorem dX11_tellsFilter_169 : decode cX11_tellsFilter 169 = .ok (.iastore, 1) := by decide +kernel
theorem dX11_tellsFilter_170 : decode cX11_tellsFilter 170 = .ok (.iinc 1 1, 3) := by decide +kernel
theorem dX11_tellsFilter_173 : decode cX11_tellsFilter 173 = .ok (.goto (-171), 3) := by decide +kernel
theorem dX11_tellsFilter_176 : decode cX11_tellsFilter 176 = .ok (.return_, 1) := by decide +kernel
theorem dX11_makesG_0 : decode cX11_makesG 0 = .ok (.iconst 0, 1) := by decide +kernel
theorem dX11_makesG_1 : decode cX11_makesG 1 = .ok (.istore_n 1, 1) := by decide +kernel
theorem dX11_makesG_2 : decode cX11_makesG 2 = .ok (.iload_n 1, 1) := by decide +kernel
theorem dX11_makesG_3 : decode cX11_makesG 3 = .ok (.bipush 8, 2) := by decide +kernel
theorem dX11_makesG_5 : decode cX11_makesG 5 = .ok (.if_icmp .ge 64, 3) := by decide +kernel
theorem dX11_makesG_8 : decode cX11_makesG 8 = .ok (.aload_n 0, 1) := by decide +kernel
theorem dX11_makesG_9 : decode cX11_makesG 9 = .ok (.getfield 17, 3) := by decide +kernel
theorem dX11_makesG_12 : decode cX11_makesG 12 = .ok (.iload_n 1, 1) := by decide +kernel
theorem dX11_makesG_13 : decode cX11_makesG 13 = .ok (.iaload, 1) := by decide +kernel
theorem dX11_makesG_14 : decode cX11_makesG 14 = .ok (.iload_n 1, 1) := by decide +kernel
theorem dX11_makesG_15 : decode cX11_makesG 15 = .ok (.invokestatic 157, 3) := by decide +kernel
theorem dX11_makesG_18 : decode cX11_makesG 18 = .ok (.iadd, 1) := by decide +kernel
theorem dX11_makesG_19 : decode cX11_makesG 19 = .ok (.i2l, 1) := by decide +kernel
theorem dX11_makesG_20 : decode cX11_makesG 20 = .ok (.invokestatic 82, 3) := by decide +kernel
theorem dX11_makesG_23 : decode cX11_makesG 23 = .ok (.ldc2_w 160, 3) := by decide +kernel
theorem dX11_makesG_26 : decode cX11_makesG 26 = .ok (.lmul, 1) := by decide +kernel
theorem dX11_makesG_27 : decode cX11_makesG 27 = .ok (.ldc2_w 135, 3) := by decide +kernel
theorem dX11_makesG_30 : decode cX11_makesG 30 = .ok (.iload_n 1, 1) := by decide +kernel
theorem dX11_makesG_31 : decode cX11_makesG 31 = .ok (.invokestatic 152, 3) := by decide +kernel
theorem dX11_makesG_34 : decode cX11_makesG 34 = .ok (.i2l, 1) := by decide +kernel
theorem dX11_makesG_35 : decode cX11_makesG 35 = .ok (.lmul, 1) := by decide +kernel
theorem dX11_makesG_36 : decode cX11_makesG 36 = .ok (.lsub, 1) := by decide +kernel
theorem dX11_makesG_37 : decode cX11_makesG 37 = .ok (.invokestatic 82, 3) := by decide +kernel
theorem dX11_makesG_40 : decode cX11_makesG 40 = .ok (.lstore_n 2, 1) := by decide +kernel
theorem dX11_makesG_41 : decode cX11_makesG 41 = .ok (.aload_n 0, 1) := by decide +kernel
theorem dX11_makesG_42 : decode cX11_makesG 42 = .ok (.getfield 63, 3) := by decide +kernel
theorem dX11_makesG_45 : decode cX11_makesG 45 = .ok (.iload_n 1, 1) := by decide +kernel
theorem dX11_makesG_46 : decode cX11_makesG 46 = .ok (.ldc2_w 135, 3) := by decide +kernel
theorem dX11_makesG_49 : decode cX11_makesG 49 = .ok (.iload_n 1, 1) := by decide +kernel
theorem dX11_makesG_50 : decode cX11_makesG 50 = .ok (.invokestatic 162, 3) := by decide +kernel
theorem dX11_makesG_53 : decode cX11_makesG 53 = .ok (.i2l, 1) := by decide +kernel
theorem dX11_makesG_54 : decode cX11_makesG 54 = .ok (.lload_n 2, 1) := by decide +kernel
theorem dX11_makesG_55 : decode cX11_makesG 55 = .ok (.invokestatic 112, 3) := by decide +kernel
theorem dX11_makesG_58 : decode cX11_makesG 58 = .ok (.lmul, 1) := by decide +kernel
theorem dX11_makesG_59 : decode cX11_makesG 59 = .ok (.invokestatic 82, 3) := by decide +kernel
theorem dX11_makesG_62 : decode cX11_makesG 62 = .ok (.lastore, 1) := by decide +kernel
theorem dX11_makesG_63 : decode cX11_makesG 63 = .ok (.iinc 1 1, 3) := by decide +kernel
theorem dX11_makesG_66 : decode cX11_makesG 66 = .ok (.goto (-64), 3) := by decide +kernel
theorem dX11_makesG_69 : decode cX11_makesG 69 = .ok (.return_, 1) := by decide +kernel
theorem dX11_makesR_0 : decode cX11_makesR 0 = .ok (.iconst 0, 1) := by decide +kernel
theorem dX11_makesR_1 : decode cX11_makesR 1 = .ok (.istore_n 3, 1) := by decide +kernel
theorem dX11_makesR_2 : decode cX11_makesR 2 = .ok (.iload_n 3, 1) := by decide +kernel
theorem dX11_makesR_3 : decode cX11_makesR 3 = .ok (.bipush 8, 2) := by decide +kernel
theorem dX11_makesR_5 : decode cX11_makesR 5 = .ok (.if_icmp .ge 204, 3) := by decide +kernel
theorem dX11_makesR_8 : decode cX11_makesR 8 = .ok (.aload_n 0, 1) := by decide +kernel
theorem dX11_makesR_9 : decode cX11_makesR 9 = .ok (.getfield 23, 3) := by decide +kernel
theorem dX11_makesR_12 : decode cX11_makesR 12 = .ok (.iload_n 2, 1) := by decide +kernel
theorem dX11_makesR_13 : decode cX11_makesR 13 = .ok (.iload_n 3, 1) := by decide +kernel
theorem dX11_makesR_14 : decode cX11_makesR 14 = .ok (.iadd, 1) := by decide +kernel
theorem dX11_makesR_15 : decode cX11_makesR 15 = .ok (.laload, 1) := by decide +kernel
theorem dX11_makesR_16 : decode cX11_makesR 16 = .ok (.lstore 4, 2) := by decide +kernel
theorem dX11_makesR_18 : decode cX11_makesR 18 = .ok (.aload_n 0, 1) := by decide +kernel
theorem dX11_makesR_19 : decode cX11_makesR 19 = .ok (.getfield 63, 3) := by decide +kernel
theorem dX11_makesR_22 : decode cX11_makesR 22 = .ok (.iload_n 3, 1) := by decide +kernel
theorem dX11_makesR_23 : decode cX11_makesR 23 = .ok (.laload, 1) := by decide +kernel
theorem dX11_makesR_24 : decode cX11_makesR 24 = .ok (.lstore 6, 2) := by decide +kernel
theorem dX11_makesR_26 : decode cX11_makesR 26 = .ok (.iload_n 1, 1) := by decide +kernel
theorem dX11_makesR_27 : decode cX11_makesR 27 = .ok (.bipush 13, 2) := by decide +kernel
theorem dX11_makesR_29 : decode cX11_makesR 29 = .ok (.if_icmp .ge 32, 3) := by decide +kernel
theorem dX11_makesR_32 : decode cX11_makesR 32 = .ok (.lload 4, 2) := by decide +kernel
theorem dX11_makesR_34 : decode cX11_makesR 34 = .ok (.iconst 2, 1) := by decide +kernel
theorem dX11_makesR_35 : decode cX11_makesR 35 = .ok (.lshr, 1) := by decide +kernel
theorem dX11_makesR_36 : decode cX11_makesR 36 = .ok (.aload_n 0, 1) := by decide +kernel
theorem dX11_makesR_37 : decode cX11_makesR 37 = .ok (.getfield 63, 3) := by decide +kernel
theorem dX11_makesR_40 : decode cX11_makesR 40 = .ok (.iload_n 3, 1) := by decide +kernel
theorem dX11_makesR_41 : decode cX11_makesR 41 = .ok (.laload, 1) := by decide +kernel
theorem dX11_makesR_42 : decode cX11_makesR 42 = .ok (.iconst 2, 1) := by decide +kernel
theorem dX11_makesR_43 : decode cX11_makesR 43 = .ok (.lshr, 1) := by decide +kernel
theorem dX11_makesR_44 : decode cX11_makesR 44 = .ok (.ladd, 1) := by decide +kernel
theorem dX11_makesR_45 : decode cX11_makesR 45 = .ok (.invokestatic 82, 3) := by decide +kernel
theorem dX11_makesR_48 : decode cX11_makesR 48 = .ok (.lload 4, 2) := by decide +kernel
theorem dX11_makesR_50 : decode cX11_makesR 50 = .ok (.iconst 1, 1) := by decide +kernel
theorem dX11_makesR_51 : decode cX11_makesR 51 = .ok (.lshr, 1) := by decide +kernel
theorem dX11_makesR_52 : decode cX11_makesR 52 = .ok (.ladd, 1) := by decide +kernel
theorem dX11_makesR_53 : decode cX11_makesR 53 = .ok (.invokestatic 82, 3) := by decide +kernel
theorem dX11_makesR_56 : decode cX11_makesR 56 = .ok (.lstore 6, 2) := by decide +kernel
theorem dX11_makesR_58 : decode cX11_makesR 58 = .ok (.goto 66, 3) := by decide +kernel
theorem dX11_makesR_61 : decode cX11_makesR 61 = .ok (.iload_n 1, 1) := by decide +kernel
theorem dX11_makesR_62 : decode cX11_makesR 62 = .ok (.bipush 27, 2) := by decide +kernel
theorem dX11_makesR_64 : decode cX11_makesR 64 = .ok (.if_icmp .ge 24, 3) := by decide +kernel
theorem dX11_makesR_67 : decode cX11_makesR 67 = .ok (.lload 4, 2) := by decide +kernel
theorem dX11_makesR_69 : decode cX11_makesR 69 = .ok (.iconst 1, 1) := by decide +kernel
theorem dX11_makesR_70 : decode cX11_makesR 70 = .ok (.lshr, 1) := by decide +kernel
theorem dX11_makesR_71 : decode cX11_makesR 71 = .ok (.aload_n 0, 1) := by decide +kernel
theorem dX11_makesR_72 : decode cX11_makesR 72 = .ok (.getfield 63, 3) := by decide +kernel
theorem dX11_makesR_75 : decode cX11_makesR 75 = .ok (.iload_n 3, 1) := by decide +kernel
theorem dX11_makesR_76 : decode cX11_makesR 76 = .ok (.laload, 1) := by decide +kernel
theorem dX11_makesR_77 : decode cX11_makesR 77 = .ok (.iconst 1, 1) := by decide +kernel
theorem dX11_makesR_78 : decode cX11_makesR 78 = .ok (.lshr, 1) := by decide +kernel
theorem dX11_makesR_79 : decode cX11_makesR 79 = .ok (.ladd, 1) := by decide +kernel
theorem dX11_makesR_80 : decode cX11_makesR 80 = .ok (.invokestatic 82, 3) := by decide +kernel
theorem dX11_makesR_83 : decode cX11_makesR 83 = .ok (.lstore 6, 2) := by decide +kernel
theorem dX11_makesR_85 : decode cX11_makesR 85 = .ok (.goto 39, 3) := by decide +kernel
theorem dX11_makesR_88 : decode cX11_makesR 88 = .ok (.iload_n 1, 1) := by decide +kernel
theorem dX11_makesR_89 : decode cX11_makesR 89 = .ok (.bipush 40, 2) := by decide +kernel
theorem dX11_makesR_91 : decode cX11_makesR 91 = .ok (.if_icmp .ge 33, 3) := by decide +kernel
theorem dX11_makesR_94 : decode cX11_makesR 94 = .ok (.lload 4, 2) := by decide +kernel
theorem dX11_makesR_96 : decode cX11_makesR 96 = .ok (.iconst 2, 1) := by decide +kernel
theorem dX11_makesR_97 : decode cX11_makesR 97 = .ok (.lshr, 1) := by decide +kernel
theorem dX11_makesR_98 : decode cX11_makesR 98 = .ok (.aload_n 0, 1) := by decide +kernel
theorem dX11_makesR_99 : decode cX11_makesR 99 = .ok (.getfield 63, 3) := by decide +kernel
theorem dX11_makesR_102 : decode cX11_makesR 102 = .ok (.iload_n 3, 1) := by decide +kernel
theorem dX11_makesR_103 : decode cX11_makesR 103 = .ok (.laload, 1) := by decide +kernel
theorem dX11_makesR_104 : decode cX11_makesR 104 = .ok (.iconst 2, 1) := by decide +kernel
theorem dX11_makesR_105 : decode cX11_makesR 105 = .ok (.lshr, 1) := by decide +kernel
theorem dX11_makesR_106 : decode cX11_makesR 106 = .ok (.ladd, 1) := by decide +kernel
theorem dX11_makesR_107 : decode cX11_makesR 107 = .ok (.invokestatic 82, 3) := by decide +kernel
theorem dX11_makesR_110 : decode cX11_makesR 110 = .ok (.aload_n 0, 1) := by decide +kernel
theorem dX11_makesR_111 : decode cX11_makesR 111 = .ok (.getfield 63, 3) := by decide +kernel
theorem dX11_makesR_114 : decode cX11_makesR 114 = .ok (.iload_n 3, 1) := by decide +kernel
theorem dX11_makesR_115 : decode cX11_makesR 115 = .ok (.laload, 1) := by decide +kernel
theorem dX11_makesR_116 : decode cX11_makesR 116 = .ok (.iconst 1, 1) := by decide +kernel
theorem dX11_makesR_117 : decode cX11_makesR 117 = .ok (.lshr, 1) := by decide +kernel
theorem dX11_makesR_118 : decode cX11_makesR 118 = .ok (.ladd, 1) := by decide +kernel
theorem dX11_makesR_119 : decode cX11_makesR 119 = .ok (.invokestatic 82, 3) := by decide +kernel
theorem dX11_makesR_122 : decode cX11_makesR 122 = .ok (.lstore 6, 2) := by decide +kernel
theorem dX11_makesR_124 : decode cX11_makesR 124 = .ok (.lload 6, 2) := by decide +kernel
theorem dX11_makesR_126 : decode cX11_makesR 126 = .ok (.invokestatic 124, 3) := by decide +kernel
theorem dX11_makesR_129 : decode cX11_makesR 129 = .ok (.lstore 8, 2) := by decide +kernel
theorem dX11_makesR_131 : decode cX11_makesR 131 = .ok (.lload 8, 2) := by decide +kernel
theorem dX11_makesR_133 : decode cX11_makesR 133 = .ok (.ldc2_w 141, 3) := by decide +kernel
theorem dX11_makesR_136 : decode cX11_makesR 136 = .ok (.lcmp, 1) := by decide +kernel
theorem dX11_makesR_137 : decode cX11_makesR 137 = .ok (.ifCond .ge 12, 3) := by decide +kernel
theorem dX11_makesR_140 : decode cX11_makesR 140 = .ok (.ldc2_w 135, 3) := by decide +kernel
theorem dX11_makesR_143 : decode cX11_makesR 143 = .ok (.lload 8, 2) := by decide +kernel
theorem dX11_makesR_145 : decode cX11_makesR 145 = .ok (.lmul, 1) := by decide +kernel
theorem dX11_makesR_146 : decode cX11_makesR 146 = .ok (.goto 32, 3) := by decide +kernel
theorem dX11_makesR_149 : decode cX11_makesR 149 = .ok (.lload 8, 2) := by decide +kernel
theorem dX11_makesR_151 : decode cX11_makesR 151 = .ok (.ldc2_w 165, 3) := by decide +kernel
theorem dX11_makesR_154 : decode cX11_makesR 154 = .ok (.lcmp, 1) := by decide +kernel
theorem dX11_makesR_155 : decode cX11_makesR 155 = .ok (.ifCond .ge 12, 3) := by decide +kernel
theorem dX11_makesR_158 : decode cX11_makesR 158 = .ok (.lload 8, 2) := by decide +kernel
theorem dX11_makesR_160 : decode cX11_makesR 160 = .ok (.ldc2_w 141, 3) := by decide +kernel
theorem dX11_makesR_163 : decode cX11_makesR 163 = .ok (.ladd, 1) := by decide +kernel
theorem dX11_makesR_164 : decode cX11_makesR 164 = .ok (.goto 14, 3) := by decide +kernel
theorem dX11_makesR_167 : decode cX11_makesR 167 = .ok (.lload 8, 2) := by decide +kernel
theorem dX11_makesR_169 : decode cX11_makesR 169 = .ok (.iconst 2, 1) := by decide +kernel
theorem dX11_makesR_170 : decode cX11_makesR 170 = .ok (.lshr, 1) := by decide +kernel
theorem dX11_makesR_171 : decode cX11_makesR 171 = .ok (.ldc2_w 143, 3) := by decide +kernel
theorem dX11_makesR_174 : decode cX11_makesR 174 = .ok (.ladd, 1) := by decide +kernel
theorem dX11_makesR_175 : decode cX11_makesR 175 = .ok (.invokestatic 82, 3) := by decide +kernel
theorem dX11_makesR_178 : decode cX11_makesR 178 = .ok (.lstore 8, 2) := by decide +kernel
theorem dX11_makesR_180 : decode cX11_makesR 180 = .ok (.aload_n 0, 1) := by decide +kernel
theorem dX11_makesR_181 : decode cX11_makesR 181 = .ok (.getfield 60, 3) := by decide +kernel
theorem dX11_makesR_184 : decode cX11_makesR 184 = .ok (.iload_n 3, 1) := by decide +kernel
theorem dX11_makesR_185 : decode cX11_makesR 185 = .ok (.iconst 1, 1) := by decide +kernel
theorem dX11_makesR_186 : decode cX11_makesR 186 = .ok (.iadd, 1) := by decide +kernel
theorem dX11_makesR_187 : decode cX11_makesR 187 = .ok (.lload 6, 2) := by decide +kernel
theorem dX11_makesR_189 : decode cX11_makesR 189 = .ok (.lconst 0, 1) := by decide +kernel
theorem dX11_makesR_190 : decode cX11_makesR 190 = .ok (.lcmp, 1) := by decide +kernel
theorem dX11_makesR_191 : decode cX11_makesR 191 = .ok (.ifCond .ge 9, 3) := by decide +kernel
theorem dX11_makesR_194 : decode cX11_makesR 194 = .ok (.lload 8, 2) := by decide +kernel
theorem dX11_makesR_196 : decode cX11_makesR 196 = .ok (.lneg, 1) := by decide +kernel
theorem dX11_makesR_197 : decode cX11_makesR 197 = .ok (.goto 5, 3) := by decide +kernel
theorem dX11_makesR_200 : decode cX11_makesR 200 = .ok (.lload 8, 2) := by decide +kernel
theorem dX11_makesR_202 : decode cX11_makesR 202 = .ok (.lastore, 1) := by decide +kernel
theorem dX11_makesR_203 : decode cX11_makesR 203 = .ok (.iinc 3 1, 3) := by decide +kernel
theorem dX11_makesR_206 : decode cX11_makesR 206 = .ok (.goto (-204), 3) := by decide +kernel
theorem dX11_makesR_209 : decode cX11_makesR 209 = .ok (.return_, 1) := by decide +kernel
theorem dX11_keepsG_0 : decode cX11_keepsG 0 = .ok (.iconst 0, 1) := by decide +kernel
theorem dX11_keepsG_1 : decode cX11_keepsG 1 = .ok (.istore_n 2, 1) := by decide +kernel
theorem dX11_keepsG_2 : decode cX11_keepsG 2 = .ok (.iload_n 2, 1) := by decide +kernel
theorem dX11_keepsG_3 : decode cX11_keepsG 3 = .ok (.bipush 8, 2) := by decide +kernel
theorem dX11_keepsG_5 : decode cX11_keepsG 5 = .ok (.if_icmp .ge 23, 3) := by decide +kernel
theorem dX11_keepsG_8 : decode cX11_keepsG 8 = .ok (.aload_n 0, 1) := by decide +kernel
theorem dX11_keepsG_9 : decode cX11_keepsG 9 = .ok (.getfield 23, 3) := by decide +kernel
theorem dX11_keepsG_12 : decode cX11_keepsG 12 = .ok (.iload_n 1, 1) := by decide +kernel
theorem dX11_keepsG_13 : decode cX11_keepsG 13 = .ok (.iload_n 2, 1) := by decide +kernel
theorem dX11_keepsG_14 : decode cX11_keepsG 14 = .ok (.iadd, 1) := by decide +kernel
theorem dX11_keepsG_15 : decode cX11_keepsG 15 = .ok (.aload_n 0, 1) := by decide +kernel
theorem dX11_keepsG_16 : decode cX11_keepsG 16 = .ok (.getfield 63, 3) := by decide +kernel
theorem dX11_keepsG_19 : decode cX11_keepsG 19 = .ok (.iload_n 2, 1) := by decide +kernel
theorem dX11_keepsG_20 : decode cX11_keepsG 20 = .ok (.laload, 1) := by decide +kernel
theorem dX11_keepsG_21 : decode cX11_keepsG 21 = .ok (.lastore, 1) := by decide +kernel
theorem dX11_keepsG_22 : decode cX11_keepsG 22 = .ok (.iinc 2 1, 3) := by decide +kernel
theorem dX11_keepsG_25 : decode cX11_keepsG 25 = .ok (.goto (-23), 3) := by decide +kernel
theorem dX11_keepsG_28 : decode cX11_keepsG 28 = .ok (.return_, 1) := by decide +kernel
theorem dX11_leaves_0 : decode cX11_leaves 0 = .ok (.iconst 0, 1) := by decide +kernel
theorem dX11_leaves_1 : decode cX11_leaves 1 = .ok (.istore_n 1, 1) := by decide +kernel
theorem dX11_leaves_2 : decode cX11_leaves 2 = .ok (.iload_n 1, 1) := by decide +kernel
theorem dX11_leaves_3 : decode cX11_leaves 3 = .ok (.sipush 160, 3) := by decide +kernel
theorem dX11_leaves_6 : decode cX11_leaves 6 = .ok (.if_icmp .ge 130, 3) := by decide +kernel
theorem dX11_leaves_9 : decode cX11_leaves 9 = .ok (.iload_n 1, 1) := by decide +kernel
theorem dX11_leaves_10 : decode cX11_leaves 10 = .ok (.ifCond .eq 21, 3) := by decide +kernel
theorem dX11_leaves_13 : decode cX11_leaves 13 = .ok (.iload_n 1, 1) := by decide +kernel
theorem dX11_leaves_14 : decode cX11_leaves 14 = .ok (.bipush 13, 2) := by decide +kernel
theorem dX11_leaves_16 : decode cX11_leaves 16 = .ok (.if_icmp .eq 15, 3) := by decide +kernel
theorem dX11_leaves_19 : decode cX11_leaves 19 = .ok (.iload_n 1, 1) := by decide +kernel
theorem dX11_leaves_20 : decode cX11_leaves 20 = .ok (.bipush 27, 2) := by decide +kernel
theorem dX11_leaves_22 : decode cX11_leaves 22 = .ok (.if_icmp .eq 9, 3) := by decide +kernel
theorem dX11_leaves_25 : decode cX11_leaves 25 = .ok (.iload_n 1, 1) := by decide +kernel
theorem dX11_leaves_26 : decode cX11_leaves 26 = .ok (.bipush 40, 2) := by decide +kernel
theorem dX11_leaves_28 : decode cX11_leaves 28 = .ok (.if_icmp .ne 9, 3) := by decide +kernel
theorem dX11_leaves_31 : decode cX11_leaves 31 = .ok (.aload_n 0, 1) := by decide +kernel
theorem dX11_leaves_32 : decode cX11_leaves 32 = .ok (.iload_n 1, 1) := by decide +kernel
theorem dX11_leaves_33 : decode cX11_leaves 33 = .ok (.iconst 0, 1) := by decide +kernel
theorem dX11_leaves_34 : decode cX11_leaves 34 = .ok (.invokevirtual 167, 3) := by decide +kernel
theorem dX11_leaves_37 : decode cX11_leaves 37 = .ok (.aload_n 0, 1) := by decide +kernel
theorem dX11_leaves_38 : decode cX11_leaves 38 = .ok (.getfield 39, 3) := by decide +kernel
theorem dX11_leaves_41 : decode cX11_leaves 41 = .ok (.iload_n 1, 1) := by decide +kernel
theorem dX11_leaves_42 : decode cX11_leaves 42 = .ok (.laload, 1) := by decide +kernel
theorem dX11_leaves_43 : decode cX11_leaves 43 = .ok (.lstore_n 2, 1) := by decide +kernel
theorem dX11_leaves_44 : decode cX11_leaves 44 = .ok (.aload_n 0, 1) := by decide +kernel
theorem dX11_leaves_45 : decode cX11_leaves 45 = .ok (.getfield 39, 3) := by decide +kernel
theorem dX11_leaves_48 : decode cX11_leaves 48 = .ok (.iload_n 1, 1) := by decide +kernel
theorem dX11_leaves_49 : decode cX11_leaves 49 = .ok (.laload, 1) := by decide +kernel
theorem dX11_leaves_50 : decode cX11_leaves 50 = .ok (.lstore 4, 2) := by decide +kernel
theorem dX11_leaves_52 : decode cX11_leaves 52 = .ok (.iconst 1, 1) := by decide +kernel
theorem dX11_leaves_53 : decode cX11_leaves 53 = .ok (.istore 6, 2) := by decide +kernel
theorem dX11_leaves_55 : decode cX11_leaves 55 = .ok (.iload 6, 2) := by decide +kernel
theorem dX11_leaves_57 : decode cX11_leaves 57 = .ok (.bipush 9, 2) := by decide +kernel
theorem dX11_leaves_59 : decode cX11_leaves 59 = .ok (.if_icmp .ge 64, 3) := by decide +kernel
theorem dX11_leaves_62 : decode cX11_leaves 62 = .ok (.aload_n 0, 1) := by decide +kernel
theorem dX11_leaves_63 : decode cX11_leaves 63 = .ok (.getfield 26, 3) := by decide +kernel
theorem dX11_leaves_66 : decode cX11_leaves 66 = .ok (.iload 6, 2) := by decide +kernel
theorem dX11_leaves_68 : decode cX11_leaves 68 = .ok (.laload, 1) := by decide +kernel
theorem dX11_leaves_69 : decode cX11_leaves 69 = .ok (.lstore 7, 2) := by decide +kernel
theorem dX11_leaves_71 : decode cX11_leaves 71 = .ok (.aload_n 0, 1) := by decide +kernel
theorem dX11_leaves_72 : decode cX11_leaves 72 = .ok (.getfield 26, 3) := by decide +kernel
theorem dX11_leaves_75 : decode cX11_leaves 75 = .ok (.iload 6, 2) := by decide +kernel
theorem dX11_leaves_77 : decode cX11_leaves 77 = .ok (.lload 4, 2) := by decide +kernel
theorem dX11_leaves_79 : decode cX11_leaves 79 = .ok (.lastore, 1) := by decide +kernel
theorem dX11_leaves_80 : decode cX11_leaves 80 = .ok (.lload 7, 2) := by decide +kernel
theorem dX11_leaves_82 : decode cX11_leaves 82 = .ok (.aload_n 0, 1) := by decide +kernel
theorem dX11_leaves_83 : decode cX11_leaves 83 = .ok (.getfield 60, 3) := by decide +kernel
theorem dX11_leaves_86 : decode cX11_leaves 86 = .ok (.iload 6, 2) := by decide +kernel
theorem dX11_leaves_88 : decode cX11_leaves 88 = .ok (.laload, 1) := by decide +kernel
theorem dX11_leaves_89 : decode cX11_leaves 89 = .ok (.lload_n 2, 1) := by decide +kernel
theorem dX11_leaves_90 : decode cX11_leaves 90 = .ok (.invokestatic 112, 3) := by decide +kernel
theorem dX11_leaves_93 : decode cX11_leaves 93 = .ok (.ladd, 1) := by decide +kernel
theorem dX11_leaves_94 : decode cX11_leaves 94 = .ok (.invokestatic 82, 3) := by decide +kernel
theorem dX11_leaves_97 : decode cX11_leaves 97 = .ok (.lstore 4, 2) := by decide +kernel
theorem dX11_leaves_99 : decode cX11_leaves 99 = .ok (.lload_n 2, 1) := by decide +kernel
theorem dX11_leaves_100 : decode cX11_leaves 100 = .ok (.aload_n 0, 1) := by decide +kernel
theorem dX11_leaves_101 : decode cX11_leaves 101 = .ok (.getfield 60, 3) := by decide +kernel
theorem dX11_leaves_104 : decode cX11_leaves 104 = .ok (.iload 6, 2) := by decide +kernel
theorem dX11_leaves_106 : decode cX11_leaves 106 = .ok (.laload, 1) := by decide +kernel
theorem dX11_leaves_107 : decode cX11_leaves 107 = .ok (.lload 7, 2) := by decide +kernel
theorem dX11_leaves_109 : decode cX11_leaves 109 = .ok (.invokestatic 112, 3) := by decide +kernel
theorem dX11_leaves_112 : decode cX11_leaves 112 = .ok (.ladd, 1) := by decide +kernel
theorem dX11_leaves_113 : decode cX11_leaves 113 = .ok (.invokestatic 82, 3) := by decide +kernel
theorem dX11_leaves_116 : decode cX11_leaves 116 = .ok (.lstore_n 2, 1) := by decide +kernel
theorem dX11_leaves_117 : decode cX11_leaves 117 = .ok (.iinc 6 1, 3) := by decide +kernel
theorem dX11_leaves_120 : decode cX11_leaves 120 = .ok (.goto (-65), 3) := by decide +kernel
theorem dX11_leaves_123 : decode cX11_leaves 123 = .ok (.aload_n 0, 1) := by decide +kernel
theorem dX11_leaves_124 : decode cX11_leaves 124 = .ok (.getfield 42, 3) := by decide +kernel
theorem dX11_leaves_127 : decode cX11_leaves 127 = .ok (.iload_n 1, 1) := by decide +kernel
theorem dX11_leaves_128 : decode cX11_leaves 128 = .ok (.lload_n 2, 1) := by decide +kernel
theorem dX11_leaves_129 : decode cX11_leaves 129 = .ok (.lastore, 1) := by decide +kernel
theorem dX11_leaves_130 : decode cX11_leaves 130 = .ok (.iinc 1 1, 3) := by decide +kernel
theorem dX11_leaves_133 : decode cX11_leaves 133 = .ok (.goto (-131), 3) := by decide +kernel
theorem dX11_leaves_136 : decode cX11_leaves 136 = .ok (.return_, 1) := by decide +kernel
theorem dX11_looksBack_0 : decode cX11_looksBack 0 = .ok (.aload_n 0, 1) := by decide +kernel
theorem dX11_looksBack_1 : decode cX11_looksBack 1 = .ok (.getfield 42, 3) := by decide +kernel
theorem dX11_looksBack_4 : decode cX11_looksBack 4 = .ok (.bipush 40, 2) := by decide +kernel
theorem dX11_looksBack_6 : decode cX11_looksBack 6 = .ok (.iload_n 1, 1) := by decide +kernel
theorem dX11_looksBack_7 : decode cX11_looksBack 7 = .ok (.imul, 1) := by decide +kernel
theorem dX11_looksBack_8 : decode cX11_looksBack 8 = .ok (.bipush 40, 2) := by decide +kernel
theorem dX11_looksBack_10 : decode cX11_looksBack 10 = .ok (.invokestatic 127, 3) := by decide +kernel
theorem dX11_looksBack_13 : decode cX11_looksBack 13 = .ok (.lstore_n 3, 1) := by decide +kernel
theorem dX11_looksBack_14 : decode cX11_looksBack 14 = .ok (.lload_n 3, 1) := by decide +kernel
theorem dX11_looksBack_15 : decode cX11_looksBack 15 = .ok (.lconst 0, 1) := by decide +kernel
theorem dX11_looksBack_16 : decode cX11_looksBack 16 = .ok (.lcmp, 1) := by decide +kernel
theorem dX11_looksBack_17 : decode cX11_looksBack 17 = .ok (.ifCond .eq 16, 3) := by decide +kernel
theorem dX11_looksBack_20 : decode cX11_looksBack 20 = .ok (.lload_n 3, 1) := by decide +kernel
theorem dX11_looksBack_21 : decode cX11_looksBack 21 = .ok (.ldc2_w 97, 3) := by decide +kernel
theorem dX11_looksBack_24 : decode cX11_looksBack 24 = .ok (.lmul, 1) := by decide +kernel
theorem dX11_looksBack_25 : decode cX11_looksBack 25 = .ok (.invokestatic 131, 3) := by decide +kernel
theorem dX11_looksBack_28 : decode cX11_looksBack 28 = .ok (.bipush 6, 2) := by decide +kernel
theorem dX11_looksBack_30 : decode cX11_looksBack 30 = .ok (.if_icmp .le 7, 3) := by decide +kernel
theorem dX11_looksBack_33 : decode cX11_looksBack 33 = .ok (.iconst 0, 1) := by decide +kernel
theorem dX11_looksBack_34 : decode cX11_looksBack 34 = .ok (.goto 14, 3) := by decide +kernel
theorem dX11_looksBack_37 : decode cX11_looksBack 37 = .ok (.bipush 6, 2) := by decide +kernel
theorem dX11_looksBack_39 : decode cX11_looksBack 39 = .ok (.lload_n 3, 1) := by decide +kernel
theorem dX11_looksBack_40 : decode cX11_looksBack 40 = .ok (.ldc2_w 97, 3) := by decide +kernel
theorem dX11_looksBack_43 : decode cX11_looksBack 43 = .ok (.lmul, 1) := by decide +kernel
theorem dX11_looksBack_44 : decode cX11_looksBack 44 = .ok (.invokestatic 131, 3) := by decide +kernel
theorem dX11_looksBack_47 : decode cX11_looksBack 47 = .ok (.isub, 1) := by decide +kernel
theorem dX11_looksBack_48 : decode cX11_looksBack 48 = .ok (.istore 5, 2) := by decide +kernel
theorem dX11_looksBack_50 : decode cX11_looksBack 50 = .ok (.bipush 40, 2) := by decide +kernel
theorem dX11_looksBack_52 : decode cX11_looksBack 52 = .ok (.istore 6, 2) := by decide +kernel
theorem dX11_looksBack_54 : decode cX11_looksBack 54 = .ok (.lconst 0, 1) := by decide +kernel
theorem dX11_looksBack_55 : decode cX11_looksBack 55 = .ok (.lstore 7, 2) := by decide +kernel
theorem dX11_looksBack_57 : decode cX11_looksBack 57 = .ok (.bipush 40, 2) := by decide +kernel
theorem dX11_looksBack_59 : decode cX11_looksBack 59 = .ok (.istore 9, 2) := by decide +kernel
theorem dX11_looksBack_61 : decode cX11_looksBack 61 = .ok (.iload 9, 2) := by decide +kernel
theorem dX11_looksBack_63 : decode cX11_looksBack 63 = .ok (.bipush 121, 2) := by decide +kernel
theorem dX11_looksBack_65 : decode cX11_looksBack 65 = .ok (.if_icmp .ge 77, 3) := by decide +kernel
theorem dX11_looksBack_68 : decode cX11_looksBack 68 = .ok (.lconst 0, 1) := by decide +kernel
theorem dX11_looksBack_69 : decode cX11_looksBack 69 = .ok (.lstore 10, 2) := by decide +kernel
theorem dX11_looksBack_71 : decode cX11_looksBack 71 = .ok (.iconst 0, 1) := by decide +kernel
theorem dX11_looksBack_72 : decode cX11_looksBack 72 = .ok (.istore 12, 2) := by decide +kernel
theorem dX11_looksBack_74 : decode cX11_looksBack 74 = .ok (.iload 12, 2) := by decide +kernel
theorem dX11_looksBack_76 : decode cX11_looksBack 76 = .ok (.bipush 40, 2) := by decide +kernel
theorem dX11_looksBack_78 : decode cX11_looksBack 78 = .ok (.if_icmp .ge 42, 3) := by decide +kernel
theorem dX11_looksBack_81 : decode cX11_looksBack 81 = .ok (.lload 10, 2) := by decide +kernel
theorem dX11_looksBack_83 : decode cX11_looksBack 83 = .ok (.aload_n 0, 1) := by decide +kernel
theorem dX11_looksBack_84 : decode cX11_looksBack 84 = .ok (.getfield 42, 3) := by decide +kernel
theorem dX11_looksBack_87 : decode cX11_looksBack 87 = .ok (.bipush 40, 2) := by decide +kernel
theorem dX11_looksBack_89 : decode cX11_looksBack 89 = .ok (.iload_n 1, 1) := by decide +kernel
theorem dX11_looksBack_90 : decode cX11_looksBack 90 = .ok (.imul, 1) := by decide +kernel
theorem dX11_looksBack_91 : decode cX11_looksBack 91 = .ok (.iload 12, 2) := by decide +kernel
theorem dX11_looksBack_93 : decode cX11_looksBack 93 = .ok (.iadd, 1) := by decide +kernel
theorem dX11_looksBack_94 : decode cX11_looksBack 94 = .ok (.laload, 1) := by decide +kernel
theorem dX11_looksBack_95 : decode cX11_looksBack 95 = .ok (.iload 5, 2) := by decide +kernel
theorem dX11_looksBack_97 : decode cX11_looksBack 97 = .ok (.lshr, 1) := by decide +kernel
theorem dX11_looksBack_98 : decode cX11_looksBack 98 = .ok (.aload_n 0, 1) := by decide +kernel
theorem dX11_looksBack_99 : decode cX11_looksBack 99 = .ok (.getfield 32, 3) := by decide +kernel
theorem dX11_looksBack_102 : decode cX11_looksBack 102 = .ok (.iload_n 2, 1) := by decide +kernel
theorem dX11_looksBack_103 : decode cX11_looksBack 103 = .ok (.iload 12, 2) := by decide +kernel
theorem dX11_looksBack_105 : decode cX11_looksBack 105 = .ok (.iadd, 1) := by decide +kernel
theorem dX11_looksBack_106 : decode cX11_looksBack 106 = .ok (.iload 9, 2) := by decide +kernel
theorem dX11_looksBack_108 : decode cX11_looksBack 108 = .ok (.isub, 1) := by decide +kernel
theorem dX11_looksBack_109 : decode cX11_looksBack 109 = .ok (.laload, 1) := by decide +kernel
theorem dX11_looksBack_110 : decode cX11_looksBack 110 = .ok (.lmul, 1) := by decide +kernel
theorem dX11_looksBack_111 : decode cX11_looksBack 111 = .ok (.ladd, 1) := by decide +kernel
theorem dX11_looksBack_112 : decode cX11_looksBack 112 = .ok (.lstore 10, 2) := by decide +kernel
theorem dX11_looksBack_114 : decode cX11_looksBack 114 = .ok (.iinc 12 1, 3) := by decide +kernel
theorem dX11_looksBack_117 : decode cX11_looksBack 117 = .ok (.goto (-43), 3) := by decide +kernel
theorem dX11_looksBack_120 : decode cX11_looksBack 120 = .ok (.lload 10, 2) := by decide +kernel
theorem dX11_looksBack_122 : decode cX11_looksBack 122 = .ok (.lload 7, 2) := by decide +kernel
theorem dX11_looksBack_124 : decode cX11_looksBack 124 = .ok (.lcmp, 1) := by decide +kernel
theorem dX11_looksBack_125 : decode cX11_looksBack 125 = .ok (.ifCond .le 11, 3) := by decide +kernel
theorem dX11_looksBack_128 : decode cX11_looksBack 128 = .ok (.lload 10, 2) := by decide +kernel
theorem dX11_looksBack_130 : decode cX11_looksBack 130 = .ok (.lstore 7, 2) := by decide +kernel
theorem dX11_looksBack_132 : decode cX11_looksBack 132 = .ok (.iload 9, 2) := by decide +kernel
theorem dX11_looksBack_134 : decode cX11_looksBack 134 = .ok (.istore 6, 2) := by decide +kernel
theorem dX11_looksBack_136 : decode cX11_looksBack 136 = .ok (.iinc 9 1, 3) := by decide +kernel
theorem dX11_looksBack_139 : decode cX11_looksBack 139 = .ok (.goto (-78), 3) := by decide +kernel
theorem dX11_looksBack_142 : decode cX11_looksBack 142 = .ok (.ldc2_w 135, 3) := by decide +kernel
theorem dX11_looksBack_145 : decode cX11_looksBack 145 = .ok (.lload 7, 2) := by decide +kernel
theorem dX11_looksBack_147 : decode cX11_looksBack 147 = .ok (.lmul, 1) := by decide +kernel
theorem dX11_looksBack_148 : decode cX11_looksBack 148 = .ok (.bipush 6, 2) := by decide +kernel
theorem dX11_looksBack_150 : decode cX11_looksBack 150 = .ok (.iload 5, 2) := by decide +kernel
theorem dX11_looksBack_152 : decode cX11_looksBack 152 = .ok (.isub, 1) := by decide +kernel
theorem dX11_looksBack_153 : decode cX11_looksBack 153 = .ok (.lshr, 1) := by decide +kernel
theorem dX11_looksBack_154 : decode cX11_looksBack 154 = .ok (.lstore 9, 2) := by decide +kernel
theorem dX11_looksBack_156 : decode cX11_looksBack 156 = .ok (.lconst 0, 1) := by decide +kernel
theorem dX11_looksBack_157 : decode cX11_looksBack 157 = .ok (.lstore 11, 2) := by decide +kernel
theorem dX11_looksBack_159 : decode cX11_looksBack 159 = .ok (.iconst 0, 1) := by decide +kernel
theorem dX11_looksBack_160 : decode cX11_looksBack 160 = .ok (.istore 13, 2) := by decide +kernel
theorem dX11_looksBack_162 : decode cX11_looksBack 162 = .ok (.iload 13, 2) := by decide +kernel
theorem dX11_looksBack_164 : decode cX11_looksBack 164 = .ok (.bipush 40, 2) := by decide +kernel
theorem dX11_looksBack_166 : decode cX11_looksBack 166 = .ok (.if_icmp .ge 47, 3) := by decide +kernel
theorem dX11_looksBack_169 : decode cX11_looksBack 169 = .ok (.lload 11, 2) := by decide +kernel
theorem dX11_looksBack_171 : decode cX11_looksBack 171 = .ok (.ldc2_w 135, 3) := by decide +kernel
theorem dX11_looksBack_174 : decode cX11_looksBack 174 = .ok (.aload_n 0, 1) := by decide +kernel
theorem dX11_looksBack_175 : decode cX11_looksBack 175 = .ok (.getfield 32, 3) := by decide +kernel
theorem dX11_looksBack_178 : decode cX11_looksBack 178 = .ok (.iload_n 2, 1) := by decide +kernel
theorem dX11_looksBack_179 : decode cX11_looksBack 179 = .ok (.iload 13, 2) := by decide +kernel
theorem dX11_looksBack_181 : decode cX11_looksBack 181 = .ok (.iadd, 1) := by decide +kernel
theorem dX11_looksBack_182 : decode cX11_looksBack 182 = .ok (.iload 6, 2) := by decide +kernel
theorem dX11_looksBack_184 : decode cX11_looksBack 184 = .ok (.isub, 1) := by decide +kernel
theorem dX11_looksBack_185 : decode cX11_looksBack 185 = .ok (.laload, 1) := by decide +kernel
theorem dX11_looksBack_186 : decode cX11_looksBack 186 = .ok (.iconst 3, 1) := by decide +kernel
theorem dX11_looksBack_187 : decode cX11_looksBack 187 = .ok (.lshr, 1) := by decide +kernel
theorem dX11_looksBack_188 : decode cX11_looksBack 188 = .ok (.lmul, 1) := by decide +kernel
theorem dX11_looksBack_189 : decode cX11_looksBack 189 = .ok (.aload_n 0, 1) := by decide +kernel
theorem dX11_looksBack_190 : decode cX11_looksBack 190 = .ok (.getfield 32, 3) := by decide +kernel
theorem dX11_looksBack_193 : decode cX11_looksBack 193 = .ok (.iload_n 2, 1) := by decide +kernel
theorem dX11_looksBack_194 : decode cX11_looksBack 194 = .ok (.iload 13, 2) := by decide +kernel
theorem dX11_looksBack_196 : decode cX11_looksBack 196 = .ok (.iadd, 1) := by decide +kernel
theorem dX11_looksBack_197 : decode cX11_looksBack 197 = .ok (.iload 6, 2) := by decide +kernel
theorem dX11_looksBack_199 : decode cX11_looksBack 199 = .ok (.isub, 1) := by decide +kernel
theorem dX11_looksBack_200 : decode cX11_looksBack 200 = .ok (.laload, 1) := by decide +kernel
theorem dX11_looksBack_201 : decode cX11_looksBack 201 = .ok (.iconst 3, 1) := by decide +kernel
theorem dX11_looksBack_202 : decode cX11_looksBack 202 = .ok (.lshr, 1) := by decide +kernel
theorem dX11_looksBack_203 : decode cX11_looksBack 203 = .ok (.lmul, 1) := by decide +kernel
theorem dX11_looksBack_204 : decode cX11_looksBack 204 = .ok (.ladd, 1) := by decide +kernel
theorem dX11_looksBack_205 : decode cX11_looksBack 205 = .ok (.lstore 11, 2) := by decide +kernel
theorem dX11_looksBack_207 : decode cX11_looksBack 207 = .ok (.iinc 13 1, 3) := by decide +kernel
theorem dX11_looksBack_210 : decode cX11_looksBack 210 = .ok (.goto (-48), 3) := by decide +kernel
theorem dX11_looksBack_213 : decode cX11_looksBack 213 = .ok (.iconst 3, 1) := by decide +kernel
theorem dX11_looksBack_214 : decode cX11_looksBack 214 = .ok (.istore 13, 2) := by decide +kernel
theorem dX11_looksBack_216 : decode cX11_looksBack 216 = .ok (.lload 9, 2) := by decide +kernel
theorem dX11_looksBack_218 : decode cX11_looksBack 218 = .ok (.lconst 0, 1) := by decide +kernel
theorem dX11_looksBack_219 : decode cX11_looksBack 219 = .ok (.lcmp, 1) := by decide +kernel
theorem dX11_looksBack_220 : decode cX11_looksBack 220 = .ok (.ifCond .ne 9, 3) := by decide +kernel
theorem dX11_looksBack_223 : decode cX11_looksBack 223 = .ok (.iconst 0, 1) := by decide +kernel
theorem dX11_looksBack_224 : decode cX11_looksBack 224 = .ok (.istore 13, 2) := by decide +kernel
theorem dX11_looksBack_226 : decode cX11_looksBack 226 = .ok (.goto 62, 3) := by decide +kernel
theorem dX11_looksBack_229 : decode cX11_looksBack 229 = .ok (.lload 9, 2) := by decide +kernel
theorem dX11_looksBack_231 : decode cX11_looksBack 231 = .ok (.lload 11, 2) := by decide +kernel
theorem dX11_looksBack_233 : decode cX11_looksBack 233 = .ok (.lcmp, 1) := by decide +kernel
theorem dX11_looksBack_234 : decode cX11_looksBack 234 = .ok (.ifCond .ge 54, 3) := by decide +kernel
theorem dX11_looksBack_237 : decode cX11_looksBack 237 = .ok (.lload 11, 2) := by decide +kernel
theorem dX11_looksBack_239 : decode cX11_looksBack 239 = .ok (.invokestatic 131, 3) := by decide +kernel
theorem dX11_looksBack_242 : decode cX11_looksBack 242 = .ok (.istore 14, 2) := by decide +kernel
theorem dX11_looksBack_244 : decode cX11_looksBack 244 = .ok (.iconst 0, 1) := by decide +kernel
theorem dX11_looksBack_245 : decode cX11_looksBack 245 = .ok (.istore 13, 2) := by decide +kernel
theorem dX11_looksBack_247 : decode cX11_looksBack 247 = .ok (.iload 13, 2) := by decide +kernel
theorem dX11_looksBack_249 : decode cX11_looksBack 249 = .ok (.iconst 3, 1) := by decide +kernel
theorem dX11_looksBack_250 : decode cX11_looksBack 250 = .ok (.if_icmp .ge 38, 3) := by decide +kernel
theorem dX11_looksBack_253 : decode cX11_looksBack 253 = .ok (.lload 9, 2) := by decide +kernel
theorem dX11_looksBack_255 : decode cX11_looksBack 255 = .ok (.iload 14, 2) := by decide +kernel
theorem dX11_looksBack_257 : decode cX11_looksBack 257 = .ok (.lshl, 1) := by decide +kernel
theorem dX11_looksBack_258 : decode cX11_looksBack 258 = .ok (.bipush 16, 2) := by decide +kernel
theorem dX11_looksBack_260 : decode cX11_looksBack 260 = .ok (.lshr, 1) := by decide +kernel
theorem dX11_looksBack_261 : decode cX11_looksBack 261 = .ok (.lload 11, 2) := by decide +kernel
theorem dX11_looksBack_263 : decode cX11_looksBack 263 = .ok (.iload 14, 2) := by decide +kernel
theorem dX11_looksBack_265 : decode cX11_looksBack 265 = .ok (.lshl, 1) := by decide +kernel
theorem dX11_looksBack_266 : decode cX11_looksBack 266 = .ok (.bipush 16, 2) := by decide +kernel
theorem dX11_looksBack_268 : decode cX11_looksBack 268 = .ok (.lshr, 1) := by decide +kernel
theorem dX11_looksBack_269 : decode cX11_looksBack 269 = .ok (.iload 13, 2) := by decide +kernel
theorem dX11_looksBack_271 : decode cX11_looksBack 271 = .ok (.invokestatic 171, 3) := by decide +kernel
theorem dX11_looksBack_274 : decode cX11_looksBack 274 = .ok (.i2l, 1) := by decide +kernel
theorem dX11_looksBack_275 : decode cX11_looksBack 275 = .ok (.invokestatic 149, 3) := by decide +kernel
theorem dX11_looksBack_278 : decode cX11_looksBack 278 = .ok (.lcmp, 1) := by decide +kernel
theorem dX11_looksBack_279 : decode cX11_looksBack 279 = .ok (.ifCond .le 9, 3) := by decide +kernel
theorem dX11_looksBack_282 : decode cX11_looksBack 282 = .ok (.iinc 13 1, 3) := by decide +kernel
theorem dX11_looksBack_285 : decode cX11_looksBack 285 = .ok (.goto (-38), 3) := by decide +kernel
theorem dX11_looksBack_288 : decode cX11_looksBack 288 = .ok (.aload_n 0, 1) := by decide +kernel
theorem dX11_looksBack_289 : decode cX11_looksBack 289 = .ok (.getfield 17, 3) := by decide +kernel
theorem dX11_looksBack_292 : decode cX11_looksBack 292 = .ok (.bipush 8, 2) := by decide +kernel
theorem dX11_looksBack_294 : decode cX11_looksBack 294 = .ok (.bipush 17, 2) := by decide +kernel
theorem dX11_looksBack_296 : decode cX11_looksBack 296 = .ok (.iload_n 1, 1) := by decide +kernel
theorem dX11_looksBack_297 : decode cX11_looksBack 297 = .ok (.imul, 1) := by decide +kernel
theorem dX11_looksBack_298 : decode cX11_looksBack 298 = .ok (.iadd, 1) := by decide +kernel
theorem dX11_looksBack_299 : decode cX11_looksBack 299 = .ok (.iload 6, 2) := by decide +kernel
theorem dX11_looksBack_301 : decode cX11_looksBack 301 = .ok (.iastore, 1) := by decide +kernel
theorem dX11_looksBack_302 : decode cX11_looksBack 302 = .ok (.aload_n 0, 1) := by decide +kernel
theorem dX11_looksBack_303 : decode cX11_looksBack 303 = .ok (.getfield 17, 3) := by decide +kernel
theorem dX11_looksBack_306 : decode cX11_looksBack 306 = .ok (.bipush 9, 2) := by decide +kernel
theorem dX11_looksBack_308 : decode cX11_looksBack 308 = .ok (.bipush 17, 2) := by decide +kernel
theorem dX11_looksBack_310 : decode cX11_looksBack 310 = .ok (.iload_n 1, 1) := by decide +kernel
theorem dX11_looksBack_311 : decode cX11_looksBack 311 = .ok (.imul, 1) := by decide +kernel
theorem dX11_looksBack_312 : decode cX11_looksBack 312 = .ok (.iadd, 1) := by decide +kernel
theorem dX11_looksBack_313 : decode cX11_looksBack 313 = .ok (.iload 13, 2) := by decide +kernel
theorem dX11_looksBack_315 : decode cX11_looksBack 315 = .ok (.iastore, 1) := by decide +kernel
theorem dX11_looksBack_316 : decode cX11_looksBack 316 = .ok (.return_, 1) := by decide +kernel
theorem dX11_filters_0 : decode cX11_filters 0 = .ok (.iconst 0, 1) := by decide +kernel
theorem dX11_filters_1 : decode cX11_filters 1 = .ok (.istore_n 1, 1) := by decide +kernel
theorem dX11_filters_2 : decode cX11_filters 2 = .ok (.iload_n 1, 1) := by decide +kernel
theorem dX11_filters_3 : decode cX11_filters 3 = .ok (.bipush 40, 2) := by decide +kernel
theorem dX11_filters_5 : decode cX11_filters 5 = .ok (.if_icmp .ge 83, 3) := by decide +kernel
theorem dX11_filters_8 : decode cX11_filters 8 = .ok (.ldc2_w 174, 3) := by decide +kernel
theorem dX11_filters_11 : decode cX11_filters 11 = .ok (.lstore_n 2, 1) := by decide +kernel
theorem dX11_filters_12 : decode cX11_filters 12 = .ok (.iconst 0, 1) := by decide +kernel
theorem dX11_filters_13 : decode cX11_filters 13 = .ok (.istore 4, 2) := by decide +kernel
theorem dX11_filters_15 : decode cX11_filters 15 = .ok (.iload 4, 2) := by decide +kernel
theorem dX11_filters_17 : decode cX11_filters 17 = .ok (.bipush 11, 2) := by decide +kernel
theorem dX11_filters_19 : decode cX11_filters 19 = .ok (.if_icmp .ge 50, 3) := by decide +kernel
theorem dX11_filters_22 : decode cX11_filters 22 = .ok (.iload_n 1, 1) := by decide +kernel
theorem dX11_filters_23 : decode cX11_filters 23 = .ok (.iload 4, 2) := by decide +kernel
theorem dX11_filters_25 : decode cX11_filters 25 = .ok (.iadd, 1) := by decide +kernel
theorem dX11_filters_26 : decode cX11_filters 26 = .ok (.iconst 5, 1) := by decide +kernel
theorem dX11_filters_27 : decode cX11_filters 27 = .ok (.isub, 1) := by decide +kernel
theorem dX11_filters_28 : decode cX11_filters 28 = .ok (.istore 5, 2) := by decide +kernel
theorem dX11_filters_30 : decode cX11_filters 30 = .ok (.lload_n 2, 1) := by decide +kernel
theorem dX11_filters_31 : decode cX11_filters 31 = .ok (.iload 5, 2) := by decide +kernel
theorem dX11_filters_33 : decode cX11_filters 33 = .ok (.ifCond .lt 10, 3) := by decide +kernel
theorem dX11_filters_36 : decode cX11_filters 36 = .ok (.iload 5, 2) := by decide +kernel
theorem dX11_filters_38 : decode cX11_filters 38 = .ok (.bipush 40, 2) := by decide +kernel
theorem dX11_filters_40 : decode cX11_filters 40 = .ok (.if_icmp .lt 7, 3) := by decide +kernel
theorem dX11_filters_43 : decode cX11_filters 43 = .ok (.lconst 0, 1) := by decide +kernel
theorem dX11_filters_44 : decode cX11_filters 44 = .ok (.goto 17, 3) := by decide +kernel
theorem dX11_filters_47 : decode cX11_filters 47 = .ok (.iload 4, 2) := by decide +kernel
theorem dX11_filters_49 : decode cX11_filters 49 = .ok (.invokestatic 176, 3) := by decide +kernel
theorem dX11_filters_52 : decode cX11_filters 52 = .ok (.i2l, 1) := by decide +kernel
theorem dX11_filters_53 : decode cX11_filters 53 = .ok (.aload_n 0, 1) := by decide +kernel
theorem dX11_filters_54 : decode cX11_filters 54 = .ok (.getfield 45, 3) := by decide +kernel
theorem dX11_filters_57 : decode cX11_filters 57 = .ok (.iload 5, 2) := by decide +kernel
theorem dX11_filters_59 : decode cX11_filters 59 = .ok (.laload, 1) := by decide +kernel
theorem dX11_filters_60 : decode cX11_filters 60 = .ok (.lmul, 1) := by decide +kernel
theorem dX11_filters_61 : decode cX11_filters 61 = .ok (.ladd, 1) := by decide +kernel
theorem dX11_filters_62 : decode cX11_filters 62 = .ok (.lstore_n 2, 1) := by decide +kernel
theorem dX11_filters_63 : decode cX11_filters 63 = .ok (.iinc 4 1, 3) := by decide +kernel
theorem dX11_filters_66 : decode cX11_filters 66 = .ok (.goto (-51), 3) := by decide +kernel
theorem dX11_filters_69 : decode cX11_filters 69 = .ok (.aload_n 0, 1) := by decide +kernel
theorem dX11_filters_70 : decode cX11_filters 70 = .ok (.getfield 48, 3) := by decide +kernel
theorem dX11_filters_73 : decode cX11_filters 73 = .ok (.iload_n 1, 1) := by decide +kernel
theorem dX11_filters_74 : decode cX11_filters 74 = .ok (.lload_n 2, 1) := by decide +kernel
theorem dX11_filters_75 : decode cX11_filters 75 = .ok (.bipush 13, 2) := by decide +kernel
theorem dX11_filters_77 : decode cX11_filters 77 = .ok (.lshr, 1) := by decide +kernel
theorem dX11_filters_78 : decode cX11_filters 78 = .ok (.invokestatic 82, 3) := by decide +kernel
theorem dX11_filters_81 : decode cX11_filters 81 = .ok (.lastore, 1) := by decide +kernel
theorem dX11_filters_82 : decode cX11_filters 82 = .ok (.iinc 1 1, 3) := by decide +kernel
theorem dX11_filters_85 : decode cX11_filters 85 = .ok (.goto (-83), 3) := by decide +kernel
theorem dX11_filters_88 : decode cX11_filters 88 = .ok (.return_, 1) := by decide +kernel
theorem dX11_ofHeight_0 : decode cX11_ofHeight 0 = .ok (.aload_n 0, 1) := by decide +kernel
theorem dX11_ofHeight_1 : decode cX11_ofHeight 1 = .ok (.iload_n 1, 1) := by decide +kernel
theorem dX11_ofHeight_2 : decode cX11_ofHeight 2 = .ok (.bipush 15, 2) := by decide +kernel
theorem dX11_ofHeight_4 : decode cX11_ofHeight 4 = .ok (.if_icmp .le 11, 3) := by decide +kernel
theorem dX11_ofHeight_7 : decode cX11_ofHeight 7 = .ok (.iload_n 1, 1) := by decide +kernel
theorem dX11_ofHeight_8 : decode cX11_ofHeight 8 = .ok (.iconst 3, 1) := by decide +kernel
theorem dX11_ofHeight_9 : decode cX11_ofHeight 9 = .ok (.ishr, 1) := by decide +kernel
theorem dX11_ofHeight_10 : decode cX11_ofHeight 10 = .ok (.iconst 1, 1) := by decide +kernel
theorem dX11_ofHeight_11 : decode cX11_ofHeight 11 = .ok (.isub, 1) := by decide +kernel
theorem dX11_ofHeight_12 : decode cX11_ofHeight 12 = .ok (.goto 4, 3) := by decide +kernel
theorem dX11_ofHeight_15 : decode cX11_ofHeight 15 = .ok (.iconst 0, 1) := by decide +kernel
theorem dX11_ofHeight_16 : decode cX11_ofHeight 16 = .ok (.putfield 179, 3) := by decide +kernel
theorem dX11_ofHeight_19 : decode cX11_ofHeight 19 = .ok (.aload_n 0, 1) := by decide +kernel
theorem dX11_ofHeight_20 : decode cX11_ofHeight 20 = .ok (.iload_n 1, 1) := by decide +kernel
theorem dX11_ofHeight_21 : decode cX11_ofHeight 21 = .ok (.bipush 8, 2) := by decide +kernel
theorem dX11_ofHeight_23 : decode cX11_ofHeight 23 = .ok (.aload_n 0, 1) := by decide +kernel
theorem dX11_ofHeight_24 : decode cX11_ofHeight 24 = .ok (.getfield 179, 3) := by decide +kernel
theorem dX11_ofHeight_27 : decode cX11_ofHeight 27 = .ok (.imul, 1) := by decide +kernel
theorem dX11_ofHeight_28 : decode cX11_ofHeight 28 = .ok (.isub, 1) := by decide +kernel
theorem dX11_ofHeight_29 : decode cX11_ofHeight 29 = .ok (.putfield 182, 3) := by decide +kernel
theorem dX11_ofHeight_32 : decode cX11_ofHeight 32 = .ok (.aload_n 0, 1) := by decide +kernel
theorem dX11_ofHeight_33 : decode cX11_ofHeight 33 = .ok (.getfield 182, 3) := by decide +kernel
theorem dX11_ofHeight_36 : decode cX11_ofHeight 36 = .ok (.ifCond .ne 15, 3) := by decide +kernel
theorem dX11_ofHeight_39 : decode cX11_ofHeight 39 = .ok (.aload_n 0, 1) := by decide +kernel
theorem dX11_ofHeight_40 : decode cX11_ofHeight 40 = .ok (.bipush (-4), 2) := by decide +kernel
theorem dX11_ofHeight_42 : decode cX11_ofHeight 42 = .ok (.putfield 179, 3) := by decide +kernel
theorem dX11_ofHeight_45 : decode cX11_ofHeight 45 = .ok (.aload_n 0, 1) := by decide +kernel
theorem dX11_ofHeight_46 : decode cX11_ofHeight 46 = .ok (.bipush 15, 2) := by decide +kernel
theorem dX11_ofHeight_48 : decode cX11_ofHeight 48 = .ok (.putfield 182, 3) := by decide +kernel
theorem dX11_ofHeight_51 : decode cX11_ofHeight 51 = .ok (.aload_n 0, 1) := by decide +kernel
theorem dX11_ofHeight_52 : decode cX11_ofHeight 52 = .ok (.getfield 182, 3) := by decide +kernel
theorem dX11_ofHeight_55 : decode cX11_ofHeight 55 = .ok (.bipush 8, 2) := by decide +kernel
theorem dX11_ofHeight_57 : decode cX11_ofHeight 57 = .ok (.if_icmp .ge 28, 3) := by decide +kernel
theorem dX11_ofHeight_60 : decode cX11_ofHeight 60 = .ok (.aload_n 0, 1) := by decide +kernel
theorem dX11_ofHeight_61 : decode cX11_ofHeight 61 = .ok (.iconst 2, 1) := by decide +kernel
theorem dX11_ofHeight_62 : decode cX11_ofHeight 62 = .ok (.aload_n 0, 1) := by decide +kernel
theorem dX11_ofHeight_63 : decode cX11_ofHeight 63 = .ok (.getfield 182, 3) := by decide +kernel
theorem dX11_ofHeight_66 : decode cX11_ofHeight 66 = .ok (.imul, 1) := by decide +kernel
theorem dX11_ofHeight_67 : decode cX11_ofHeight 67 = .ok (.iconst 1, 1) := by decide +kernel
theorem dX11_ofHeight_68 : decode cX11_ofHeight 68 = .ok (.iadd, 1) := by decide +kernel
theorem dX11_ofHeight_69 : decode cX11_ofHeight 69 = .ok (.putfield 182, 3) := by decide +kernel
theorem dX11_ofHeight_72 : decode cX11_ofHeight 72 = .ok (.aload_n 0, 1) := by decide +kernel
theorem dX11_ofHeight_73 : decode cX11_ofHeight 73 = .ok (.dup, 1) := by decide +kernel
theorem dX11_ofHeight_74 : decode cX11_ofHeight 74 = .ok (.getfield 179, 3) := by decide +kernel
theorem dX11_ofHeight_77 : decode cX11_ofHeight 77 = .ok (.iconst 1, 1) := by decide +kernel
theorem dX11_ofHeight_78 : decode cX11_ofHeight 78 = .ok (.isub, 1) := by decide +kernel
theorem dX11_ofHeight_79 : decode cX11_ofHeight 79 = .ok (.putfield 179, 3) := by decide +kernel
theorem dX11_ofHeight_82 : decode cX11_ofHeight 82 = .ok (.goto (-31), 3) := by decide +kernel
theorem dX11_ofHeight_85 : decode cX11_ofHeight 85 = .ok (.aload_n 0, 1) := by decide +kernel
theorem dX11_ofHeight_86 : decode cX11_ofHeight 86 = .ok (.dup, 1) := by decide +kernel
theorem dX11_ofHeight_87 : decode cX11_ofHeight 87 = .ok (.getfield 182, 3) := by decide +kernel
theorem dX11_ofHeight_90 : decode cX11_ofHeight 90 = .ok (.bipush 8, 2) := by decide +kernel
theorem dX11_ofHeight_92 : decode cX11_ofHeight 92 = .ok (.isub, 1) := by decide +kernel
theorem dX11_ofHeight_93 : decode cX11_ofHeight 93 = .ok (.putfield 182, 3) := by decide +kernel
theorem dX11_ofHeight_96 : decode cX11_ofHeight 96 = .ok (.return_, 1) := by decide +kernel
theorem dX11_tellsPulses_0 : decode cX11_tellsPulses 0 = .ok (.iconst 0, 1) := by decide +kernel
theorem dX11_tellsPulses_1 : decode cX11_tellsPulses 1 = .ok (.istore_n 2, 1) := by decide +kernel
theorem dX11_tellsPulses_2 : decode cX11_tellsPulses 2 = .ok (.ldc2_w 185, 3) := by decide +kernel
theorem dX11_tellsPulses_5 : decode cX11_tellsPulses 5 = .ok (.lstore_n 3, 1) := by decide +kernel
theorem dX11_tellsPulses_6 : decode cX11_tellsPulses 6 = .ok (.iconst 0, 1) := by decide +kernel
theorem dX11_tellsPulses_7 : decode cX11_tellsPulses 7 = .ok (.istore 5, 2) := by decide +kernel
theorem dX11_tellsPulses_9 : decode cX11_tellsPulses 9 = .ok (.iload 5, 2) := by decide +kernel
theorem dX11_tellsPulses_11 : decode cX11_tellsPulses 11 = .ok (.iconst 4, 1) := by decide +kernel
theorem dX11_tellsPulses_12 : decode cX11_tellsPulses 12 = .ok (.if_icmp .ge 75, 3) := by decide +kernel
theorem dX11_tellsPulses_15 : decode cX11_tellsPulses 15 = .ok (.lconst 0, 1) := by decide +kernel
theorem dX11_tellsPulses_16 : decode cX11_tellsPulses 16 = .ok (.lstore 6, 2) := by decide +kernel
theorem dX11_tellsPulses_18 : decode cX11_tellsPulses 18 = .ok (.iconst 0, 1) := by decide +kernel
theorem dX11_tellsPulses_19 : decode cX11_tellsPulses 19 = .ok (.istore 8, 2) := by decide +kernel
theorem dX11_tellsPulses_21 : decode cX11_tellsPulses 21 = .ok (.iload 8, 2) := by decide +kernel
theorem dX11_tellsPulses_23 : decode cX11_tellsPulses 23 = .ok (.bipush 13, 2) := by decide +kernel
theorem dX11_tellsPulses_25 : decode cX11_tellsPulses 25 = .ok (.if_icmp .ge 43, 3) := by decide +kernel
theorem dX11_tellsPulses_28 : decode cX11_tellsPulses 28 = .ok (.lload 6, 2) := by decide +kernel
theorem dX11_tellsPulses_30 : decode cX11_tellsPulses 30 = .ok (.aload_n 0, 1) := by decide +kernel
theorem dX11_tellsPulses_31 : decode cX11_tellsPulses 31 = .ok (.getfield 48, 3) := by decide +kernel
theorem dX11_tellsPulses_34 : decode cX11_tellsPulses 34 = .ok (.iload 5, 2) := by decide +kernel
theorem dX11_tellsPulses_36 : decode cX11_tellsPulses 36 = .ok (.iconst 3, 1) := by decide +kernel
theorem dX11_tellsPulses_37 : decode cX11_tellsPulses 37 = .ok (.iload 8, 2) := by decide +kernel
theorem dX11_tellsPulses_39 : decode cX11_tellsPulses 39 = .ok (.imul, 1) := by decide +kernel
theorem dX11_tellsPulses_40 : decode cX11_tellsPulses 40 = .ok (.iadd, 1) := by decide +kernel
theorem dX11_tellsPulses_41 : decode cX11_tellsPulses 41 = .ok (.laload, 1) := by decide +kernel
theorem dX11_tellsPulses_42 : decode cX11_tellsPulses 42 = .ok (.iconst 2, 1) := by decide +kernel
theorem dX11_tellsPulses_43 : decode cX11_tellsPulses 43 = .ok (.lshr, 1) := by decide +kernel
theorem dX11_tellsPulses_44 : decode cX11_tellsPulses 44 = .ok (.aload_n 0, 1) := by decide +kernel
theorem dX11_tellsPulses_45 : decode cX11_tellsPulses 45 = .ok (.getfield 48, 3) := by decide +kernel
theorem dX11_tellsPulses_48 : decode cX11_tellsPulses 48 = .ok (.iload 5, 2) := by decide +kernel
theorem dX11_tellsPulses_50 : decode cX11_tellsPulses 50 = .ok (.iconst 3, 1) := by decide +kernel
theorem dX11_tellsPulses_51 : decode cX11_tellsPulses 51 = .ok (.iload 8, 2) := by decide +kernel
theorem dX11_tellsPulses_53 : decode cX11_tellsPulses 53 = .ok (.imul, 1) := by decide +kernel
theorem dX11_tellsPulses_54 : decode cX11_tellsPulses 54 = .ok (.iadd, 1) := by decide +kernel
theorem dX11_tellsPulses_55 : decode cX11_tellsPulses 55 = .ok (.laload, 1) := by decide +kernel
theorem dX11_tellsPulses_56 : decode cX11_tellsPulses 56 = .ok (.iconst 2, 1) := by decide +kernel
theorem dX11_tellsPulses_57 : decode cX11_tellsPulses 57 = .ok (.lshr, 1) := by decide +kernel
theorem dX11_tellsPulses_58 : decode cX11_tellsPulses 58 = .ok (.lmul, 1) := by decide +kernel
theorem dX11_tellsPulses_59 : decode cX11_tellsPulses 59 = .ok (.ladd, 1) := by decide +kernel
theorem dX11_tellsPulses_60 : decode cX11_tellsPulses 60 = .ok (.lstore 6, 2) := by decide +kernel
theorem dX11_tellsPulses_62 : decode cX11_tellsPulses 62 = .ok (.iinc 8 1, 3) := by decide +kernel
theorem dX11_tellsPulses_65 : decode cX11_tellsPulses 65 = .ok (.goto (-44), 3) := by decide +kernel
theorem dX11_tellsPulses_68 : decode cX11_tellsPulses 68 = .ok (.lload 6, 2) := by decide +kernel
theorem dX11_tellsPulses_70 : decode cX11_tellsPulses 70 = .ok (.lload_n 3, 1) := by decide +kernel
theorem dX11_tellsPulses_71 : decode cX11_tellsPulses 71 = .ok (.lcmp, 1) := by decide +kernel
theorem dX11_tellsPulses_72 : decode cX11_tellsPulses 72 = .ok (.ifCond .le 9, 3) := by decide +kernel
theorem dX11_tellsPulses_75 : decode cX11_tellsPulses 75 = .ok (.lload 6, 2) := by decide +kernel
theorem dX11_tellsPulses_77 : decode cX11_tellsPulses 77 = .ok (.lstore_n 3, 1) := by decide +kernel
theorem dX11_tellsPulses_78 : decode cX11_tellsPulses 78 = .ok (.iload 5, 2) := by decide +kernel
theorem dX11_tellsPulses_80 : decode cX11_tellsPulses 80 = .ok (.istore_n 2, 1) := by decide +kernel
theorem dX11_tellsPulses_81 : decode cX11_tellsPulses 81 = .ok (.iinc 5 1, 3) := by decide +kernel
theorem dX11_tellsPulses_84 : decode cX11_tellsPulses 84 = .ok (.goto (-75), 3) := by decide +kernel
theorem dX11_tellsPulses_87 : decode cX11_tellsPulses 87 = .ok (.lconst 0, 1) := by decide +kernel
theorem dX11_tellsPulses_88 : decode cX11_tellsPulses 88 = .ok (.lstore 5, 2) := by decide +kernel
theorem dX11_tellsPulses_90 : decode cX11_tellsPulses 90 = .ok (.iconst 0, 1) := by decide +kernel
theorem dX11_tellsPulses_91 : decode cX11_tellsPulses 91 = .ok (.istore 7, 2) := by decide +kernel
theorem dX11_tellsPulses_93 : decode cX11_tellsPulses 93 = .ok (.iload 7, 2) := by decide +kernel
theorem dX11_tellsPulses_95 : decode cX11_tellsPulses 95 = .ok (.bipush 13, 2) := by decide +kernel
theorem dX11_tellsPulses_97 : decode cX11_tellsPulses 97 = .ok (.if_icmp .ge 50, 3) := by decide +kernel
theorem dX11_tellsPulses_100 : decode cX11_tellsPulses 100 = .ok (.aload_n 0, 1) := by decide +kernel
theorem dX11_tellsPulses_101 : decode cX11_tellsPulses 101 = .ok (.getfield 48, 3) := by decide +kernel
theorem dX11_tellsPulses_104 : decode cX11_tellsPulses 104 = .ok (.iload_n 2, 1) := by decide +kernel
theorem dX11_tellsPulses_105 : decode cX11_tellsPulses 105 = .ok (.iconst 3, 1) := by decide +kernel
theorem dX11_tellsPulses_106 : decode cX11_tellsPulses 106 = .ok (.iload 7, 2) := by decide +kernel
theorem dX11_tellsPulses_108 : decode cX11_tellsPulses 108 = .ok (.imul, 1) := by decide +kernel
theorem dX11_tellsPulses_109 : decode cX11_tellsPulses 109 = .ok (.iadd, 1) := by decide +kernel
theorem dX11_tellsPulses_110 : decode cX11_tellsPulses 110 = .ok (.laload, 1) := by decide +kernel
theorem dX11_tellsPulses_111 : decode cX11_tellsPulses 111 = .ok (.invokestatic 124, 3) := by decide +kernel
theorem dX11_tellsPulses_114 : decode cX11_tellsPulses 114 = .ok (.lload 5, 2) := by decide +kernel
theorem dX11_tellsPulses_116 : decode cX11_tellsPulses 116 = .ok (.lcmp, 1) := by decide +kernel
theorem dX11_tellsPulses_117 : decode cX11_tellsPulses 117 = .ok (.ifCond .le 20, 3) := by decide +kernel
theorem dX11_tellsPulses_120 : decode cX11_tellsPulses 120 = .ok (.aload_n 0, 1) := by decide +kernel
theorem dX11_tellsPulses_121 : decode cX11_tellsPulses 121 = .ok (.getfield 48, 3) := by decide +kernel
theorem dX11_tellsPulses_124 : decode cX11_tellsPulses 124 = .ok (.iload_n 2, 1) := by decide +kernel
theorem dX11_tellsPulses_125 : decode cX11_tellsPulses 125 = .ok (.iconst 3, 1) := by decide +kernel
theorem dX11_tellsPulses_126 : decode cX11_tellsPulses 126 = .ok (.iload 7, 2) := by decide +kernel
theorem dX11_tellsPulses_128 : decode cX11_tellsPulses 128 = .ok (.imul, 1) := by decide +kernel
theorem dX11_tellsPulses_129 : decode cX11_tellsPulses 129 = .ok (.iadd, 1) := by decide +kernel
theorem dX11_tellsPulses_130 : decode cX11_tellsPulses 130 = .ok (.laload, 1) := by decide +kernel
theorem dX11_tellsPulses_131 : decode cX11_tellsPulses 131 = .ok (.invokestatic 124, 3) := by decide +kernel
theorem dX11_tellsPulses_134 : decode cX11_tellsPulses 134 = .ok (.goto 5, 3) := by decide +kernel
theorem dX11_tellsPulses_137 : decode cX11_tellsPulses 137 = .ok (.lload 5, 2) := by decide +kernel
theorem dX11_tellsPulses_139 : decode cX11_tellsPulses 139 = .ok (.lstore 5, 2) := by decide +kernel
theorem dX11_tellsPulses_141 : decode cX11_tellsPulses 141 = .ok (.iinc 7 1, 3) := by decide +kernel
theorem dX11_tellsPulses_144 : decode cX11_tellsPulses 144 = .ok (.goto (-51), 3) := by decide +kernel
theorem dX11_tellsPulses_147 : decode cX11_tellsPulses 147 = .ok (.iconst 0, 1) := by decide +kernel
theorem dX11_tellsPulses_148 : decode cX11_tellsPulses 148 = .ok (.istore 7, 2) := by decide +kernel
theorem dX11_tellsPulses_150 : decode cX11_tellsPulses 150 = .ok (.iconst 0, 1) := by decide +kernel
theorem dX11_tellsPulses_151 : decode cX11_tellsPulses 151 = .ok (.istore 8, 2) := by decide +kernel
theorem dX11_tellsPulses_153 : decode cX11_tellsPulses 153 = .ok (.iload 8, 2) := by decide +kernel
theorem dX11_tellsPulses_155 : decode cX11_tellsPulses 155 = .ok (.bipush 6, 2) := by decide +kernel
theorem dX11_tellsPulses_157 : decode cX11_tellsPulses 157 = .ok (.if_icmp .ge 32, 3) := by decide +kernel
theorem dX11_tellsPulses_160 : decode cX11_tellsPulses 160 = .ok (.iload 7, 2) := by decide +kernel
theorem dX11_tellsPulses_162 : decode cX11_tellsPulses 162 = .ok (.lload 5, 2) := by decide +kernel
theorem dX11_tellsPulses_164 : decode cX11_tellsPulses 164 = .ok (.bipush 9, 2) := by decide +kernel
theorem dX11_tellsPulses_166 : decode cX11_tellsPulses 166 = .ok (.iload 8, 2) := by decide +kernel
theorem dX11_tellsPulses_168 : decode cX11_tellsPulses 168 = .ok (.iadd, 1) := by decide +kernel
theorem dX11_tellsPulses_169 : decode cX11_tellsPulses 169 = .ok (.lshr, 1) := by decide +kernel
theorem dX11_tellsPulses_170 : decode cX11_tellsPulses 170 = .ok (.lconst 0, 1) := by decide +kernel
theorem dX11_tellsPulses_171 : decode cX11_tellsPulses 171 = .ok (.lcmp, 1) := by decide +kernel
theorem dX11_tellsPulses_172 : decode cX11_tellsPulses 172 = .ok (.ifCond .le 7, 3) := by decide +kernel
theorem dX11_tellsPulses_175 : decode cX11_tellsPulses 175 = .ok (.iconst 1, 1) := by decide +kernel
theorem dX11_tellsPulses_176 : decode cX11_tellsPulses 176 = .ok (.goto 4, 3) := by decide +kernel
theorem dX11_tellsPulses_179 : decode cX11_tellsPulses 179 = .ok (.iconst 0, 1) := by decide +kernel
theorem dX11_tellsPulses_180 : decode cX11_tellsPulses 180 = .ok (.iadd, 1) := by decide +kernel
theorem dX11_tellsPulses_181 : decode cX11_tellsPulses 181 = .ok (.istore 7, 2) := by decide +kernel
theorem dX11_tellsPulses_183 : decode cX11_tellsPulses 183 = .ok (.iinc 8 1, 3) := by decide +kernel
theorem dX11_tellsPulses_186 : decode cX11_tellsPulses 186 = .ok (.goto (-33), 3) := by decide +kernel
theorem dX11_tellsPulses_189 : decode cX11_tellsPulses 189 = .ok (.bipush 10, 2) := by decide +kernel
theorem dX11_tellsPulses_191 : decode cX11_tellsPulses 191 = .ok (.bipush 17, 2) := by decide +kernel
theorem dX11_tellsPulses_193 : decode cX11_tellsPulses 193 = .ok (.iload_n 1, 1) := by decide +kernel
theorem dX11_tellsPulses_194 : decode cX11_tellsPulses 194 = .ok (.imul, 1) := by decide +kernel
theorem dX11_tellsPulses_195 : decode cX11_tellsPulses 195 = .ok (.iadd, 1) := by decide +kernel
theorem dX11_tellsPulses_196 : decode cX11_tellsPulses 196 = .ok (.istore 8, 2) := by decide +kernel
theorem dX11_tellsPulses_198 : decode cX11_tellsPulses 198 = .ok (.aload_n 0, 1) := by decide +kernel
theorem dX11_tellsPulses_199 : decode cX11_tellsPulses 199 = .ok (.getfield 17, 3) := by decide +kernel
theorem dX11_tellsPulses_202 : decode cX11_tellsPulses 202 = .ok (.iload 8, 2) := by decide +kernel
theorem dX11_tellsPulses_204 : decode cX11_tellsPulses 204 = .ok (.iload_n 2, 1) := by decide +kernel
theorem dX11_tellsPulses_205 : decode cX11_tellsPulses 205 = .ok (.iastore, 1) := by decide +kernel
theorem dX11_tellsPulses_206 : decode cX11_tellsPulses 206 = .ok (.aload_n 0, 1) := by decide +kernel
theorem dX11_tellsPulses_207 : decode cX11_tellsPulses 207 = .ok (.getfield 17, 3) := by decide +kernel
theorem dX11_tellsPulses_210 : decode cX11_tellsPulses 210 = .ok (.iload 8, 2) := by decide +kernel
theorem dX11_tellsPulses_212 : decode cX11_tellsPulses 212 = .ok (.iconst 1, 1) := by decide +kernel
theorem dX11_tellsPulses_213 : decode cX11_tellsPulses 213 = .ok (.iadd, 1) := by decide +kernel
theorem dX11_tellsPulses_214 : decode cX11_tellsPulses 214 = .ok (.lload 5, 2) := by decide +kernel
theorem dX11_tellsPulses_216 : decode cX11_tellsPulses 216 = .ok (.iload 7, 2) := by decide +kernel
theorem dX11_tellsPulses_218 : decode cX11_tellsPulses 218 = .ok (.iconst 5, 1) := by decide +kernel
theorem dX11_tellsPulses_219 : decode cX11_tellsPulses 219 = .ok (.iadd, 1) := by decide +kernel
theorem dX11_tellsPulses_220 : decode cX11_tellsPulses 220 = .ok (.lshr, 1) := by decide +kernel
theorem dX11_tellsPulses_221 : decode cX11_tellsPulses 221 = .ok (.l2i, 1) := by decide +kernel
theorem dX11_tellsPulses_222 : decode cX11_tellsPulses 222 = .ok (.bipush 8, 2) := by decide +kernel
theorem dX11_tellsPulses_224 : decode cX11_tellsPulses 224 = .ok (.iload 7, 2) := by decide +kernel
theorem dX11_tellsPulses_226 : decode cX11_tellsPulses 226 = .ok (.imul, 1) := by decide +kernel
theorem dX11_tellsPulses_227 : decode cX11_tellsPulses 227 = .ok (.iadd, 1) := by decide +kernel
theorem dX11_tellsPulses_228 : decode cX11_tellsPulses 228 = .ok (.iastore, 1) := by decide +kernel
theorem dX11_tellsPulses_229 : decode cX11_tellsPulses 229 = .ok (.aload_n 0, 1) := by decide +kernel
theorem dX11_tellsPulses_230 : decode cX11_tellsPulses 230 = .ok (.aload_n 0, 1) := by decide +kernel
theorem dX11_tellsPulses_231 : decode cX11_tellsPulses 231 = .ok (.getfield 17, 3) := by decide +kernel
theorem dX11_tellsPulses_234 : decode cX11_tellsPulses 234 = .ok (.iload 8, 2) := by decide +kernel
theorem dX11_tellsPulses_236 : decode cX11_tellsPulses 236 = .ok (.iconst 1, 1) := by decide +kernel
theorem dX11_tellsPulses_237 : decode cX11_tellsPulses 237 = .ok (.iadd, 1) := by decide +kernel
theorem dX11_tellsPulses_238 : decode cX11_tellsPulses 238 = .ok (.iaload, 1) := by decide +kernel
theorem dX11_tellsPulses_239 : decode cX11_tellsPulses 239 = .ok (.invokevirtual 187, 3) := by decide +kernel
theorem dX11_tellsPulses_242 : decode cX11_tellsPulses 242 = .ok (.iconst 0, 1) := by decide +kernel
theorem dX11_tellsPulses_243 : decode cX11_tellsPulses 243 = .ok (.istore 9, 2) := by decide +kernel
theorem dX11_tellsPulses_245 : decode cX11_tellsPulses 245 = .ok (.iload 9, 2) := by decide +kernel
theorem dX11_tellsPulses_247 : decode cX11_tellsPulses 247 = .ok (.bipush 13, 2) := by decide +kernel
theorem dX11_tellsPulses_249 : decode cX11_tellsPulses 249 = .ok (.if_icmp .ge 57, 3) := by decide +kernel
theorem dX11_tellsPulses_252 : decode cX11_tellsPulses 252 = .ok (.aload_n 0, 1) := by decide +kernel
theorem dX11_tellsPulses_253 : decode cX11_tellsPulses 253 = .ok (.getfield 17, 3) := by decide +kernel
theorem dX11_tellsPulses_256 : decode cX11_tellsPulses 256 = .ok (.iload 8, 2) := by decide +kernel
theorem dX11_tellsPulses_258 : decode cX11_tellsPulses 258 = .ok (.iconst 2, 1) := by decide +kernel
theorem dX11_tellsPulses_259 : decode cX11_tellsPulses 259 = .ok (.iadd, 1) := by decide +kernel
theorem dX11_tellsPulses_260 : decode cX11_tellsPulses 260 = .ok (.iload 9, 2) := by decide +kernel
theorem dX11_tellsPulses_262 : decode cX11_tellsPulses 262 = .ok (.iadd, 1) := by decide +kernel
theorem dX11_tellsPulses_263 : decode cX11_tellsPulses 263 = .ok (.aload_n 0, 1) := by decide +kernel
theorem dX11_tellsPulses_264 : decode cX11_tellsPulses 264 = .ok (.getfield 48, 3) := by decide +kernel
theorem dX11_tellsPulses_267 : decode cX11_tellsPulses 267 = .ok (.iload_n 2, 1) := by decide +kernel
theorem dX11_tellsPulses_268 : decode cX11_tellsPulses 268 = .ok (.iconst 3, 1) := by decide +kernel
theorem dX11_tellsPulses_269 : decode cX11_tellsPulses 269 = .ok (.iload 9, 2) := by decide +kernel
theorem dX11_tellsPulses_271 : decode cX11_tellsPulses 271 = .ok (.imul, 1) := by decide +kernel
theorem dX11_tellsPulses_272 : decode cX11_tellsPulses 272 = .ok (.iadd, 1) := by decide +kernel
theorem dX11_tellsPulses_273 : decode cX11_tellsPulses 273 = .ok (.laload, 1) := by decide +kernel
theorem dX11_tellsPulses_274 : decode cX11_tellsPulses 274 = .ok (.bipush 6, 2) := by decide +kernel
theorem dX11_tellsPulses_276 : decode cX11_tellsPulses 276 = .ok (.aload_n 0, 1) := by decide +kernel
theorem dX11_tellsPulses_277 : decode cX11_tellsPulses 277 = .ok (.getfield 179, 3) := by decide +kernel
theorem dX11_tellsPulses_280 : decode cX11_tellsPulses 280 = .ok (.isub, 1) := by decide +kernel
theorem dX11_tellsPulses_281 : decode cX11_tellsPulses 281 = .ok (.lshl, 1) := by decide +kernel
theorem dX11_tellsPulses_282 : decode cX11_tellsPulses 282 = .ok (.aload_n 0, 1) := by decide +kernel
theorem dX11_tellsPulses_283 : decode cX11_tellsPulses 283 = .ok (.getfield 182, 3) := by decide +kernel
theorem dX11_tellsPulses_286 : decode cX11_tellsPulses 286 = .ok (.invokestatic 191, 3) := by decide +kernel
theorem dX11_tellsPulses_289 : decode cX11_tellsPulses 289 = .ok (.i2l, 1) := by decide +kernel
theorem dX11_tellsPulses_290 : decode cX11_tellsPulses 290 = .ok (.invokestatic 149, 3) := by decide +kernel
theorem dX11_tellsPulses_293 : decode cX11_tellsPulses 293 = .ok (.bipush 12, 2) := by decide +kernel
theorem dX11_tellsPulses_295 : decode cX11_tellsPulses 295 = .ok (.lshr, 1) := by decide +kernel
theorem dX11_tellsPulses_296 : decode cX11_tellsPulses 296 = .ok (.l2i, 1) := by decide +kernel
theorem dX11_tellsPulses_297 : decode cX11_tellsPulses 297 = .ok (.iconst 4, 1) := by decide +kernel
theorem dX11_tellsPulses_298 : decode cX11_tellsPulses 298 = .ok (.iadd, 1) := by decide +kernel
theorem dX11_tellsPulses_299 : decode cX11_tellsPulses 299 = .ok (.iastore, 1) := by decide +kernel
theorem dX11_tellsPulses_300 : decode cX11_tellsPulses 300 = .ok (.iinc 9 1, 3) := by decide +kernel
theorem dX11_tellsPulses_303 : decode cX11_tellsPulses 303 = .ok (.goto (-58), 3) := by decide +kernel
theorem dX11_tellsPulses_306 : decode cX11_tellsPulses 306 = .ok (.return_, 1) := by decide +kernel
theorem dX11_makes_0 : decode cX11_makes 0 = .ok (.bipush 10, 2) := by decide +kernel
theorem dX11_makes_2 : decode cX11_makes 2 = .ok (.bipush 17, 2) := by decide +kernel
theorem dX11_makes_4 : decode cX11_makes 4 = .ok (.iload_n 1, 1) := by decide +kernel
theorem dX11_makes_5 : decode cX11_makes 5 = .ok (.imul, 1) := by decide +kernel
theorem dX11_makes_6 : decode cX11_makes 6 = .ok (.iadd, 1) := by decide +kernel
theorem dX11_makes_7 : decode cX11_makes 7 = .ok (.istore_n 2, 1) := by decide +kernel
theorem dX11_makes_8 : decode cX11_makes 8 = .ok (.aload_n 0, 1) := by decide +kernel
theorem dX11_makes_9 : decode cX11_makes 9 = .ok (.aload_n 0, 1) := by decide +kernel
theorem dX11_makes_10 : decode cX11_makes 10 = .ok (.getfield 17, 3) := by decide +kernel
theorem dX11_makes_13 : decode cX11_makes 13 = .ok (.iload_n 2, 1) := by decide +kernel
theorem dX11_makes_14 : decode cX11_makes 14 = .ok (.iconst 1, 1) := by decide +kernel
theorem dX11_makes_15 : decode cX11_makes 15 = .ok (.iadd, 1) := by decide +kernel
theorem dX11_makes_16 : decode cX11_makes 16 = .ok (.iaload, 1) := by decide +kernel
theorem dX11_makes_17 : decode cX11_makes 17 = .ok (.invokevirtual 187, 3) := by decide +kernel
theorem dX11_makes_20 : decode cX11_makes 20 = .ok (.bipush 6, 2) := by decide +kernel
theorem dX11_makes_22 : decode cX11_makes 22 = .ok (.aload_n 0, 1) := by decide +kernel
theorem dX11_makes_23 : decode cX11_makes 23 = .ok (.getfield 179, 3) := by decide +kernel
theorem dX11_makes_26 : decode cX11_makes 26 = .ok (.isub, 1) := by decide +kernel
theorem dX11_makes_27 : decode cX11_makes 27 = .ok (.istore_n 3, 1) := by decide +kernel
theorem dX11_makes_28 : decode cX11_makes 28 = .ok (.iconst 0, 1) := by decide +kernel
theorem dX11_makes_29 : decode cX11_makes 29 = .ok (.istore 4, 2) := by decide +kernel
theorem dX11_makes_31 : decode cX11_makes 31 = .ok (.iload 4, 2) := by decide +kernel
theorem dX11_makes_33 : decode cX11_makes 33 = .ok (.bipush 40, 2) := by decide +kernel
theorem dX11_makes_35 : decode cX11_makes 35 = .ok (.if_icmp .ge 17, 3) := by decide +kernel
theorem dX11_makes_38 : decode cX11_makes 38 = .ok (.aload_n 0, 1) := by decide +kernel
theorem dX11_makes_39 : decode cX11_makes 39 = .ok (.getfield 66, 3) := by decide +kernel
theorem dX11_makes_42 : decode cX11_makes 42 = .ok (.iload 4, 2) := by decide +kernel
theorem dX11_makes_44 : decode cX11_makes 44 = .ok (.lconst 0, 1) := by decide +kernel
theorem dX11_makes_45 : decode cX11_makes 45 = .ok (.lastore, 1) := by decide +kernel
theorem dX11_makes_46 : decode cX11_makes 46 = .ok (.iinc 4 1, 3) := by decide +kernel
theorem dX11_makes_49 : decode cX11_makes 49 = .ok (.goto (-18), 3) := by decide +kernel
theorem dX11_makes_52 : decode cX11_makes 52 = .ok (.iconst 0, 1) := by decide +kernel
theorem dX11_makes_53 : decode cX11_makes 53 = .ok (.istore 4, 2) := by decide +kernel
theorem dX11_makes_55 : decode cX11_makes 55 = .ok (.iload 4, 2) := by decide +kernel
theorem dX11_makes_57 : decode cX11_makes 57 = .ok (.bipush 13, 2) := by decide +kernel
theorem dX11_makes_59 : decode cX11_makes 59 = .ok (.if_icmp .ge 83, 3) := by decide +kernel
theorem dX11_makes_62 : decode cX11_makes 62 = .ok (.aload_n 0, 1) := by decide +kernel
theorem dX11_makes_63 : decode cX11_makes 63 = .ok (.getfield 182, 3) := by decide +kernel
theorem dX11_makes_66 : decode cX11_makes 66 = .ok (.invokestatic 194, 3) := by decide +kernel
theorem dX11_makes_69 : decode cX11_makes 69 = .ok (.i2l, 1) := by decide +kernel
theorem dX11_makes_70 : decode cX11_makes 70 = .ok (.ldc2_w 135, 3) := by decide +kernel
theorem dX11_makes_73 : decode cX11_makes 73 = .ok (.aload_n 0, 1) := by decide +kernel
theorem dX11_makes_74 : decode cX11_makes 74 = .ok (.getfield 17, 3) := by decide +kernel
theorem dX11_makes_77 : decode cX11_makes 77 = .ok (.iload_n 2, 1) := by decide +kernel
theorem dX11_makes_78 : decode cX11_makes 78 = .ok (.iconst 2, 1) := by decide +kernel
theorem dX11_makes_79 : decode cX11_makes 79 = .ok (.iadd, 1) := by decide +kernel
theorem dX11_makes_80 : decode cX11_makes 80 = .ok (.iload 4, 2) := by decide +kernel
theorem dX11_makes_82 : decode cX11_makes 82 = .ok (.iadd, 1) := by decide +kernel
theorem dX11_makes_83 : decode cX11_makes 83 = .ok (.iaload, 1) := by decide +kernel
theorem dX11_makes_84 : decode cX11_makes 84 = .ok (.i2l, 1) := by decide +kernel
theorem dX11_makes_85 : decode cX11_makes 85 = .ok (.lmul, 1) := by decide +kernel
theorem dX11_makes_86 : decode cX11_makes 86 = .ok (.ldc2_w 197, 3) := by decide +kernel
theorem dX11_makes_89 : decode cX11_makes 89 = .ok (.lsub, 1) := by decide +kernel
theorem dX11_makes_90 : decode cX11_makes 90 = .ok (.ldc2_w 174, 3) := by decide +kernel
theorem dX11_makes_93 : decode cX11_makes 93 = .ok (.lmul, 1) := by decide +kernel
theorem dX11_makes_94 : decode cX11_makes 94 = .ok (.invokestatic 112, 3) := by decide +kernel
theorem dX11_makes_97 : decode cX11_makes 97 = .ok (.lstore 5, 2) := by decide +kernel
theorem dX11_makes_99 : decode cX11_makes 99 = .ok (.aload_n 0, 1) := by decide +kernel
theorem dX11_makes_100 : decode cX11_makes 100 = .ok (.getfield 66, 3) := by decide +kernel
theorem dX11_makes_103 : decode cX11_makes 103 = .ok (.aload_n 0, 1) := by decide +kernel
theorem dX11_makes_104 : decode cX11_makes 104 = .ok (.getfield 17, 3) := by decide +kernel
theorem dX11_makes_107 : decode cX11_makes 107 = .ok (.iload_n 2, 1) := by decide +kernel
theorem dX11_makes_108 : decode cX11_makes 108 = .ok (.iaload, 1) := by decide +kernel
theorem dX11_makes_109 : decode cX11_makes 109 = .ok (.iconst 3, 1) := by decide +kernel
theorem dX11_makes_110 : decode cX11_makes 110 = .ok (.iload 4, 2) := by decide +kernel
theorem dX11_makes_112 : decode cX11_makes 112 = .ok (.imul, 1) := by decide +kernel
theorem dX11_makes_113 : decode cX11_makes 113 = .ok (.iadd, 1) := by decide +kernel
theorem dX11_makes_114 : decode cX11_makes 114 = .ok (.lload 5, 2) := by decide +kernel
theorem dX11_makes_116 : decode cX11_makes 116 = .ok (.iload_n 3, 1) := by decide +kernel
theorem dX11_makes_117 : decode cX11_makes 117 = .ok (.ifCond .ne 7, 3) := by decide +kernel
theorem dX11_makes_120 : decode cX11_makes 120 = .ok (.lconst 0, 1) := by decide +kernel
theorem dX11_makes_121 : decode cX11_makes 121 = .ok (.goto 8, 3) := by decide +kernel
theorem dX11_makes_124 : decode cX11_makes 124 = .ok (.lconst 1, 1) := by decide +kernel
theorem dX11_makes_125 : decode cX11_makes 125 = .ok (.iload_n 3, 1) := by decide +kernel
theorem dX11_makes_126 : decode cX11_makes 126 = .ok (.iconst 1, 1) := by decide +kernel
theorem dX11_makes_127 : decode cX11_makes 127 = .ok (.isub, 1) := by decide +kernel
theorem dX11_makes_128 : decode cX11_makes 128 = .ok (.lshl, 1) := by decide +kernel
theorem dX11_makes_129 : decode cX11_makes 129 = .ok (.ladd, 1) := by decide +kernel
theorem dX11_makes_130 : decode cX11_makes 130 = .ok (.invokestatic 82, 3) := by decide +kernel
theorem dX11_makes_133 : decode cX11_makes 133 = .ok (.iload_n 3, 1) := by decide +kernel
theorem dX11_makes_134 : decode cX11_makes 134 = .ok (.lshr, 1) := by decide +kernel
theorem dX11_makes_135 : decode cX11_makes 135 = .ok (.lastore, 1) := by decide +kernel
theorem dX11_makes_136 : decode cX11_makes 136 = .ok (.iinc 4 1, 3) := by decide +kernel
theorem dX11_makes_139 : decode cX11_makes 139 = .ok (.goto (-84), 3) := by decide +kernel
theorem dX11_makes_142 : decode cX11_makes 142 = .ok (.return_, 1) := by decide +kernel
theorem dX11_settles_0 : decode cX11_settles 0 = .ok (.iconst 0, 1) := by decide +kernel
theorem dX11_settles_1 : decode cX11_settles 1 = .ok (.istore_n 2, 1) := by decide +kernel
theorem dX11_settles_2 : decode cX11_settles 2 = .ok (.iload_n 2, 1) := by decide +kernel
theorem dX11_settles_3 : decode cX11_settles 3 = .ok (.bipush 120, 2) := by decide +kernel
theorem dX11_settles_5 : decode cX11_settles 5 = .ok (.if_icmp .ge 29, 3) := by decide +kernel
theorem dX11_settles_8 : decode cX11_settles 8 = .ok (.aload_n 0, 1) := by decide +kernel
theorem dX11_settles_9 : decode cX11_settles 9 = .ok (.getfield 32, 3) := by decide +kernel
theorem dX11_settles_12 : decode cX11_settles 12 = .ok (.iload_n 1, 1) := by decide +kernel
theorem dX11_settles_13 : decode cX11_settles 13 = .ok (.iload_n 2, 1) := by decide +kernel
theorem dX11_settles_14 : decode cX11_settles 14 = .ok (.iadd, 1) := by decide +kernel
theorem dX11_settles_15 : decode cX11_settles 15 = .ok (.aload_n 0, 1) := by decide +kernel
theorem dX11_settles_16 : decode cX11_settles 16 = .ok (.getfield 32, 3) := by decide +kernel
theorem dX11_settles_19 : decode cX11_settles 19 = .ok (.iload_n 1, 1) := by decide +kernel
theorem dX11_settles_20 : decode cX11_settles 20 = .ok (.sipush 160, 3) := by decide +kernel
theorem dX11_settles_23 : decode cX11_settles 23 = .ok (.iadd, 1) := by decide +kernel
theorem dX11_settles_24 : decode cX11_settles 24 = .ok (.iload_n 2, 1) := by decide +kernel
theorem dX11_settles_25 : decode cX11_settles 25 = .ok (.iadd, 1) := by decide +kernel
theorem dX11_settles_26 : decode cX11_settles 26 = .ok (.laload, 1) := by decide +kernel
theorem dX11_settles_27 : decode cX11_settles 27 = .ok (.lastore, 1) := by decide +kernel
theorem dX11_settles_28 : decode cX11_settles 28 = .ok (.iinc 2 1, 3) := by decide +kernel
theorem dX11_settles_31 : decode cX11_settles 31 = .ok (.goto (-29), 3) := by decide +kernel
theorem dX11_settles_34 : decode cX11_settles 34 = .ok (.return_, 1) := by decide +kernel
theorem dX11_encode_0 : decode cX11_encode 0 = .ok (.aload_n 0, 1) := by decide +kernel
theorem dX11_encode_1 : decode cX11_encode 1 = .ok (.aload_n 0, 1) := by decide +kernel
theorem dX11_encode_2 : decode cX11_encode 2 = .ok (.getfield 88, 3) := by decide +kernel
theorem dX11_encode_5 : decode cX11_encode 5 = .ok (.sipush 160, 3) := by decide +kernel
theorem dX11_encode_8 : decode cX11_encode 8 = .ok (.if_icmp .ne 7, 3) := by decide +kernel
theorem dX11_encode_11 : decode cX11_encode 11 = .ok (.iconst 0, 1) := by decide +kernel
theorem dX11_encode_12 : decode cX11_encode 12 = .ok (.goto 4, 3) := by decide +kernel
theorem dX11_encode_15 : decode cX11_encode 15 = .ok (.iconst 1, 1) := by decide +kernel
theorem dX11_encode_16 : decode cX11_encode 16 = .ok (.invokevirtual 91, 3) := by decide +kernel
theorem dX11_encode_19 : decode cX11_encode 19 = .ok (.ifCond .eq 5, 3) := by decide +kernel
theorem dX11_encode_22 : decode cX11_encode 22 = .ok (.iconst 0, 1) := by decide +kernel
theorem dX11_encode_23 : decode cX11_encode 23 = .ok (.ireturn, 1) := by decide +kernel
theorem dX11_encode_24 : decode cX11_encode 24 = .ok (.aload_n 0, 1) := by decide +kernel
theorem dX11_encode_25 : decode cX11_encode 25 = .ok (.invokevirtual 199, 3) := by decide +kernel
theorem dX11_encode_28 : decode cX11_encode 28 = .ok (.aload_n 0, 1) := by decide +kernel
theorem dX11_encode_29 : decode cX11_encode 29 = .ok (.invokevirtual 202, 3) := by decide +kernel
theorem dX11_encode_32 : decode cX11_encode 32 = .ok (.aload_n 0, 1) := by decide +kernel
theorem dX11_encode_33 : decode cX11_encode 33 = .ok (.invokevirtual 205, 3) := by decide +kernel
theorem dX11_encode_36 : decode cX11_encode 36 = .ok (.aload_n 0, 1) := by decide +kernel
theorem dX11_encode_37 : decode cX11_encode 37 = .ok (.invokevirtual 208, 3) := by decide +kernel
theorem dX11_encode_40 : decode cX11_encode 40 = .ok (.aload_n 0, 1) := by decide +kernel
theorem dX11_encode_41 : decode cX11_encode 41 = .ok (.invokevirtual 211, 3) := by decide +kernel
theorem dX11_encode_44 : decode cX11_encode 44 = .ok (.aload_n 0, 1) := by decide +kernel
theorem dX11_encode_45 : decode cX11_encode 45 = .ok (.invokevirtual 214, 3) := by decide +kernel
theorem dX11_encode_48 : decode cX11_encode 48 = .ok (.aload_n 0, 1) := by decide +kernel
theorem dX11_encode_49 : decode cX11_encode 49 = .ok (.iconst 0, 1) := by decide +kernel
theorem dX11_encode_50 : decode cX11_encode 50 = .ok (.invokevirtual 217, 3) := by decide +kernel
theorem dX11_encode_53 : decode cX11_encode 53 = .ok (.iconst 0, 1) := by decide +kernel
theorem dX11_encode_54 : decode cX11_encode 54 = .ok (.istore_n 1, 1) := by decide +kernel
theorem dX11_encode_55 : decode cX11_encode 55 = .ok (.iload_n 1, 1) := by decide +kernel
theorem dX11_encode_56 : decode cX11_encode 56 = .ok (.iconst 4, 1) := by decide +kernel
theorem dX11_encode_57 : decode cX11_encode 57 = .ok (.if_icmp .ge 168, 3) := by decide +kernel
theorem dX11_encode_60 : decode cX11_encode 60 = .ok (.bipush 120, 2) := by decide +kernel
theorem dX11_encode_62 : decode cX11_encode 62 = .ok (.bipush 40, 2) := by decide +kernel
theorem dX11_encode_64 : decode cX11_encode 64 = .ok (.iload_n 1, 1) := by decide +kernel
theorem dX11_encode_65 : decode cX11_encode 65 = .ok (.imul, 1) := by decide +kernel
theorem dX11_encode_66 : decode cX11_encode 66 = .ok (.iadd, 1) := by decide +kernel
theorem dX11_encode_67 : decode cX11_encode 67 = .ok (.istore_n 2, 1) := by decide +kernel
theorem dX11_encode_68 : decode cX11_encode 68 = .ok (.aload_n 0, 1) := by decide +kernel
theorem dX11_encode_69 : decode cX11_encode 69 = .ok (.iload_n 1, 1) := by decide +kernel
theorem dX11_encode_70 : decode cX11_encode 70 = .ok (.iload_n 2, 1) := by decide +kernel
theorem dX11_encode_71 : decode cX11_encode 71 = .ok (.invokevirtual 220, 3) := by decide +kernel
theorem dX11_encode_74 : decode cX11_encode 74 = .ok (.iconst 0, 1) := by decide +kernel
theorem dX11_encode_75 : decode cX11_encode 75 = .ok (.istore_n 3, 1) := by decide +kernel
theorem dX11_encode_76 : decode cX11_encode 76 = .ok (.iload_n 3, 1) := by decide +kernel
theorem dX11_encode_77 : decode cX11_encode 77 = .ok (.bipush 40, 2) := by decide +kernel
theorem dX11_encode_79 : decode cX11_encode 79 = .ok (.if_icmp .ge 86, 3) := by decide +kernel
theorem dX11_encode_82 : decode cX11_encode 82 = .ok (.aload_n 0, 1) := by decide +kernel
theorem dX11_encode_83 : decode cX11_encode 83 = .ok (.getfield 32, 3) := by decide +kernel
theorem dX11_encode_86 : decode cX11_encode 86 = .ok (.iload_n 2, 1) := by decide +kernel
theorem dX11_encode_87 : decode cX11_encode 87 = .ok (.iload_n 3, 1) := by decide +kernel
theorem dX11_encode_88 : decode cX11_encode 88 = .ok (.iadd, 1) := by decide +kernel
theorem dX11_encode_89 : decode cX11_encode 89 = .ok (.aload_n 0, 1) := by decide +kernel
theorem dX11_encode_90 : decode cX11_encode 90 = .ok (.getfield 17, 3) := by decide +kernel
theorem dX11_encode_93 : decode cX11_encode 93 = .ok (.bipush 9, 2) := by decide +kernel
theorem dX11_encode_95 : decode cX11_encode 95 = .ok (.bipush 17, 2) := by decide +kernel
theorem dX11_encode_97 : decode cX11_encode 97 = .ok (.iload_n 1, 1) := by decide +kernel
theorem dX11_encode_98 : decode cX11_encode 98 = .ok (.imul, 1) := by decide +kernel
theorem dX11_encode_99 : decode cX11_encode 99 = .ok (.iadd, 1) := by decide +kernel
theorem dX11_encode_100 : decode cX11_encode 100 = .ok (.iaload, 1) := by decide +kernel
theorem dX11_encode_101 : decode cX11_encode 101 = .ok (.invokestatic 223, 3) := by decide +kernel
theorem dX11_encode_104 : decode cX11_encode 104 = .ok (.i2l, 1) := by decide +kernel
theorem dX11_encode_105 : decode cX11_encode 105 = .ok (.aload_n 0, 1) := by decide +kernel
theorem dX11_encode_106 : decode cX11_encode 106 = .ok (.getfield 32, 3) := by decide +kernel
theorem dX11_encode_109 : decode cX11_encode 109 = .ok (.iload_n 2, 1) := by decide +kernel
theorem dX11_encode_110 : decode cX11_encode 110 = .ok (.iload_n 3, 1) := by decide +kernel
theorem dX11_encode_111 : decode cX11_encode 111 = .ok (.iadd, 1) := by decide +kernel
theorem dX11_encode_112 : decode cX11_encode 112 = .ok (.aload_n 0, 1) := by decide +kernel
theorem dX11_encode_113 : decode cX11_encode 113 = .ok (.getfield 17, 3) := by decide +kernel
theorem dX11_encode_116 : decode cX11_encode 116 = .ok (.bipush 8, 2) := by decide +kernel
theorem dX11_encode_118 : decode cX11_encode 118 = .ok (.bipush 17, 2) := by decide +kernel
theorem dX11_encode_120 : decode cX11_encode 120 = .ok (.iload_n 1, 1) := by decide +kernel
theorem dX11_encode_121 : decode cX11_encode 121 = .ok (.imul, 1) := by decide +kernel
theorem dX11_encode_122 : decode cX11_encode 122 = .ok (.iadd, 1) := by decide +kernel
theorem dX11_encode_123 : decode cX11_encode 123 = .ok (.iaload, 1) := by decide +kernel
theorem dX11_encode_124 : decode cX11_encode 124 = .ok (.isub, 1) := by decide +kernel
theorem dX11_encode_125 : decode cX11_encode 125 = .ok (.laload, 1) := by decide +kernel
theorem dX11_encode_126 : decode cX11_encode 126 = .ok (.invokestatic 112, 3) := by decide +kernel
theorem dX11_encode_129 : decode cX11_encode 129 = .ok (.lastore, 1) := by decide +kernel
theorem dX11_encode_130 : decode cX11_encode 130 = .ok (.aload_n 0, 1) := by decide +kernel
theorem dX11_encode_131 : decode cX11_encode 131 = .ok (.getfield 45, 3) := by decide +kernel
theorem dX11_encode_134 : decode cX11_encode 134 = .ok (.iload_n 3, 1) := by decide +kernel
theorem dX11_encode_135 : decode cX11_encode 135 = .ok (.aload_n 0, 1) := by decide +kernel
theorem dX11_encode_136 : decode cX11_encode 136 = .ok (.getfield 42, 3) := by decide +kernel
theorem dX11_encode_139 : decode cX11_encode 139 = .ok (.bipush 40, 2) := by decide +kernel
theorem dX11_encode_141 : decode cX11_encode 141 = .ok (.iload_n 1, 1) := by decide +kernel
theorem dX11_encode_142 : decode cX11_encode 142 = .ok (.imul, 1) := by decide +kernel
theorem dX11_encode_143 : decode cX11_encode 143 = .ok (.iload_n 3, 1) := by decide +kernel
theorem dX11_encode_144 : decode cX11_encode 144 = .ok (.iadd, 1) := by decide +kernel
theorem dX11_encode_145 : decode cX11_encode 145 = .ok (.laload, 1) := by decide +kernel
theorem dX11_encode_146 : decode cX11_encode 146 = .ok (.aload_n 0, 1) := by decide +kernel
theorem dX11_encode_147 : decode cX11_encode 147 = .ok (.getfield 32, 3) := by decide +kernel
theorem dX11_encode_150 : decode cX11_encode 150 = .ok (.iload_n 2, 1) := by decide +kernel
theorem dX11_encode_151 : decode cX11_encode 151 = .ok (.iload_n 3, 1) := by decide +kernel
theorem dX11_encode_152 : decode cX11_encode 152 = .ok (.iadd, 1) := by decide +kernel
theorem dX11_encode_153 : decode cX11_encode 153 = .ok (.laload, 1) := by decide +kernel
theorem dX11_encode_154 : decode cX11_encode 154 = .ok (.lsub, 1) := by decide +kernel
theorem dX11_encode_155 : decode cX11_encode 155 = .ok (.invokestatic 82, 3) := by decide +kernel
theorem dX11_encode_158 : decode cX11_encode 158 = .ok (.lastore, 1) := by decide +kernel
theorem dX11_encode_159 : decode cX11_encode 159 = .ok (.iinc 3 1, 3) := by decide +kernel
theorem dX11_encode_162 : decode cX11_encode 162 = .ok (.goto (-86), 3) := by decide +kernel
theorem dX11_encode_165 : decode cX11_encode 165 = .ok (.aload_n 0, 1) := by decide +kernel
theorem dX11_encode_166 : decode cX11_encode 166 = .ok (.invokevirtual 226, 3) := by decide +kernel
theorem dX11_encode_169 : decode cX11_encode 169 = .ok (.aload_n 0, 1) := by decide +kernel
theorem dX11_encode_170 : decode cX11_encode 170 = .ok (.iload_n 1, 1) := by decide +kernel
theorem dX11_encode_171 : decode cX11_encode 171 = .ok (.invokevirtual 229, 3) := by decide +kernel
theorem dX11_encode_174 : decode cX11_encode 174 = .ok (.aload_n 0, 1) := by decide +kernel
theorem dX11_encode_175 : decode cX11_encode 175 = .ok (.iload_n 1, 1) := by decide +kernel
theorem dX11_encode_176 : decode cX11_encode 176 = .ok (.invokevirtual 232, 3) := by decide +kernel
theorem dX11_encode_179 : decode cX11_encode 179 = .ok (.iconst 0, 1) := by decide +kernel
theorem dX11_encode_180 : decode cX11_encode 180 = .ok (.istore_n 3, 1) := by decide +kernel
theorem dX11_encode_181 : decode cX11_encode 181 = .ok (.iload_n 3, 1) := by decide +kernel
theorem dX11_encode_182 : decode cX11_encode 182 = .ok (.bipush 40, 2) := by decide +kernel
theorem dX11_encode_184 : decode cX11_encode 184 = .ok (.if_icmp .ge 35, 3) := by decide +kernel
theorem dX11_encode_187 : decode cX11_encode 187 = .ok (.aload_n 0, 1) := by decide +kernel
theorem dX11_encode_188 : decode cX11_encode 188 = .ok (.getfield 32, 3) := by decide +kernel
theorem dX11_encode_191 : decode cX11_encode 191 = .ok (.iload_n 2, 1) := by decide +kernel
theorem dX11_encode_192 : decode cX11_encode 192 = .ok (.iload_n 3, 1) := by decide +kernel
theorem dX11_encode_193 : decode cX11_encode 193 = .ok (.iadd, 1) := by decide +kernel
theorem dX11_encode_194 : decode cX11_encode 194 = .ok (.aload_n 0, 1) := by decide +kernel
theorem dX11_encode_195 : decode cX11_encode 195 = .ok (.getfield 32, 3) := by decide +kernel
theorem dX11_encode_198 : decode cX11_encode 198 = .ok (.iload_n 2, 1) := by decide +kernel
theorem dX11_encode_199 : decode cX11_encode 199 = .ok (.iload_n 3, 1) := by decide +kernel
theorem dX11_encode_200 : decode cX11_encode 200 = .ok (.iadd, 1) := by decide +kernel
theorem dX11_encode_201 : decode cX11_encode 201 = .ok (.laload, 1) := by decide +kernel
theorem dX11_encode_202 : decode cX11_encode 202 = .ok (.aload_n 0, 1) := by decide +kernel
theorem dX11_encode_203 : decode cX11_encode 203 = .ok (.getfield 66, 3) := by decide +kernel
theorem dX11_encode_206 : decode cX11_encode 206 = .ok (.iload_n 3, 1) := by decide +kernel
theorem dX11_encode_207 : decode cX11_encode 207 = .ok (.laload, 1) := by decide +kernel
theorem dX11_encode_208 : decode cX11_encode 208 = .ok (.ladd, 1) := by decide +kernel
theorem dX11_encode_209 : decode cX11_encode 209 = .ok (.invokestatic 82, 3) := by decide +kernel
theorem dX11_encode_212 : decode cX11_encode 212 = .ok (.lastore, 1) := by decide +kernel
theorem dX11_encode_213 : decode cX11_encode 213 = .ok (.iinc 3 1, 3) := by decide +kernel
theorem dX11_encode_216 : decode cX11_encode 216 = .ok (.goto (-35), 3) := by decide +kernel
theorem dX11_encode_219 : decode cX11_encode 219 = .ok (.iinc 1 1, 3) := by decide +kernel
theorem dX11_encode_222 : decode cX11_encode 222 = .ok (.goto (-167), 3) := by decide +kernel
theorem dX11_encode_225 : decode cX11_encode 225 = .ok (.aload_n 0, 1) := by decide +kernel
theorem dX11_encode_226 : decode cX11_encode 226 = .ok (.iconst 0, 1) := by decide +kernel
theorem dX11_encode_227 : decode cX11_encode 227 = .ok (.invokevirtual 235, 3) := by decide +kernel
theorem dX11_encode_230 : decode cX11_encode 230 = .ok (.aload_n 0, 1) := by decide +kernel
theorem dX11_encode_231 : decode cX11_encode 231 = .ok (.iconst 0, 1) := by decide +kernel
theorem dX11_encode_232 : decode cX11_encode 232 = .ok (.putfield 88, 3) := by decide +kernel
theorem dX11_encode_235 : decode cX11_encode 235 = .ok (.aload_n 0, 1) := by decide +kernel
theorem dX11_encode_236 : decode cX11_encode 236 = .ok (.dup, 1) := by decide +kernel
theorem dX11_encode_237 : decode cX11_encode 237 = .ok (.getfield 238, 3) := by decide +kernel
theorem dX11_encode_240 : decode cX11_encode 240 = .ok (.iconst 1, 1) := by decide +kernel
theorem dX11_encode_241 : decode cX11_encode 241 = .ok (.iadd, 1) := by decide +kernel
theorem dX11_encode_242 : decode cX11_encode 242 = .ok (.putfield 238, 3) := by decide +kernel
theorem dX11_encode_245 : decode cX11_encode 245 = .ok (.aload_n 0, 1) := by decide +kernel
theorem dX11_encode_246 : decode cX11_encode 246 = .ok (.getfield 238, 3) := by decide +kernel
theorem dX11_encode_249 : decode cX11_encode 249 = .ok (.ireturn, 1) := by decide +kernel
theorem dX11_parameter_0 : decode cX11_parameter 0 = .ok (.aload_n 0, 1) := by decide +kernel
theorem dX11_parameter_1 : decode cX11_parameter 1 = .ok (.iload_n 1, 1) := by decide +kernel
theorem dX11_parameter_2 : decode cX11_parameter 2 = .ok (.ifCond .lt 9, 3) := by decide +kernel
theorem dX11_parameter_5 : decode cX11_parameter 5 = .ok (.iload_n 1, 1) := by decide +kernel
theorem dX11_parameter_6 : decode cX11_parameter 6 = .ok (.bipush 75, 2) := by decide +kernel
theorem dX11_parameter_8 : decode cX11_parameter 8 = .ok (.if_icmp .le 7, 3) := by decide +kernel
theorem dX11_parameter_11 : decode cX11_parameter 11 = .ok (.iconst 1, 1) := by decide +kernel
theorem dX11_parameter_12 : decode cX11_parameter 12 = .ok (.goto 4, 3) := by decide +kernel
theorem dX11_parameter_15 : decode cX11_parameter 15 = .ok (.iconst 0, 1) := by decide +kernel
theorem dX11_parameter_16 : decode cX11_parameter 16 = .ok (.invokevirtual 91, 3) := by decide +kernel
theorem dX11_parameter_19 : decode cX11_parameter 19 = .ok (.ifCond .eq 7, 3) := by decide +kernel
theorem dX11_parameter_22 : decode cX11_parameter 22 = .ok (.iconst 0, 1) := by decide +kernel
theorem dX11_parameter_23 : decode cX11_parameter 23 = .ok (.goto 9, 3) := by decide +kernel
theorem dX11_parameter_26 : decode cX11_parameter 26 = .ok (.aload_n 0, 1) := by decide +kernel
theorem dX11_parameter_27 : decode cX11_parameter 27 = .ok (.getfield 17, 3) := by decide +kernel
theorem dX11_parameter_30 : decode cX11_parameter 30 = .ok (.iload_n 1, 1) := by decide +kernel
theorem dX11_parameter_31 : decode cX11_parameter 31 = .ok (.iaload, 1) := by decide +kernel
theorem dX11_parameter_32 : decode cX11_parameter 32 = .ok (.ireturn, 1) := by decide +kernel
theorem dX11_feed_0 : decode cX11_feed 0 = .ok (.aload_n 0, 1) := by decide +kernel
theorem dX11_feed_1 : decode cX11_feed 1 = .ok (.iload_n 3, 1) := by decide +kernel
theorem dX11_feed_2 : decode cX11_feed 2 = .ok (.ifCond .lt 9, 3) := by decide +kernel
theorem dX11_feed_5 : decode cX11_feed 5 = .ok (.iload_n 3, 1) := by decide +kernel
theorem dX11_feed_6 : decode cX11_feed 6 = .ok (.bipush 8, 2) := by decide +kernel
theorem dX11_feed_8 : decode cX11_feed 8 = .ok (.if_icmp .le 7, 3) := by decide +kernel
theorem dX11_feed_11 : decode cX11_feed 11 = .ok (.iconst 1, 1) := by decide +kernel
theorem dX11_feed_12 : decode cX11_feed 12 = .ok (.goto 19, 3) := by decide +kernel
theorem dX11_feed_15 : decode cX11_feed 15 = .ok (.aload_n 0, 1) := by decide +kernel
theorem dX11_feed_16 : decode cX11_feed 16 = .ok (.getfield 241, 3) := by decide +kernel
theorem dX11_feed_19 : decode cX11_feed 19 = .ok (.iload_n 3, 1) := by decide +kernel
theorem dX11_feed_20 : decode cX11_feed 20 = .ok (.iadd, 1) := by decide +kernel
theorem dX11_feed_21 : decode cX11_feed 21 = .ok (.bipush 33, 2) := by decide +kernel
theorem dX11_feed_23 : decode cX11_feed 23 = .ok (.if_icmp .le 7, 3) := by decide +kernel
theorem dX11_feed_26 : decode cX11_feed 26 = .ok (.iconst 2, 1) := by decide +kernel
theorem dX11_feed_27 : decode cX11_feed 27 = .ok (.goto 4, 3) := by decide +kernel
theorem dX11_feed_30 : decode cX11_feed 30 = .ok (.iconst 0, 1) := by decide +kernel
theorem dX11_feed_31 : decode cX11_feed 31 = .ok (.invokevirtual 91, 3) := by decide +kernel
theorem dX11_feed_34 : decode cX11_feed 34 = .ok (.ifCond .eq 5, 3) := by decide +kernel
theorem dX11_feed_37 : decode cX11_feed 37 = .ok (.iconst 0, 1) := by decide +kernel
theorem dX11_feed_38 : decode cX11_feed 38 = .ok (.ireturn, 1) := by decide +kernel
theorem dX11_feed_39 : decode cX11_feed 39 = .ok (.iconst 0, 1) := by decide +kernel
theorem dX11_feed_40 : decode cX11_feed 40 = .ok (.istore 4, 2) := by decide +kernel
theorem dX11_feed_42 : decode cX11_feed 42 = .ok (.iload 4, 2) := by decide +kernel
theorem dX11_feed_44 : decode cX11_feed 44 = .ok (.iload_n 3, 1) := by decide +kernel
theorem dX11_feed_45 : decode cX11_feed 45 = .ok (.if_icmp .ge 40, 3) := by decide +kernel
theorem dX11_feed_48 : decode cX11_feed 48 = .ok (.aload_n 0, 1) := by decide +kernel
theorem dX11_feed_49 : decode cX11_feed 49 = .ok (.getfield 13, 3) := by decide +kernel
theorem dX11_feed_52 : decode cX11_feed 52 = .ok (.aload_n 0, 1) := by decide +kernel
theorem dX11_feed_53 : decode cX11_feed 53 = .ok (.getfield 241, 3) := by decide +kernel
theorem dX11_feed_56 : decode cX11_feed 56 = .ok (.lload_n 1, 1) := by decide +kernel
theorem dX11_feed_57 : decode cX11_feed 57 = .ok (.bipush 8, 2) := by decide +kernel
theorem dX11_feed_59 : decode cX11_feed 59 = .ok (.iload 4, 2) := by decide +kernel
theorem dX11_feed_61 : decode cX11_feed 61 = .ok (.imul, 1) := by decide +kernel
theorem dX11_feed_62 : decode cX11_feed 62 = .ok (.lshr, 1) := by decide +kernel
theorem dX11_feed_63 : decode cX11_feed 63 = .ok (.ldc2_w 244, 3) := by decide +kernel
theorem dX11_feed_66 : decode cX11_feed 66 = .ok (.land, 1) := by decide +kernel
theorem dX11_feed_67 : decode cX11_feed 67 = .ok (.l2i, 1) := by decide +kernel
theorem dX11_feed_68 : decode cX11_feed 68 = .ok (.iastore, 1) := by decide +kernel
theorem dX11_feed_69 : decode cX11_feed 69 = .ok (.aload_n 0, 1) := by decide +kernel
theorem dX11_feed_70 : decode cX11_feed 70 = .ok (.dup, 1) := by decide +kernel
theorem dX11_feed_71 : decode cX11_feed 71 = .ok (.getfield 241, 3) := by decide +kernel
theorem dX11_feed_74 : decode cX11_feed 74 = .ok (.iconst 1, 1) := by decide +kernel
theorem dX11_feed_75 : decode cX11_feed 75 = .ok (.iadd, 1) := by decide +kernel
theorem dX11_feed_76 : decode cX11_feed 76 = .ok (.putfield 241, 3) := by decide +kernel
theorem dX11_feed_79 : decode cX11_feed 79 = .ok (.iinc 4 1, 3) := by decide +kernel
theorem dX11_feed_82 : decode cX11_feed 82 = .ok (.goto (-40), 3) := by decide +kernel
theorem dX11_feed_85 : decode cX11_feed 85 = .ok (.aload_n 0, 1) := by decide +kernel
theorem dX11_feed_86 : decode cX11_feed 86 = .ok (.getfield 241, 3) := by decide +kernel
theorem dX11_feed_89 : decode cX11_feed 89 = .ok (.ireturn, 1) := by decide +kernel
theorem dX11_take_0 : decode cX11_take 0 = .ok (.aload_n 0, 1) := by decide +kernel
theorem dX11_take_1 : decode cX11_take 1 = .ok (.iconst 0, 1) := by decide +kernel
theorem dX11_take_2 : decode cX11_take 2 = .ok (.putfield 69, 3) := by decide +kernel
theorem dX11_take_5 : decode cX11_take 5 = .ok (.aload_n 0, 1) := by decide +kernel
theorem dX11_take_6 : decode cX11_take 6 = .ok (.bipush 33, 2) := by decide +kernel
theorem dX11_take_8 : decode cX11_take 8 = .ok (.putfield 241, 3) := by decide +kernel
theorem dX11_take_11 : decode cX11_take 11 = .ok (.iconst 0, 1) := by decide +kernel
theorem dX11_take_12 : decode cX11_take 12 = .ok (.istore_n 1, 1) := by decide +kernel
theorem dX11_take_13 : decode cX11_take 13 = .ok (.iload_n 1, 1) := by decide +kernel
theorem dX11_take_14 : decode cX11_take 14 = .ok (.bipush 33, 2) := by decide +kernel
theorem dX11_take_16 : decode cX11_take 16 = .ok (.if_icmp .ge 16, 3) := by decide +kernel
theorem dX11_take_19 : decode cX11_take 19 = .ok (.aload_n 0, 1) := by decide +kernel
theorem dX11_take_20 : decode cX11_take 20 = .ok (.getfield 13, 3) := by decide +kernel
theorem dX11_take_23 : decode cX11_take 23 = .ok (.iload_n 1, 1) := by decide +kernel
theorem dX11_take_24 : decode cX11_take 24 = .ok (.iconst 0, 1) := by decide +kernel
theorem dX11_take_25 : decode cX11_take 25 = .ok (.iastore, 1) := by decide +kernel
theorem dX11_take_26 : decode cX11_take 26 = .ok (.iinc 1 1, 3) := by decide +kernel
theorem dX11_take_29 : decode cX11_take 29 = .ok (.goto (-16), 3) := by decide +kernel
theorem dX11_take_32 : decode cX11_take 32 = .ok (.aload_n 0, 1) := by decide +kernel
theorem dX11_take_33 : decode cX11_take 33 = .ok (.getfield 13, 3) := by decide +kernel
theorem dX11_take_36 : decode cX11_take 36 = .ok (.iconst 0, 1) := by decide +kernel
theorem dX11_take_37 : decode cX11_take 37 = .ok (.sipush 208, 3) := by decide +kernel
theorem dX11_take_40 : decode cX11_take 40 = .ok (.iastore, 1) := by decide +kernel
theorem dX11_take_41 : decode cX11_take 41 = .ok (.iconst 4, 1) := by decide +kernel
theorem dX11_take_42 : decode cX11_take 42 = .ok (.istore_n 1, 1) := by decide +kernel
theorem dX11_take_43 : decode cX11_take 43 = .ok (.iconst 0, 1) := by decide +kernel
theorem dX11_take_44 : decode cX11_take 44 = .ok (.istore_n 2, 1) := by decide +kernel
theorem dX11_take_45 : decode cX11_take 45 = .ok (.iload_n 2, 1) := by decide +kernel
theorem dX11_take_46 : decode cX11_take 46 = .ok (.bipush 76, 2) := by decide +kernel
theorem dX11_take_48 : decode cX11_take 48 = .ok (.if_icmp .ge 59, 3) := by decide +kernel
theorem dX11_take_51 : decode cX11_take 51 = .ok (.iload_n 2, 1) := by decide +kernel
theorem dX11_take_52 : decode cX11_take 52 = .ok (.invokestatic 246, 3) := by decide +kernel
theorem dX11_take_55 : decode cX11_take 55 = .ok (.iconst 1, 1) := by decide +kernel
theorem dX11_take_56 : decode cX11_take 56 = .ok (.isub, 1) := by decide +kernel
theorem dX11_take_57 : decode cX11_take 57 = .ok (.istore_n 3, 1) := by decide +kernel
theorem dX11_take_58 : decode cX11_take 58 = .ok (.iload_n 3, 1) := by decide +kernel
theorem dX11_take_59 : decode cX11_take 59 = .ok (.ifCond .lt 42, 3) := by decide +kernel
theorem dX11_take_62 : decode cX11_take 62 = .ok (.aload_n 0, 1) := by decide +kernel
theorem dX11_take_63 : decode cX11_take 63 = .ok (.getfield 13, 3) := by decide +kernel
theorem dX11_take_66 : decode cX11_take 66 = .ok (.iload_n 1, 1) := by decide +kernel
theorem dX11_take_67 : decode cX11_take 67 = .ok (.bipush 8, 2) := by decide +kernel
theorem dX11_take_69 : decode cX11_take 69 = .ok (.idiv, 1) := by decide +kernel
theorem dX11_take_70 : decode cX11_take 70 = .ok (.dup2, 1) := by decide +kernel
theorem dX11_take_71 : decode cX11_take 71 = .ok (.iaload, 1) := by decide +kernel
theorem dX11_take_72 : decode cX11_take 72 = .ok (.aload_n 0, 1) := by decide +kernel
theorem dX11_take_73 : decode cX11_take 73 = .ok (.getfield 17, 3) := by decide +kernel
theorem dX11_take_76 : decode cX11_take 76 = .ok (.iload_n 2, 1) := by decide +kernel
theorem dX11_take_77 : decode cX11_take 77 = .ok (.iaload, 1) := by decide +kernel
theorem dX11_take_78 : decode cX11_take 78 = .ok (.iload_n 3, 1) := by decide +kernel
theorem dX11_take_79 : decode cX11_take 79 = .ok (.ishr, 1) := by decide +kernel
theorem dX11_take_80 : decode cX11_take 80 = .ok (.iconst 1, 1) := by decide +kernel
theorem dX11_take_81 : decode cX11_take 81 = .ok (.iand, 1) := by decide +kernel
theorem dX11_take_82 : decode cX11_take 82 = .ok (.bipush 7, 2) := by decide +kernel
theorem dX11_take_84 : decode cX11_take 84 = .ok (.iload_n 1, 1) := by decide +kernel
theorem dX11_take_85 : decode cX11_take 85 = .ok (.bipush 8, 2) := by decide +kernel
theorem dX11_take_87 : decode cX11_take 87 = .ok (.irem, 1) := by decide +kernel
theorem dX11_take_88 : decode cX11_take 88 = .ok (.isub, 1) := by decide +kernel
theorem dX11_take_89 : decode cX11_take 89 = .ok (.ishl, 1) := by decide +kernel
theorem dX11_take_90 : decode cX11_take 90 = .ok (.iadd, 1) := by decide +kernel
theorem dX11_take_91 : decode cX11_take 91 = .ok (.iastore, 1) := by decide +kernel
theorem dX11_take_92 : decode cX11_take 92 = .ok (.iinc 1 1, 3) := by decide +kernel
theorem dX11_take_95 : decode cX11_take 95 = .ok (.iinc 3 (-1), 3) := by decide +kernel
theorem dX11_take_98 : decode cX11_take 98 = .ok (.goto (-40), 3) := by decide +kernel
theorem dX11_take_101 : decode cX11_take 101 = .ok (.iinc 2 1, 3) := by decide +kernel
theorem dX11_take_104 : decode cX11_take 104 = .ok (.goto (-59), 3) := by decide +kernel
theorem dX11_take_107 : decode cX11_take 107 = .ok (.bipush 33, 2) := by decide +kernel
theorem dX11_take_109 : decode cX11_take 109 = .ok (.ireturn, 1) := by decide +kernel
theorem dX11_hand_0 : decode cX11_hand 0 = .ok (.aload_n 0, 1) := by decide +kernel
theorem dX11_hand_1 : decode cX11_hand 1 = .ok (.iconst 0, 1) := by decide +kernel
theorem dX11_hand_2 : decode cX11_hand 2 = .ok (.putfield 69, 3) := by decide +kernel
theorem dX11_hand_5 : decode cX11_hand 5 = .ok (.iload_n 1, 1) := by decide +kernel
theorem dX11_hand_6 : decode cX11_hand 6 = .ok (.ifCond .lt 20, 3) := by decide +kernel
theorem dX11_hand_9 : decode cX11_hand 9 = .ok (.iload_n 1, 1) := by decide +kernel
theorem dX11_hand_10 : decode cX11_hand 10 = .ok (.aload_n 0, 1) := by decide +kernel
theorem dX11_hand_11 : decode cX11_hand 11 = .ok (.getfield 241, 3) := by decide +kernel
theorem dX11_hand_14 : decode cX11_hand 14 = .ok (.if_icmp .ge 12, 3) := by decide +kernel
theorem dX11_hand_17 : decode cX11_hand 17 = .ok (.aload_n 0, 1) := by decide +kernel
theorem dX11_hand_18 : decode cX11_hand 18 = .ok (.getfield 13, 3) := by decide +kernel
theorem dX11_hand_21 : decode cX11_hand 21 = .ok (.iload_n 1, 1) := by decide +kernel
theorem dX11_hand_22 : decode cX11_hand 22 = .ok (.iaload, 1) := by decide +kernel
theorem dX11_hand_23 : decode cX11_hand 23 = .ok (.goto 4, 3) := by decide +kernel
theorem dX11_hand_26 : decode cX11_hand 26 = .ok (.iconst (-1), 1) := by decide +kernel
theorem dX11_hand_27 : decode cX11_hand 27 = .ok (.ireturn, 1) := by decide +kernel
theorem dX11_decode_0 : decode cX11_decode 0 = .ok (.aload_n 0, 1) := by decide +kernel
theorem dX11_decode_1 : decode cX11_decode 1 = .ok (.iconst 0, 1) := by decide +kernel
theorem dX11_decode_2 : decode cX11_decode 2 = .ok (.putfield 69, 3) := by decide +kernel
theorem dX11_decode_5 : decode cX11_decode 5 = .ok (.aload_n 0, 1) := by decide +kernel
theorem dX11_decode_6 : decode cX11_decode 6 = .ok (.getfield 241, 3) := by decide +kernel
theorem dX11_decode_9 : decode cX11_decode 9 = .ok (.bipush 33, 2) := by decide +kernel
theorem dX11_decode_11 : decode cX11_decode 11 = .ok (.if_icmp .ne 20, 3) := by decide +kernel
theorem dX11_decode_14 : decode cX11_decode 14 = .ok (.aload_n 0, 1) := by decide +kernel
theorem dX11_decode_15 : decode cX11_decode 15 = .ok (.getfield 13, 3) := by decide +kernel
theorem dX11_decode_18 : decode cX11_decode 18 = .ok (.iconst 0, 1) := by decide +kernel
theorem dX11_decode_19 : decode cX11_decode 19 = .ok (.iaload, 1) := by decide +kernel
theorem dX11_decode_20 : decode cX11_decode 20 = .ok (.iconst 4, 1) := by decide +kernel
theorem dX11_decode_21 : decode cX11_decode 21 = .ok (.ishr, 1) := by decide +kernel
theorem dX11_decode_22 : decode cX11_decode 22 = .ok (.bipush 13, 2) := by decide +kernel
theorem dX11_decode_24 : decode cX11_decode 24 = .ok (.if_icmp .ne 7, 3) := by decide +kernel
theorem dX11_decode_27 : decode cX11_decode 27 = .ok (.iconst 1, 1) := by decide +kernel
theorem dX11_decode_28 : decode cX11_decode 28 = .ok (.goto 4, 3) := by decide +kernel
theorem dX11_decode_31 : decode cX11_decode 31 = .ok (.iconst 0, 1) := by decide +kernel
theorem dX11_decode_32 : decode cX11_decode 32 = .ok (.istore_n 1, 1) := by decide +kernel
theorem dX11_decode_33 : decode cX11_decode 33 = .ok (.aload_n 0, 1) := by decide +kernel
theorem dX11_decode_34 : decode cX11_decode 34 = .ok (.iconst 0, 1) := by decide +kernel
theorem dX11_decode_35 : decode cX11_decode 35 = .ok (.putfield 241, 3) := by decide +kernel
theorem dX11_decode_38 : decode cX11_decode 38 = .ok (.iload_n 1, 1) := by decide +kernel
theorem dX11_decode_39 : decode cX11_decode 39 = .ok (.ifCond .ne 5, 3) := by decide +kernel
theorem dX11_decode_42 : decode cX11_decode 42 = .ok (.iconst (-1), 1) := by decide +kernel
theorem dX11_decode_43 : decode cX11_decode 43 = .ok (.ireturn, 1) := by decide +kernel
theorem dX11_decode_44 : decode cX11_decode 44 = .ok (.iconst 4, 1) := by decide +kernel
theorem dX11_decode_45 : decode cX11_decode 45 = .ok (.istore_n 2, 1) := by decide +kernel
theorem dX11_decode_46 : decode cX11_decode 46 = .ok (.iconst 0, 1) := by decide +kernel
theorem dX11_decode_47 : decode cX11_decode 47 = .ok (.istore_n 3, 1) := by decide +kernel
theorem dX11_decode_48 : decode cX11_decode 48 = .ok (.iload_n 3, 1) := by decide +kernel
theorem dX11_decode_49 : decode cX11_decode 49 = .ok (.bipush 76, 2) := by decide +kernel
theorem dX11_decode_51 : decode cX11_decode 51 = .ok (.if_icmp .ge 70, 3) := by decide +kernel
theorem dX11_decode_54 : decode cX11_decode 54 = .ok (.aload_n 0, 1) := by decide +kernel
theorem dX11_decode_55 : decode cX11_decode 55 = .ok (.getfield 17, 3) := by decide +kernel
theorem dX11_decode_58 : decode cX11_decode 58 = .ok (.iload_n 3, 1) := by decide +kernel
theorem dX11_decode_59 : decode cX11_decode 59 = .ok (.iconst 0, 1) := by decide +kernel
theorem dX11_decode_60 : decode cX11_decode 60 = .ok (.iastore, 1) := by decide +kernel
theorem dX11_decode_61 : decode cX11_decode 61 = .ok (.iload_n 3, 1) := by decide +kernel
theorem dX11_decode_62 : decode cX11_decode 62 = .ok (.invokestatic 246, 3) := by decide +kernel
theorem dX11_decode_65 : decode cX11_decode 65 = .ok (.istore 4, 2) := by decide +kernel
theorem dX11_decode_67 : decode cX11_decode 67 = .ok (.iload 4, 2) := by decide +kernel
theorem dX11_decode_69 : decode cX11_decode 69 = .ok (.ifCond .le 46, 3) := by decide +kernel
theorem dX11_decode_72 : decode cX11_decode 72 = .ok (.aload_n 0, 1) := by decide +kernel
theorem dX11_decode_73 : decode cX11_decode 73 = .ok (.getfield 17, 3) := by decide +kernel
theorem dX11_decode_76 : decode cX11_decode 76 = .ok (.iload_n 3, 1) := by decide +kernel
theorem dX11_decode_77 : decode cX11_decode 77 = .ok (.iconst 2, 1) := by decide +kernel
theorem dX11_decode_78 : decode cX11_decode 78 = .ok (.aload_n 0, 1) := by decide +kernel
theorem dX11_decode_79 : decode cX11_decode 79 = .ok (.getfield 17, 3) := by decide +kernel
theorem dX11_decode_82 : decode cX11_decode 82 = .ok (.iload_n 3, 1) := by decide +kernel
theorem dX11_decode_83 : decode cX11_decode 83 = .ok (.iaload, 1) := by decide +kernel
theorem dX11_decode_84 : decode cX11_decode 84 = .ok (.imul, 1) := by decide +kernel
theorem dX11_decode_85 : decode cX11_decode 85 = .ok (.aload_n 0, 1) := by decide +kernel
theorem dX11_decode_86 : decode cX11_decode 86 = .ok (.getfield 13, 3) := by decide +kernel
theorem dX11_decode_89 : decode cX11_decode 89 = .ok (.iload_n 2, 1) := by decide +kernel
theorem dX11_decode_90 : decode cX11_decode 90 = .ok (.bipush 8, 2) := by decide +kernel
theorem dX11_decode_92 : decode cX11_decode 92 = .ok (.idiv, 1) := by decide +kernel
theorem dX11_decode_93 : decode cX11_decode 93 = .ok (.iaload, 1) := by decide +kernel
theorem dX11_decode_94 : decode cX11_decode 94 = .ok (.bipush 7, 2) := by decide +kernel
theorem dX11_decode_96 : decode cX11_decode 96 = .ok (.iload_n 2, 1) := by decide +kernel
theorem dX11_decode_97 : decode cX11_decode 97 = .ok (.bipush 8, 2) := by decide +kernel
theorem dX11_decode_99 : decode cX11_decode 99 = .ok (.irem, 1) := by decide +kernel
theorem dX11_decode_100 : decode cX11_decode 100 = .ok (.isub, 1) := by decide +kernel
theorem dX11_decode_101 : decode cX11_decode 101 = .ok (.ishr, 1) := by decide +kernel
theorem dX11_decode_102 : decode cX11_decode 102 = .ok (.iconst 1, 1) := by decide +kernel
theorem dX11_decode_103 : decode cX11_decode 103 = .ok (.iand, 1) := by decide +kernel
theorem dX11_decode_104 : decode cX11_decode 104 = .ok (.iadd, 1) := by decide +kernel
theorem dX11_decode_105 : decode cX11_decode 105 = .ok (.iastore, 1) := by decide +kernel
theorem dX11_decode_106 : decode cX11_decode 106 = .ok (.iinc 2 1, 3) := by decide +kernel
theorem dX11_decode_109 : decode cX11_decode 109 = .ok (.iinc 4 (-1), 3) := by decide +kernel
theorem dX11_decode_112 : decode cX11_decode 112 = .ok (.goto (-45), 3) := by decide +kernel
theorem dX11_decode_115 : decode cX11_decode 115 = .ok (.iinc 3 1, 3) := by decide +kernel
theorem dX11_decode_118 : decode cX11_decode 118 = .ok (.goto (-70), 3) := by decide +kernel
theorem dX11_decode_121 : decode cX11_decode 121 = .ok (.iconst 0, 1) := by decide +kernel
theorem dX11_decode_122 : decode cX11_decode 122 = .ok (.istore_n 3, 1) := by decide +kernel
theorem dX11_decode_123 : decode cX11_decode 123 = .ok (.iload_n 3, 1) := by decide +kernel
theorem dX11_decode_124 : decode cX11_decode 124 = .ok (.iconst 4, 1) := by decide +kernel
theorem dX11_decode_125 : decode cX11_decode 125 = .ok (.if_icmp .ge 136, 3) := by decide +kernel
theorem dX11_decode_128 : decode cX11_decode 128 = .ok (.aload_n 0, 1) := by decide +kernel
theorem dX11_decode_129 : decode cX11_decode 129 = .ok (.getfield 17, 3) := by decide +kernel
theorem dX11_decode_132 : decode cX11_decode 132 = .ok (.bipush 8, 2) := by decide +kernel
theorem dX11_decode_134 : decode cX11_decode 134 = .ok (.bipush 17, 2) := by decide +kernel
theorem dX11_decode_136 : decode cX11_decode 136 = .ok (.iload_n 3, 1) := by decide +kernel
theorem dX11_decode_137 : decode cX11_decode 137 = .ok (.imul, 1) := by decide +kernel
theorem dX11_decode_138 : decode cX11_decode 138 = .ok (.iadd, 1) := by decide +kernel
theorem dX11_decode_139 : decode cX11_decode 139 = .ok (.iaload, 1) := by decide +kernel
theorem dX11_decode_140 : decode cX11_decode 140 = .ok (.istore 4, 2) := by decide +kernel
theorem dX11_decode_142 : decode cX11_decode 142 = .ok (.aload_n 0, 1) := by decide +kernel
theorem dX11_decode_143 : decode cX11_decode 143 = .ok (.iload 4, 2) := by decide +kernel
theorem dX11_decode_145 : decode cX11_decode 145 = .ok (.bipush 39, 2) := by decide +kernel
theorem dX11_decode_147 : decode cX11_decode 147 = .ok (.if_icmp .le 15, 3) := by decide +kernel
theorem dX11_decode_150 : decode cX11_decode 150 = .ok (.iload 4, 2) := by decide +kernel
theorem dX11_decode_152 : decode cX11_decode 152 = .ok (.bipush 121, 2) := by decide +kernel
theorem dX11_decode_154 : decode cX11_decode 154 = .ok (.if_icmp .ge 8, 3) := by decide +kernel
theorem dX11_decode_157 : decode cX11_decode 157 = .ok (.iload 4, 2) := by decide +kernel
theorem dX11_decode_159 : decode cX11_decode 159 = .ok (.goto 7, 3) := by decide +kernel
theorem dX11_decode_162 : decode cX11_decode 162 = .ok (.aload_n 0, 1) := by decide +kernel
theorem dX11_decode_163 : decode cX11_decode 163 = .ok (.getfield 35, 3) := by decide +kernel
theorem dX11_decode_166 : decode cX11_decode 166 = .ok (.putfield 35, 3) := by decide +kernel
theorem dX11_decode_169 : decode cX11_decode 169 = .ok (.aload_n 0, 1) := by decide +kernel
theorem dX11_decode_170 : decode cX11_decode 170 = .ok (.iload_n 3, 1) := by decide +kernel
theorem dX11_decode_171 : decode cX11_decode 171 = .ok (.invokevirtual 232, 3) := by decide +kernel
theorem dX11_decode_174 : decode cX11_decode 174 = .ok (.sipush 400, 3) := by decide +kernel
theorem dX11_decode_177 : decode cX11_decode 177 = .ok (.bipush 40, 2) := by decide +kernel
theorem dX11_decode_179 : decode cX11_decode 179 = .ok (.iload_n 3, 1) := by decide +kernel
theorem dX11_decode_180 : decode cX11_decode 180 = .ok (.imul, 1) := by decide +kernel
theorem dX11_decode_181 : decode cX11_decode 181 = .ok (.iadd, 1) := by decide +kernel
theorem dX11_decode_182 : decode cX11_decode 182 = .ok (.istore 5, 2) := by decide +kernel
theorem dX11_decode_184 : decode cX11_decode 184 = .ok (.iconst 0, 1) := by decide +kernel
theorem dX11_decode_185 : decode cX11_decode 185 = .ok (.istore 6, 2) := by decide +kernel
theorem dX11_decode_187 : decode cX11_decode 187 = .ok (.iload 6, 2) := by decide +kernel
theorem dX11_decode_189 : decode cX11_decode 189 = .ok (.bipush 40, 2) := by decide +kernel
theorem dX11_decode_191 : decode cX11_decode 191 = .ok (.if_icmp .ge 64, 3) := by decide +kernel
theorem dX11_decode_194 : decode cX11_decode 194 = .ok (.aload_n 0, 1) := by decide +kernel
theorem dX11_decode_195 : decode cX11_decode 195 = .ok (.getfield 32, 3) := by decide +kernel
theorem dX11_decode_198 : decode cX11_decode 198 = .ok (.iload 5, 2) := by decide +kernel
theorem dX11_decode_200 : decode cX11_decode 200 = .ok (.iload 6, 2) := by decide +kernel
theorem dX11_decode_202 : decode cX11_decode 202 = .ok (.iadd, 1) := by decide +kernel
theorem dX11_decode_203 : decode cX11_decode 203 = .ok (.aload_n 0, 1) := by decide +kernel
theorem dX11_decode_204 : decode cX11_decode 204 = .ok (.getfield 66, 3) := by decide +kernel
theorem dX11_decode_207 : decode cX11_decode 207 = .ok (.iload 6, 2) := by decide +kernel
theorem dX11_decode_209 : decode cX11_decode 209 = .ok (.laload, 1) := by decide +kernel
theorem dX11_decode_210 : decode cX11_decode 210 = .ok (.aload_n 0, 1) := by decide +kernel
theorem dX11_decode_211 : decode cX11_decode 211 = .ok (.getfield 17, 3) := by decide +kernel
theorem dX11_decode_214 : decode cX11_decode 214 = .ok (.bipush 9, 2) := by decide +kernel
theorem dX11_decode_216 : decode cX11_decode 216 = .ok (.bipush 17, 2) := by decide +kernel
theorem dX11_decode_218 : decode cX11_decode 218 = .ok (.iload_n 3, 1) := by decide +kernel
theorem dX11_decode_219 : decode cX11_decode 219 = .ok (.imul, 1) := by decide +kernel
theorem dX11_decode_220 : decode cX11_decode 220 = .ok (.iadd, 1) := by decide +kernel
theorem dX11_decode_221 : decode cX11_decode 221 = .ok (.iaload, 1) := by decide +kernel
theorem dX11_decode_222 : decode cX11_decode 222 = .ok (.invokestatic 223, 3) := by decide +kernel
theorem dX11_decode_225 : decode cX11_decode 225 = .ok (.i2l, 1) := by decide +kernel
theorem dX11_decode_226 : decode cX11_decode 226 = .ok (.aload_n 0, 1) := by decide +kernel
theorem dX11_decode_227 : decode cX11_decode 227 = .ok (.getfield 32, 3) := by decide +kernel
theorem dX11_decode_230 : decode cX11_decode 230 = .ok (.iload 5, 2) := by decide +kernel
theorem dX11_decode_232 : decode cX11_decode 232 = .ok (.iload 6, 2) := by decide +kernel
theorem dX11_decode_234 : decode cX11_decode 234 = .ok (.iadd, 1) := by decide +kernel
theorem dX11_decode_235 : decode cX11_decode 235 = .ok (.aload_n 0, 1) := by decide +kernel
theorem dX11_decode_236 : decode cX11_decode 236 = .ok (.getfield 35, 3) := by decide +kernel
theorem dX11_decode_239 : decode cX11_decode 239 = .ok (.isub, 1) := by decide +kernel
theorem dX11_decode_240 : decode cX11_decode 240 = .ok (.laload, 1) := by decide +kernel
theorem dX11_decode_241 : decode cX11_decode 241 = .ok (.invokestatic 112, 3) := by decide +kernel
theorem dX11_decode_244 : decode cX11_decode 244 = .ok (.ladd, 1) := by decide +kernel
theorem dX11_decode_245 : decode cX11_decode 245 = .ok (.invokestatic 82, 3) := by decide +kernel
theorem dX11_decode_248 : decode cX11_decode 248 = .ok (.lastore, 1) := by decide +kernel
theorem dX11_decode_249 : decode cX11_decode 249 = .ok (.iinc 6 1, 3) := by decide +kernel
theorem dX11_decode_252 : decode cX11_decode 252 = .ok (.goto (-65), 3) := by decide +kernel
theorem dX11_decode_255 : decode cX11_decode 255 = .ok (.iinc 3 1, 3) := by decide +kernel
theorem dX11_decode_258 : decode cX11_decode 258 = .ok (.goto (-135), 3) := by decide +kernel
theorem dX11_decode_261 : decode cX11_decode 261 = .ok (.aload_n 0, 1) := by decide +kernel
theorem dX11_decode_262 : decode cX11_decode 262 = .ok (.invokevirtual 211, 3) := by decide +kernel
theorem dX11_decode_265 : decode cX11_decode 265 = .ok (.iconst 0, 1) := by decide +kernel
theorem dX11_decode_266 : decode cX11_decode 266 = .ok (.istore_n 3, 1) := by decide +kernel
theorem dX11_decode_267 : decode cX11_decode 267 = .ok (.iload_n 3, 1) := by decide +kernel
theorem dX11_decode_268 : decode cX11_decode 268 = .ok (.sipush 160, 3) := by decide +kernel
theorem dX11_decode_271 : decode cX11_decode 271 = .ok (.if_icmp .ge 175, 3) := by decide +kernel
theorem dX11_decode_274 : decode cX11_decode 274 = .ok (.iload_n 3, 1) := by decide +kernel
theorem dX11_decode_275 : decode cX11_decode 275 = .ok (.ifCond .eq 21, 3) := by decide +kernel
theorem dX11_decode_278 : decode cX11_decode 278 = .ok (.iload_n 3, 1) := by decide +kernel
theorem dX11_decode_279 : decode cX11_decode 279 = .ok (.bipush 13, 2) := by decide +kernel
theorem dX11_decode_281 : decode cX11_decode 281 = .ok (.if_icmp .eq 15, 3) := by decide +kernel
theorem dX11_decode_284 : decode cX11_decode 284 = .ok (.iload_n 3, 1) := by decide +kernel
theorem dX11_decode_285 : decode cX11_decode 285 = .ok (.bipush 27, 2) := by decide +kernel
theorem dX11_decode_287 : decode cX11_decode 287 = .ok (.if_icmp .eq 9, 3) := by decide +kernel
theorem dX11_decode_290 : decode cX11_decode 290 = .ok (.iload_n 3, 1) := by decide +kernel
theorem dX11_decode_291 : decode cX11_decode 291 = .ok (.bipush 40, 2) := by decide +kernel
theorem dX11_decode_293 : decode cX11_decode 293 = .ok (.if_icmp .ne 10, 3) := by decide +kernel
theorem dX11_decode_296 : decode cX11_decode 296 = .ok (.aload_n 0, 1) := by decide +kernel
theorem dX11_decode_297 : decode cX11_decode 297 = .ok (.iload_n 3, 1) := by decide +kernel
theorem dX11_decode_298 : decode cX11_decode 298 = .ok (.bipush 8, 2) := by decide +kernel
theorem dX11_decode_300 : decode cX11_decode 300 = .ok (.invokevirtual 167, 3) := by decide +kernel
theorem dX11_decode_303 : decode cX11_decode 303 = .ok (.aload_n 0, 1) := by decide +kernel
theorem dX11_decode_304 : decode cX11_decode 304 = .ok (.getfield 32, 3) := by decide +kernel
theorem dX11_decode_307 : decode cX11_decode 307 = .ok (.sipush 400, 3) := by decide +kernel
theorem dX11_decode_310 : decode cX11_decode 310 = .ok (.iload_n 3, 1) := by decide +kernel
theorem dX11_decode_311 : decode cX11_decode 311 = .ok (.iadd, 1) := by decide +kernel
theorem dX11_decode_312 : decode cX11_decode 312 = .ok (.laload, 1) := by decide +kernel
theorem dX11_decode_313 : decode cX11_decode 313 = .ok (.lstore 4, 2) := by decide +kernel
theorem dX11_decode_315 : decode cX11_decode 315 = .ok (.bipush 8, 2) := by decide +kernel
theorem dX11_decode_317 : decode cX11_decode 317 = .ok (.istore 6, 2) := by decide +kernel
theorem dX11_decode_319 : decode cX11_decode 319 = .ok (.iload 6, 2) := by decide +kernel
theorem dX11_decode_321 : decode cX11_decode 321 = .ok (.ifCond .le 68, 3) := by decide +kernel
theorem dX11_decode_324 : decode cX11_decode 324 = .ok (.lload 4, 2) := by decide +kernel
theorem dX11_decode_326 : decode cX11_decode 326 = .ok (.aload_n 0, 1) := by decide +kernel
theorem dX11_decode_327 : decode cX11_decode 327 = .ok (.getfield 60, 3) := by decide +kernel
theorem dX11_decode_330 : decode cX11_decode 330 = .ok (.iload 6, 2) := by decide +kernel
theorem dX11_decode_332 : decode cX11_decode 332 = .ok (.laload, 1) := by decide +kernel
theorem dX11_decode_333 : decode cX11_decode 333 = .ok (.aload_n 0, 1) := by decide +kernel
theorem dX11_decode_334 : decode cX11_decode 334 = .ok (.getfield 29, 3) := by decide +kernel
theorem dX11_decode_337 : decode cX11_decode 337 = .ok (.iload 6, 2) := by decide +kernel
theorem dX11_decode_339 : decode cX11_decode 339 = .ok (.iconst 1, 1) := by decide +kernel
theorem dX11_decode_340 : decode cX11_decode 340 = .ok (.isub, 1) := by decide +kernel
theorem dX11_decode_341 : decode cX11_decode 341 = .ok (.laload, 1) := by decide +kernel
theorem dX11_decode_342 : decode cX11_decode 342 = .ok (.invokestatic 112, 3) := by decide +kernel
theorem dX11_decode_345 : decode cX11_decode 345 = .ok (.lsub, 1) := by decide +kernel
theorem dX11_decode_346 : decode cX11_decode 346 = .ok (.invokestatic 82, 3) := by decide +kernel
theorem dX11_decode_349 : decode cX11_decode 349 = .ok (.lstore 4, 2) := by decide +kernel
theorem dX11_decode_351 : decode cX11_decode 351 = .ok (.aload_n 0, 1) := by decide +kernel
theorem dX11_decode_352 : decode cX11_decode 352 = .ok (.getfield 29, 3) := by decide +kernel
theorem dX11_decode_355 : decode cX11_decode 355 = .ok (.iload 6, 2) := by decide +kernel
theorem dX11_decode_357 : decode cX11_decode 357 = .ok (.aload_n 0, 1) := by decide +kernel
theorem dX11_decode_358 : decode cX11_decode 358 = .ok (.getfield 29, 3) := by decide +kernel
theorem dX11_decode_361 : decode cX11_decode 361 = .ok (.iload 6, 2) := by decide +kernel
theorem dX11_decode_363 : decode cX11_decode 363 = .ok (.iconst 1, 1) := by decide +kernel
theorem dX11_decode_364 : decode cX11_decode 364 = .ok (.isub, 1) := by decide +kernel
theorem dX11_decode_365 : decode cX11_decode 365 = .ok (.laload, 1) := by decide +kernel
theorem dX11_decode_366 : decode cX11_decode 366 = .ok (.aload_n 0, 1) := by decide +kernel
theorem dX11_decode_367 : decode cX11_decode 367 = .ok (.getfield 60, 3) := by decide +kernel
theorem dX11_decode_370 : decode cX11_decode 370 = .ok (.iload 6, 2) := by decide +kernel
theorem dX11_decode_372 : decode cX11_decode 372 = .ok (.laload, 1) := by decide +kernel
theorem dX11_decode_373 : decode cX11_decode 373 = .ok (.lload 4, 2) := by decide +kernel
theorem dX11_decode_375 : decode cX11_decode 375 = .ok (.invokestatic 112, 3) := by decide +kernel
theorem dX11_decode_378 : decode cX11_decode 378 = .ok (.ladd, 1) := by decide +kernel
theorem dX11_decode_379 : decode cX11_decode 379 = .ok (.invokestatic 82, 3) := by decide +kernel
theorem dX11_decode_382 : decode cX11_decode 382 = .ok (.lastore, 1) := by decide +kernel
theorem dX11_decode_383 : decode cX11_decode 383 = .ok (.iinc 6 (-1), 3) := by decide +kernel
theorem dX11_decode_386 : decode cX11_decode 386 = .ok (.goto (-67), 3) := by decide +kernel
theorem dX11_decode_389 : decode cX11_decode 389 = .ok (.aload_n 0, 1) := by decide +kernel
theorem dX11_decode_390 : decode cX11_decode 390 = .ok (.getfield 29, 3) := by decide +kernel
theorem dX11_decode_393 : decode cX11_decode 393 = .ok (.iconst 0, 1) := by decide +kernel
theorem dX11_decode_394 : decode cX11_decode 394 = .ok (.lload 4, 2) := by decide +kernel
theorem dX11_decode_396 : decode cX11_decode 396 = .ok (.lastore, 1) := by decide +kernel
theorem dX11_decode_397 : decode cX11_decode 397 = .ok (.aload_n 0, 1) := by decide +kernel
theorem dX11_decode_398 : decode cX11_decode 398 = .ok (.lload 4, 2) := by decide +kernel
theorem dX11_decode_400 : decode cX11_decode 400 = .ok (.aload_n 0, 1) := by decide +kernel
theorem dX11_decode_401 : decode cX11_decode 401 = .ok (.getfield 249, 3) := by decide +kernel
theorem dX11_decode_404 : decode cX11_decode 404 = .ok (.ldc2_w 252, 3) := by decide +kernel
theorem dX11_decode_407 : decode cX11_decode 407 = .ok (.invokestatic 112, 3) := by decide +kernel
theorem dX11_decode_410 : decode cX11_decode 410 = .ok (.ladd, 1) := by decide +kernel
theorem dX11_decode_411 : decode cX11_decode 411 = .ok (.invokestatic 82, 3) := by decide +kernel
theorem dX11_decode_414 : decode cX11_decode 414 = .ok (.putfield 249, 3) := by decide +kernel
theorem dX11_decode_417 : decode cX11_decode 417 = .ok (.aload_n 0, 1) := by decide +kernel
theorem dX11_decode_418 : decode cX11_decode 418 = .ok (.getfield 20, 3) := by decide +kernel
theorem dX11_decode_421 : decode cX11_decode 421 = .ok (.iload_n 3, 1) := by decide +kernel
theorem dX11_decode_422 : decode cX11_decode 422 = .ok (.ldc2_w 135, 3) := by decide +kernel
theorem dX11_decode_425 : decode cX11_decode 425 = .ok (.aload_n 0, 1) := by decide +kernel
theorem dX11_decode_426 : decode cX11_decode 426 = .ok (.getfield 249, 3) := by decide +kernel
theorem dX11_decode_429 : decode cX11_decode 429 = .ok (.lmul, 1) := by decide +kernel
theorem dX11_decode_430 : decode cX11_decode 430 = .ok (.invokestatic 82, 3) := by decide +kernel
theorem dX11_decode_433 : decode cX11_decode 433 = .ok (.iconst 3, 1) := by decide +kernel
theorem dX11_decode_434 : decode cX11_decode 434 = .ok (.lshr, 1) := by decide +kernel
theorem dX11_decode_435 : decode cX11_decode 435 = .ok (.l2i, 1) := by decide +kernel
theorem dX11_decode_436 : decode cX11_decode 436 = .ok (.bipush 8, 2) := by decide +kernel
theorem dX11_decode_438 : decode cX11_decode 438 = .ok (.imul, 1) := by decide +kernel
theorem dX11_decode_439 : decode cX11_decode 439 = .ok (.iastore, 1) := by decide +kernel
theorem dX11_decode_440 : decode cX11_decode 440 = .ok (.iinc 3 1, 3) := by decide +kernel
theorem dX11_decode_443 : decode cX11_decode 443 = .ok (.goto (-176), 3) := by decide +kernel
theorem dX11_decode_446 : decode cX11_decode 446 = .ok (.aload_n 0, 1) := by decide +kernel
theorem dX11_decode_447 : decode cX11_decode 447 = .ok (.bipush 8, 2) := by decide +kernel
theorem dX11_decode_449 : decode cX11_decode 449 = .ok (.invokevirtual 217, 3) := by decide +kernel
theorem dX11_decode_452 : decode cX11_decode 452 = .ok (.aload_n 0, 1) := by decide +kernel
theorem dX11_decode_453 : decode cX11_decode 453 = .ok (.sipush 280, 3) := by decide +kernel
theorem dX11_decode_456 : decode cX11_decode 456 = .ok (.invokevirtual 235, 3) := by decide +kernel
theorem dX11_decode_459 : decode cX11_decode 459 = .ok (.aload_n 0, 1) := by decide +kernel
theorem dX11_decode_460 : decode cX11_decode 460 = .ok (.dup, 1) := by decide +kernel
theorem dX11_decode_461 : decode cX11_decode 461 = .ok (.getfield 254, 3) := by decide +kernel
theorem dX11_decode_464 : decode cX11_decode 464 = .ok (.iconst 1, 1) := by decide +kernel
theorem dX11_decode_465 : decode cX11_decode 465 = .ok (.iadd, 1) := by decide +kernel
theorem dX11_decode_466 : decode cX11_decode 466 = .ok (.putfield 254, 3) := by decide +kernel
theorem dX11_decode_469 : decode cX11_decode 469 = .ok (.aload_n 0, 1) := by decide +kernel
theorem dX11_decode_470 : decode cX11_decode 470 = .ok (.getfield 254, 3) := by decide +kernel
theorem dX11_decode_473 : decode cX11_decode 473 = .ok (.ireturn, 1) := by decide +kernel
theorem dX11_sample_0 : decode cX11_sample 0 = .ok (.aload_n 0, 1) := by decide +kernel
theorem dX11_sample_1 : decode cX11_sample 1 = .ok (.iload_n 1, 1) := by decide +kernel
theorem dX11_sample_2 : decode cX11_sample 2 = .ok (.ifCond .lt 10, 3) := by decide +kernel
theorem dX11_sample_5 : decode cX11_sample 5 = .ok (.iload_n 1, 1) := by decide +kernel
theorem dX11_sample_6 : decode cX11_sample 6 = .ok (.sipush 159, 3) := by decide +kernel
theorem dX11_sample_9 : decode cX11_sample 9 = .ok (.if_icmp .le 7, 3) := by decide +kernel
theorem dX11_sample_12 : decode cX11_sample 12 = .ok (.iconst 1, 1) := by decide +kernel
theorem dX11_sample_13 : decode cX11_sample 13 = .ok (.goto 4, 3) := by decide +kernel
theorem dX11_sample_16 : decode cX11_sample 16 = .ok (.iconst 0, 1) := by decide +kernel
theorem dX11_sample_17 : decode cX11_sample 17 = .ok (.invokevirtual 91, 3) := by decide +kernel
theorem dX11_sample_20 : decode cX11_sample 20 = .ok (.ifCond .eq 7, 3) := by decide +kernel
theorem dX11_sample_23 : decode cX11_sample 23 = .ok (.iconst 0, 1) := by decide +kernel
theorem dX11_sample_24 : decode cX11_sample 24 = .ok (.goto 9, 3) := by decide +kernel
theorem dX11_sample_27 : decode cX11_sample 27 = .ok (.aload_n 0, 1) := by decide +kernel
theorem dX11_sample_28 : decode cX11_sample 28 = .ok (.getfield 20, 3) := by decide +kernel
theorem dX11_sample_31 : decode cX11_sample 31 = .ok (.iload_n 1, 1) := by decide +kernel
theorem dX11_sample_32 : decode cX11_sample 32 = .ok (.iaload, 1) := by decide +kernel
theorem dX11_sample_33 : decode cX11_sample 33 = .ok (.ireturn, 1) := by decide +kernel
theorem dX11_reset_0 : decode cX11_reset 0 = .ok (.aload_n 0, 1) := by decide +kernel
theorem dX11_reset_1 : decode cX11_reset 1 = .ok (.iload_n 1, 1) := by decide +kernel
theorem dX11_reset_2 : decode cX11_reset 2 = .ok (.ifCond .lt 8, 3) := by decide +kernel
theorem dX11_reset_5 : decode cX11_reset 5 = .ok (.iload_n 1, 1) := by decide +kernel
theorem dX11_reset_6 : decode cX11_reset 6 = .ok (.iconst 2, 1) := by decide +kernel
theorem dX11_reset_7 : decode cX11_reset 7 = .ok (.if_icmp .le 7, 3) := by decide +kernel
theorem dX11_reset_10 : decode cX11_reset 10 = .ok (.iconst 1, 1) := by decide +kernel
theorem dX11_reset_11 : decode cX11_reset 11 = .ok (.goto 4, 3) := by decide +kernel
theorem dX11_reset_14 : decode cX11_reset 14 = .ok (.iconst 0, 1) := by decide +kernel
theorem dX11_reset_15 : decode cX11_reset 15 = .ok (.invokevirtual 91, 3) := by decide +kernel
theorem dX11_reset_18 : decode cX11_reset 18 = .ok (.ifCond .eq 4, 3) := by decide +kernel
theorem dX11_reset_21 : decode cX11_reset 21 = .ok (.return_, 1) := by decide +kernel
theorem dX11_reset_22 : decode cX11_reset 22 = .ok (.iload_n 1, 1) := by decide +kernel
theorem dX11_reset_23 : decode cX11_reset 23 = .ok (.iconst 1, 1) := by decide +kernel
theorem dX11_reset_24 : decode cX11_reset 24 = .ok (.if_icmp .eq 49, 3) := by decide +kernel
theorem dX11_reset_27 : decode cX11_reset 27 = .ok (.aload_n 0, 1) := by decide +kernel
theorem dX11_reset_28 : decode cX11_reset 28 = .ok (.lconst 0, 1) := by decide +kernel
theorem dX11_reset_29 : decode cX11_reset 29 = .ok (.putfield 101, 3) := by decide +kernel
theorem dX11_reset_32 : decode cX11_reset 32 = .ok (.aload_n 0, 1) := by decide +kernel
theorem dX11_reset_33 : decode cX11_reset 33 = .ok (.lconst 0, 1) := by decide +kernel
theorem dX11_reset_34 : decode cX11_reset 34 = .ok (.putfield 107, 3) := by decide +kernel
theorem dX11_reset_37 : decode cX11_reset 37 = .ok (.aload_n 0, 1) := by decide +kernel
theorem dX11_reset_38 : decode cX11_reset 38 = .ok (.lconst 0, 1) := by decide +kernel
theorem dX11_reset_39 : decode cX11_reset 39 = .ok (.putfield 119, 3) := by decide +kernel
theorem dX11_reset_42 : decode cX11_reset 42 = .ok (.aload_n 0, 1) := by decide +kernel
theorem dX11_reset_43 : decode cX11_reset 43 = .ok (.iconst 0, 1) := by decide +kernel
theorem dX11_reset_44 : decode cX11_reset 44 = .ok (.putfield 238, 3) := by decide +kernel
theorem dX11_reset_47 : decode cX11_reset 47 = .ok (.aload_n 0, 1) := by decide +kernel
theorem dX11_reset_48 : decode cX11_reset 48 = .ok (.iconst 0, 1) := by decide +kernel
theorem dX11_reset_49 : decode cX11_reset 49 = .ok (.invokevirtual 257, 3) := by decide +kernel
theorem dX11_reset_52 : decode cX11_reset 52 = .ok (.iconst 0, 1) := by decide +kernel
theorem dX11_reset_53 : decode cX11_reset 53 = .ok (.istore_n 2, 1) := by decide +kernel
theorem dX11_reset_54 : decode cX11_reset 54 = .ok (.iload_n 2, 1) := by decide +kernel
theorem dX11_reset_55 : decode cX11_reset 55 = .ok (.bipush 9, 2) := by decide +kernel
theorem dX11_reset_57 : decode cX11_reset 57 = .ok (.if_icmp .ge 16, 3) := by decide +kernel
theorem dX11_reset_60 : decode cX11_reset 60 = .ok (.aload_n 0, 1) := by decide +kernel
theorem dX11_reset_61 : decode cX11_reset 61 = .ok (.getfield 26, 3) := by decide +kernel
theorem dX11_reset_64 : decode cX11_reset 64 = .ok (.iload_n 2, 1) := by decide +kernel
theorem dX11_reset_65 : decode cX11_reset 65 = .ok (.lconst 0, 1) := by decide +kernel
theorem dX11_reset_66 : decode cX11_reset 66 = .ok (.lastore, 1) := by decide +kernel
theorem dX11_reset_67 : decode cX11_reset 67 = .ok (.iinc 2 1, 3) := by decide +kernel
theorem dX11_reset_70 : decode cX11_reset 70 = .ok (.goto (-16), 3) := by decide +kernel
theorem dX11_reset_73 : decode cX11_reset 73 = .ok (.iload_n 1, 1) := by decide +kernel
theorem dX11_reset_74 : decode cX11_reset 74 = .ok (.ifCond .eq 45, 3) := by decide +kernel
theorem dX11_reset_77 : decode cX11_reset 77 = .ok (.aload_n 0, 1) := by decide +kernel
theorem dX11_reset_78 : decode cX11_reset 78 = .ok (.bipush 40, 2) := by decide +kernel
theorem dX11_reset_80 : decode cX11_reset 80 = .ok (.putfield 35, 3) := by decide +kernel
theorem dX11_reset_83 : decode cX11_reset 83 = .ok (.aload_n 0, 1) := by decide +kernel
theorem dX11_reset_84 : decode cX11_reset 84 = .ok (.lconst 0, 1) := by decide +kernel
theorem dX11_reset_85 : decode cX11_reset 85 = .ok (.putfield 249, 3) := by decide +kernel
theorem dX11_reset_88 : decode cX11_reset 88 = .ok (.aload_n 0, 1) := by decide +kernel
theorem dX11_reset_89 : decode cX11_reset 89 = .ok (.iconst 0, 1) := by decide +kernel
theorem dX11_reset_90 : decode cX11_reset 90 = .ok (.putfield 254, 3) := by decide +kernel
theorem dX11_reset_93 : decode cX11_reset 93 = .ok (.aload_n 0, 1) := by decide +kernel
theorem dX11_reset_94 : decode cX11_reset 94 = .ok (.iconst 1, 1) := by decide +kernel
theorem dX11_reset_95 : decode cX11_reset 95 = .ok (.invokevirtual 257, 3) := by decide +kernel
theorem dX11_reset_98 : decode cX11_reset 98 = .ok (.iconst 0, 1) := by decide +kernel
theorem dX11_reset_99 : decode cX11_reset 99 = .ok (.istore_n 2, 1) := by decide +kernel
theorem dX11_reset_100 : decode cX11_reset 100 = .ok (.iload_n 2, 1) := by decide +kernel
theorem dX11_reset_101 : decode cX11_reset 101 = .ok (.bipush 9, 2) := by decide +kernel
theorem dX11_reset_103 : decode cX11_reset 103 = .ok (.if_icmp .ge 16, 3) := by decide +kernel
theorem dX11_reset_106 : decode cX11_reset 106 = .ok (.aload_n 0, 1) := by decide +kernel
theorem dX11_reset_107 : decode cX11_reset 107 = .ok (.getfield 29, 3) := by decide +kernel
theorem dX11_reset_110 : decode cX11_reset 110 = .ok (.iload_n 2, 1) := by decide +kernel
theorem dX11_reset_111 : decode cX11_reset 111 = .ok (.lconst 0, 1) := by decide +kernel
theorem dX11_reset_112 : decode cX11_reset 112 = .ok (.lastore, 1) := by decide +kernel
theorem dX11_reset_113 : decode cX11_reset 113 = .ok (.iinc 2 1, 3) := by decide +kernel
theorem dX11_reset_116 : decode cX11_reset 116 = .ok (.goto (-16), 3) := by decide +kernel
theorem dX11_reset_119 : decode cX11_reset 119 = .ok (.iload_n 1, 1) := by decide +kernel
theorem dX11_reset_120 : decode cX11_reset 120 = .ok (.iconst 2, 1) := by decide +kernel
theorem dX11_reset_121 : decode cX11_reset 121 = .ok (.if_icmp .ne 56, 3) := by decide +kernel
theorem dX11_reset_124 : decode cX11_reset 124 = .ok (.aload_n 0, 1) := by decide +kernel
theorem dX11_reset_125 : decode cX11_reset 125 = .ok (.iconst 0, 1) := by decide +kernel
theorem dX11_reset_126 : decode cX11_reset 126 = .ok (.putfield 88, 3) := by decide +kernel
theorem dX11_reset_129 : decode cX11_reset 129 = .ok (.aload_n 0, 1) := by decide +kernel
theorem dX11_reset_130 : decode cX11_reset 130 = .ok (.iconst 0, 1) := by decide +kernel
theorem dX11_reset_131 : decode cX11_reset 131 = .ok (.putfield 241, 3) := by decide +kernel
theorem dX11_reset_134 : decode cX11_reset 134 = .ok (.iconst 0, 1) := by decide +kernel
theorem dX11_reset_135 : decode cX11_reset 135 = .ok (.istore_n 2, 1) := by decide +kernel
theorem dX11_reset_136 : decode cX11_reset 136 = .ok (.iload_n 2, 1) := by decide +kernel
theorem dX11_reset_137 : decode cX11_reset 137 = .ok (.bipush 76, 2) := by decide +kernel
theorem dX11_reset_139 : decode cX11_reset 139 = .ok (.if_icmp .ge 16, 3) := by decide +kernel
theorem dX11_reset_142 : decode cX11_reset 142 = .ok (.aload_n 0, 1) := by decide +kernel
theorem dX11_reset_143 : decode cX11_reset 143 = .ok (.getfield 17, 3) := by decide +kernel
theorem dX11_reset_146 : decode cX11_reset 146 = .ok (.iload_n 2, 1) := by decide +kernel
theorem dX11_reset_147 : decode cX11_reset 147 = .ok (.iconst 0, 1) := by decide +kernel
theorem dX11_reset_148 : decode cX11_reset 148 = .ok (.iastore, 1) := by decide +kernel
theorem dX11_reset_149 : decode cX11_reset 149 = .ok (.iinc 2 1, 3) := by decide +kernel
theorem dX11_reset_152 : decode cX11_reset 152 = .ok (.goto (-16), 3) := by decide +kernel
theorem dX11_reset_155 : decode cX11_reset 155 = .ok (.iconst 0, 1) := by decide +kernel
theorem dX11_reset_156 : decode cX11_reset 156 = .ok (.istore_n 2, 1) := by decide +kernel
theorem dX11_reset_157 : decode cX11_reset 157 = .ok (.iload_n 2, 1) := by decide +kernel
theorem dX11_reset_158 : decode cX11_reset 158 = .ok (.sipush 160, 3) := by decide +kernel
theorem dX11_reset_161 : decode cX11_reset 161 = .ok (.if_icmp .ge 16, 3) := by decide +kernel
theorem dX11_reset_164 : decode cX11_reset 164 = .ok (.aload_n 0, 1) := by decide +kernel
theorem dX11_reset_165 : decode cX11_reset 165 = .ok (.getfield 20, 3) := by decide +kernel
theorem dX11_reset_168 : decode cX11_reset 168 = .ok (.iload_n 2, 1) := by decide +kernel
theorem dX11_reset_169 : decode cX11_reset 169 = .ok (.iconst 0, 1) := by decide +kernel
theorem dX11_reset_170 : decode cX11_reset 170 = .ok (.iastore, 1) := by decide +kernel
theorem dX11_reset_171 : decode cX11_reset 171 = .ok (.iinc 2 1, 3) := by decide +kernel
theorem dX11_reset_174 : decode cX11_reset 174 = .ok (.goto (-17), 3) := by decide +kernel
theorem dX11_reset_177 : decode cX11_reset 177 = .ok (.return_, 1) := by decide +kernel
theorem dX11_clears_0 : decode cX11_clears 0 = .ok (.bipush 8, 2) := by decide +kernel
theorem dX11_clears_2 : decode cX11_clears 2 = .ok (.iload_n 1, 1) := by decide +kernel
theorem dX11_clears_3 : decode cX11_clears 3 = .ok (.imul, 1) := by decide +kernel
theorem dX11_clears_4 : decode cX11_clears 4 = .ok (.istore_n 2, 1) := by decide +kernel
theorem dX11_clears_5 : decode cX11_clears 5 = .ok (.iload_n 2, 1) := by decide +kernel
theorem dX11_clears_6 : decode cX11_clears 6 = .ok (.bipush 8, 2) := by decide +kernel
theorem dX11_clears_8 : decode cX11_clears 8 = .ok (.iload_n 1, 1) := by decide +kernel
theorem dX11_clears_9 : decode cX11_clears 9 = .ok (.imul, 1) := by decide +kernel
theorem dX11_clears_10 : decode cX11_clears 10 = .ok (.bipush 8, 2) := by decide +kernel
theorem dX11_clears_12 : decode cX11_clears 12 = .ok (.iadd, 1) := by decide +kernel
theorem dX11_clears_13 : decode cX11_clears 13 = .ok (.if_icmp .ge 16, 3) := by decide +kernel
theorem dX11_clears_16 : decode cX11_clears 16 = .ok (.aload_n 0, 1) := by decide +kernel
theorem dX11_clears_17 : decode cX11_clears 17 = .ok (.getfield 23, 3) := by decide +kernel
theorem dX11_clears_20 : decode cX11_clears 20 = .ok (.iload_n 2, 1) := by decide +kernel
theorem dX11_clears_21 : decode cX11_clears 21 = .ok (.lconst 0, 1) := by decide +kernel
theorem dX11_clears_22 : decode cX11_clears 22 = .ok (.lastore, 1) := by decide +kernel
theorem dX11_clears_23 : decode cX11_clears 23 = .ok (.iinc 2 1, 3) := by decide +kernel
theorem dX11_clears_26 : decode cX11_clears 26 = .ok (.goto (-21), 3) := by decide +kernel
theorem dX11_clears_29 : decode cX11_clears 29 = .ok (.sipush 280, 3) := by decide +kernel
theorem dX11_clears_32 : decode cX11_clears 32 = .ok (.iload_n 1, 1) := by decide +kernel
theorem dX11_clears_33 : decode cX11_clears 33 = .ok (.imul, 1) := by decide +kernel
theorem dX11_clears_34 : decode cX11_clears 34 = .ok (.istore_n 2, 1) := by decide +kernel
theorem dX11_clears_35 : decode cX11_clears 35 = .ok (.iload_n 2, 1) := by decide +kernel
theorem dX11_clears_36 : decode cX11_clears 36 = .ok (.sipush 280, 3) := by decide +kernel
theorem dX11_clears_39 : decode cX11_clears 39 = .ok (.iload_n 1, 1) := by decide +kernel
theorem dX11_clears_40 : decode cX11_clears 40 = .ok (.imul, 1) := by decide +kernel
theorem dX11_clears_41 : decode cX11_clears 41 = .ok (.sipush 280, 3) := by decide +kernel
theorem dX11_clears_44 : decode cX11_clears 44 = .ok (.iadd, 1) := by decide +kernel
theorem dX11_clears_45 : decode cX11_clears 45 = .ok (.if_icmp .ge 16, 3) := by decide +kernel
theorem dX11_clears_48 : decode cX11_clears 48 = .ok (.aload_n 0, 1) := by decide +kernel
theorem dX11_clears_49 : decode cX11_clears 49 = .ok (.getfield 32, 3) := by decide +kernel
theorem dX11_clears_52 : decode cX11_clears 52 = .ok (.iload_n 2, 1) := by decide +kernel
theorem dX11_clears_53 : decode cX11_clears 53 = .ok (.lconst 0, 1) := by decide +kernel
theorem dX11_clears_54 : decode cX11_clears 54 = .ok (.lastore, 1) := by decide +kernel
theorem dX11_clears_55 : decode cX11_clears 55 = .ok (.iinc 2 1, 3) := by decide +kernel
theorem dX11_clears_58 : decode cX11_clears 58 = .ok (.goto (-23), 3) := by decide +kernel
theorem dX11_clears_61 : decode cX11_clears 61 = .ok (.return_, 1) := by decide +kernel
theorem dX11_state_0 : decode cX11_state 0 = .ok (.iload_n 1, 1) := by decide +kernel
theorem dX11_state_1 : decode cX11_state 1 = .ok (.ifCond .lt 9, 3) := by decide +kernel
theorem dX11_state_4 : decode cX11_state 4 = .ok (.iload_n 1, 1) := by decide +kernel
theorem dX11_state_5 : decode cX11_state 5 = .ok (.bipush 7, 2) := by decide +kernel
theorem dX11_state_7 : decode cX11_state 7 = .ok (.if_icmp .le 7, 3) := by decide +kernel
theorem dX11_state_10 : decode cX11_state 10 = .ok (.iconst 0, 1) := by decide +kernel
theorem dX11_state_11 : decode cX11_state 11 = .ok (.goto 40, 3) := by decide +kernel
theorem dX11_state_14 : decode cX11_state 14 = .ok (.iload_n 1, 1) := by decide +kernel
theorem dX11_state_15 : decode cX11_state 15 = .ok (.iconst 2, 1) := by decide +kernel
theorem dX11_state_16 : decode cX11_state 16 = .ok (.if_icmp .eq 8, 3) := by decide +kernel
theorem dX11_state_19 : decode cX11_state 19 = .ok (.iload_n 1, 1) := by decide +kernel
theorem dX11_state_20 : decode cX11_state 20 = .ok (.iconst 3, 1) := by decide +kernel
theorem dX11_state_21 : decode cX11_state 21 = .ok (.if_icmp .ne 8, 3) := by decide +kernel
theorem dX11_state_24 : decode cX11_state 24 = .ok (.bipush 120, 2) := by decide +kernel
theorem dX11_state_26 : decode cX11_state 26 = .ok (.goto 25, 3) := by decide +kernel
theorem dX11_state_29 : decode cX11_state 29 = .ok (.iload_n 1, 1) := by decide +kernel
theorem dX11_state_30 : decode cX11_state 30 = .ok (.bipush 6, 2) := by decide +kernel
theorem dX11_state_32 : decode cX11_state 32 = .ok (.if_icmp .ne 7, 3) := by decide +kernel
theorem dX11_state_35 : decode cX11_state 35 = .ok (.iconst 3, 1) := by decide +kernel
theorem dX11_state_36 : decode cX11_state 36 = .ok (.goto 15, 3) := by decide +kernel
theorem dX11_state_39 : decode cX11_state 39 = .ok (.iload_n 1, 1) := by decide +kernel
theorem dX11_state_40 : decode cX11_state 40 = .ok (.bipush 7, 2) := by decide +kernel
theorem dX11_state_42 : decode cX11_state 42 = .ok (.if_icmp .ne 7, 3) := by decide +kernel
theorem dX11_state_45 : decode cX11_state 45 = .ok (.iconst 2, 1) := by decide +kernel
theorem dX11_state_46 : decode cX11_state 46 = .ok (.goto 5, 3) := by decide +kernel
theorem dX11_state_49 : decode cX11_state 49 = .ok (.bipush 8, 2) := by decide +kernel
theorem dX11_state_51 : decode cX11_state 51 = .ok (.istore_n 3, 1) := by decide +kernel
theorem dX11_state_52 : decode cX11_state 52 = .ok (.aload_n 0, 1) := by decide +kernel
theorem dX11_state_53 : decode cX11_state 53 = .ok (.iload_n 2, 1) := by decide +kernel
theorem dX11_state_54 : decode cX11_state 54 = .ok (.ifCond .lt 8, 3) := by decide +kernel
theorem dX11_state_57 : decode cX11_state 57 = .ok (.iload_n 2, 1) := by decide +kernel
theorem dX11_state_58 : decode cX11_state 58 = .ok (.iload_n 3, 1) := by decide +kernel
theorem dX11_state_59 : decode cX11_state 59 = .ok (.if_icmp .lt 7, 3) := by decide +kernel
theorem dX11_state_62 : decode cX11_state 62 = .ok (.iconst 1, 1) := by decide +kernel
theorem dX11_state_63 : decode cX11_state 63 = .ok (.goto 4, 3) := by decide +kernel
theorem dX11_state_66 : decode cX11_state 66 = .ok (.iconst 0, 1) := by decide +kernel
theorem dX11_state_67 : decode cX11_state 67 = .ok (.invokevirtual 91, 3) := by decide +kernel
theorem dX11_state_70 : decode cX11_state 70 = .ok (.ifCond .eq 5, 3) := by decide +kernel
theorem dX11_state_73 : decode cX11_state 73 = .ok (.iconst 0, 1) := by decide +kernel
theorem dX11_state_74 : decode cX11_state 74 = .ok (.ireturn, 1) := by decide +kernel
theorem dX11_state_75 : decode cX11_state 75 = .ok (.iload_n 1, 1) := by decide +kernel
theorem dX11_state_76 : decode cX11_state 76 = .ok (.tableswitch 120 0 6 #[44, 44, 57, 57, 73, 83, 91], 44) := by decide +kernel
theorem dX11_state_120 : decode cX11_state 120 = .ok (.aload_n 0, 1) := by decide +kernel
theorem dX11_state_121 : decode cX11_state 121 = .ok (.getfield 23, 3) := by decide +kernel
theorem dX11_state_124 : decode cX11_state 124 = .ok (.bipush 8, 2) := by decide +kernel
theorem dX11_state_126 : decode cX11_state 126 = .ok (.iload_n 1, 1) := by decide +kernel
theorem dX11_state_127 : decode cX11_state 127 = .ok (.imul, 1) := by decide +kernel
theorem dX11_state_128 : decode cX11_state 128 = .ok (.iload_n 2, 1) := by decide +kernel
theorem dX11_state_129 : decode cX11_state 129 = .ok (.iadd, 1) := by decide +kernel
theorem dX11_state_130 : decode cX11_state 130 = .ok (.laload, 1) := by decide +kernel
theorem dX11_state_131 : decode cX11_state 131 = .ok (.l2i, 1) := by decide +kernel
theorem dX11_state_132 : decode cX11_state 132 = .ok (.ireturn, 1) := by decide +kernel
theorem dX11_state_133 : decode cX11_state 133 = .ok (.aload_n 0, 1) := by decide +kernel
theorem dX11_state_134 : decode cX11_state 134 = .ok (.getfield 32, 3) := by decide +kernel
theorem dX11_state_137 : decode cX11_state 137 = .ok (.sipush 280, 3) := by decide +kernel
theorem dX11_state_140 : decode cX11_state 140 = .ok (.iload_n 1, 1) := by decide +kernel
theorem dX11_state_141 : decode cX11_state 141 = .ok (.iconst 2, 1) := by decide +kernel
theorem dX11_state_142 : decode cX11_state 142 = .ok (.isub, 1) := by decide +kernel
theorem dX11_state_143 : decode cX11_state 143 = .ok (.imul, 1) := by decide +kernel
theorem dX11_state_144 : decode cX11_state 144 = .ok (.iload_n 2, 1) := by decide +kernel
theorem dX11_state_145 : decode cX11_state 145 = .ok (.iadd, 1) := by decide +kernel
theorem dX11_state_146 : decode cX11_state 146 = .ok (.laload, 1) := by decide +kernel
theorem dX11_state_147 : decode cX11_state 147 = .ok (.l2i, 1) := by decide +kernel
theorem dX11_state_148 : decode cX11_state 148 = .ok (.ireturn, 1) := by decide +kernel
theorem dX11_state_149 : decode cX11_state 149 = .ok (.aload_n 0, 1) := by decide +kernel
theorem dX11_state_150 : decode cX11_state 150 = .ok (.getfield 26, 3) := by decide +kernel
theorem dX11_state_153 : decode cX11_state 153 = .ok (.iload_n 2, 1) := by decide +kernel
theorem dX11_state_154 : decode cX11_state 154 = .ok (.iconst 1, 1) := by decide +kernel
theorem dX11_state_155 : decode cX11_state 155 = .ok (.iadd, 1) := by decide +kernel
theorem dX11_state_156 : decode cX11_state 156 = .ok (.laload, 1) := by decide +kernel
theorem dX11_state_157 : decode cX11_state 157 = .ok (.l2i, 1) := by decide +kernel
theorem dX11_state_158 : decode cX11_state 158 = .ok (.ireturn, 1) := by decide +kernel
theorem dX11_state_159 : decode cX11_state 159 = .ok (.aload_n 0, 1) := by decide +kernel
theorem dX11_state_160 : decode cX11_state 160 = .ok (.getfield 29, 3) := by decide +kernel
theorem dX11_state_163 : decode cX11_state 163 = .ok (.iload_n 2, 1) := by decide +kernel
theorem dX11_state_164 : decode cX11_state 164 = .ok (.laload, 1) := by decide +kernel
theorem dX11_state_165 : decode cX11_state 165 = .ok (.l2i, 1) := by decide +kernel
theorem dX11_state_166 : decode cX11_state 166 = .ok (.ireturn, 1) := by decide +kernel
theorem dX11_state_167 : decode cX11_state 167 = .ok (.iload_n 2, 1) := by decide +kernel
theorem dX11_state_168 : decode cX11_state 168 = .ok (.ifCond .ne 10, 3) := by decide +kernel
theorem dX11_state_171 : decode cX11_state 171 = .ok (.aload_n 0, 1) := by decide +kernel
theorem dX11_state_172 : decode cX11_state 172 = .ok (.getfield 101, 3) := by decide +kernel
theorem dX11_state_175 : decode cX11_state 175 = .ok (.goto 19, 3) := by decide +kernel
theorem dX11_state_178 : decode cX11_state 178 = .ok (.iload_n 2, 1) := by decide +kernel
theorem dX11_state_179 : decode cX11_state 179 = .ok (.iconst 1, 1) := by decide +kernel
theorem dX11_state_180 : decode cX11_state 180 = .ok (.if_icmp .ne 10, 3) := by decide +kernel
theorem dX11_state_183 : decode cX11_state 183 = .ok (.aload_n 0, 1) := by decide +kernel
theorem dX11_state_184 : decode cX11_state 184 = .ok (.getfield 107, 3) := by decide +kernel
theorem dX11_state_187 : decode cX11_state 187 = .ok (.goto 7, 3) := by decide +kernel
theorem dX11_state_190 : decode cX11_state 190 = .ok (.aload_n 0, 1) := by decide +kernel
theorem dX11_state_191 : decode cX11_state 191 = .ok (.getfield 119, 3) := by decide +kernel
theorem dX11_state_194 : decode cX11_state 194 = .ok (.l2i, 1) := by decide +kernel
theorem dX11_state_195 : decode cX11_state 195 = .ok (.ireturn, 1) := by decide +kernel
theorem dX11_state_196 : decode cX11_state 196 = .ok (.iload_n 2, 1) := by decide +kernel
theorem dX11_state_197 : decode cX11_state 197 = .ok (.ifCond .ne 10, 3) := by decide +kernel
theorem dX11_state_200 : decode cX11_state 200 = .ok (.aload_n 0, 1) := by decide +kernel
theorem dX11_state_201 : decode cX11_state 201 = .ok (.getfield 35, 3) := by decide +kernel
theorem dX11_state_204 : decode cX11_state 204 = .ok (.goto 8, 3) := by decide +kernel
theorem dX11_state_207 : decode cX11_state 207 = .ok (.aload_n 0, 1) := by decide +kernel
theorem dX11_state_208 : decode cX11_state 208 = .ok (.getfield 249, 3) := by decide +kernel
theorem dX11_state_211 : decode cX11_state 211 = .ok (.l2i, 1) := by decide +kernel
theorem dX11_state_212 : decode cX11_state 212 = .ok (.ireturn, 1) := by decide +kernel
theorem dX11_about_0 : decode cX11_about 0 = .ok (.aload_n 0, 1) := by decide +kernel
theorem dX11_about_1 : decode cX11_about 1 = .ok (.iload_n 1, 1) := by decide +kernel
theorem dX11_about_2 : decode cX11_about 2 = .ok (.ifCond .lt 8, 3) := by decide +kernel
theorem dX11_about_5 : decode cX11_about 5 = .ok (.iload_n 1, 1) := by decide +kernel
theorem dX11_about_6 : decode cX11_about 6 = .ok (.iconst 3, 1) := by decide +kernel
theorem dX11_about_7 : decode cX11_about 7 = .ok (.if_icmp .le 7, 3) := by decide +kernel
theorem dX11_about_10 : decode cX11_about 10 = .ok (.iconst 1, 1) := by decide +kernel
theorem dX11_about_11 : decode cX11_about 11 = .ok (.goto 4, 3) := by decide +kernel
theorem dX11_about_14 : decode cX11_about 14 = .ok (.iconst 0, 1) := by decide +kernel
theorem dX11_about_15 : decode cX11_about 15 = .ok (.invokevirtual 91, 3) := by decide +kernel
theorem dX11_about_18 : decode cX11_about 18 = .ok (.ifCond .eq 5, 3) := by decide +kernel
theorem dX11_about_21 : decode cX11_about 21 = .ok (.iconst 0, 1) := by decide +kernel
theorem dX11_about_22 : decode cX11_about 22 = .ok (.ireturn, 1) := by decide +kernel
theorem dX11_about_23 : decode cX11_about 23 = .ok (.iload_n 1, 1) := by decide +kernel
theorem dX11_about_24 : decode cX11_about 24 = .ok (.ifCond .ne 10, 3) := by decide +kernel
theorem dX11_about_27 : decode cX11_about 27 = .ok (.aload_n 0, 1) := by decide +kernel
theorem dX11_about_28 : decode cX11_about 28 = .ok (.getfield 88, 3) := by decide +kernel
theorem dX11_about_31 : decode cX11_about 31 = .ok (.goto 31, 3) := by decide +kernel
theorem dX11_about_34 : decode cX11_about 34 = .ok (.iload_n 1, 1) := by decide +kernel
theorem dX11_about_35 : decode cX11_about 35 = .ok (.iconst 1, 1) := by decide +kernel
theorem dX11_about_36 : decode cX11_about 36 = .ok (.if_icmp .ne 10, 3) := by decide +kernel
theorem dX11_about_39 : decode cX11_about 39 = .ok (.aload_n 0, 1) := by decide +kernel
theorem dX11_about_40 : decode cX11_about 40 = .ok (.getfield 241, 3) := by decide +kernel
theorem dX11_about_43 : decode cX11_about 43 = .ok (.goto 19, 3) := by decide +kernel
theorem dX11_about_46 : decode cX11_about 46 = .ok (.iload_n 1, 1) := by decide +kernel
theorem dX11_about_47 : decode cX11_about 47 = .ok (.iconst 2, 1) := by decide +kernel
theorem dX11_about_48 : decode cX11_about 48 = .ok (.if_icmp .ne 10, 3) := by decide +kernel
theorem dX11_about_51 : decode cX11_about 51 = .ok (.aload_n 0, 1) := by decide +kernel
theorem dX11_about_52 : decode cX11_about 52 = .ok (.getfield 238, 3) := by decide +kernel
theorem dX11_about_55 : decode cX11_about 55 = .ok (.goto 7, 3) := by decide +kernel
theorem dX11_about_58 : decode cX11_about 58 = .ok (.aload_n 0, 1) := by decide +kernel
theorem dX11_about_59 : decode cX11_about 59 = .ok (.getfield 254, 3) := by decide +kernel
theorem dX11_about_62 : decode cX11_about 62 = .ok (.ireturn, 1) := by decide +kernel
