theorem dX5_init_0 : decode cX5_init 0 = .ok (.aload_n 0, 1) := by decide +kernel
theorem dX5_init_1 : decode cX5_init 1 = .ok (.invokespecial 1, 3) := by decide +kernel
theorem dX5_init_4 : decode cX5_init 4 = .ok (.aload_n 0, 1) := by decide +kernel
theorem dX5_init_5 : decode cX5_init 5 = .ok (.iconst 3, 1) := by decide +kernel
theorem dX5_init_6 : decode cX5_init 6 = .ok (.newarray .long, 2) := by decide +kernel
theorem dX5_init_8 : decode cX5_init 8 = .ok (.putfield 7, 3) := by decide +kernel
theorem dX5_init_11 : decode cX5_init 11 = .ok (.aload_n 0, 1) := by decide +kernel
theorem dX5_init_12 : decode cX5_init 12 = .ok (.bipush 16, 2) := by decide +kernel
theorem dX5_init_14 : decode cX5_init 14 = .ok (.newarray .long, 2) := by decide +kernel
theorem dX5_init_16 : decode cX5_init 16 = .ok (.putfield 13, 3) := by decide +kernel
theorem dX5_init_19 : decode cX5_init 19 = .ok (.aload_n 0, 1) := by decide +kernel
theorem dX5_init_20 : decode cX5_init 20 = .ok (.iconst 3, 1) := by decide +kernel
theorem dX5_init_21 : decode cX5_init 21 = .ok (.newarray .long, 2) := by decide +kernel
theorem dX5_init_23 : decode cX5_init 23 = .ok (.putfield 16, 3) := by decide +kernel
theorem dX5_init_26 : decode cX5_init 26 = .ok (.aload_n 0, 1) := by decide +kernel
theorem dX5_init_27 : decode cX5_init 27 = .ok (.bipush 32, 2) := by decide +kernel
theorem dX5_init_29 : decode cX5_init 29 = .ok (.newarray .long, 2) := by decide +kernel
theorem dX5_init_31 : decode cX5_init 31 = .ok (.putfield 19, 3) := by decide +kernel
theorem dX5_init_34 : decode cX5_init 34 = .ok (.aload_n 0, 1) := by decide +kernel
theorem dX5_init_35 : decode cX5_init 35 = .ok (.iconst 4, 1) := by decide +kernel
theorem dX5_init_36 : decode cX5_init 36 = .ok (.newarray .long, 2) := by decide +kernel
theorem dX5_init_38 : decode cX5_init 38 = .ok (.putfield 22, 3) := by decide +kernel
theorem dX5_init_41 : decode cX5_init 41 = .ok (.aload_n 0, 1) := by decide +kernel
theorem dX5_init_42 : decode cX5_init 42 = .ok (.iconst 4, 1) := by decide +kernel
theorem dX5_init_43 : decode cX5_init 43 = .ok (.newarray .long, 2) := by decide +kernel
theorem dX5_init_45 : decode cX5_init 45 = .ok (.putfield 25, 3) := by decide +kernel
theorem dX5_init_48 : decode cX5_init 48 = .ok (.aload_n 0, 1) := by decide +kernel
theorem dX5_init_49 : decode cX5_init 49 = .ok (.iconst 4, 1) := by decide +kernel
theorem dX5_init_50 : decode cX5_init 50 = .ok (.newarray .long, 2) := by decide +kernel
theorem dX5_init_52 : decode cX5_init 52 = .ok (.putfield 28, 3) := by decide +kernel
theorem dX5_init_55 : decode cX5_init 55 = .ok (.aload_n 0, 1) := by decide +kernel
theorem dX5_init_56 : decode cX5_init 56 = .ok (.iconst 4, 1) := by decide +kernel
theorem dX5_init_57 : decode cX5_init 57 = .ok (.newarray .long, 2) := by decide +kernel
theorem dX5_init_59 : decode cX5_init 59 = .ok (.putfield 31, 3) := by decide +kernel
theorem dX5_init_62 : decode cX5_init 62 = .ok (.aload_n 0, 1) := by decide +kernel
theorem dX5_init_63 : decode cX5_init 63 = .ok (.iconst 4, 1) := by decide +kernel
theorem dX5_init_64 : decode cX5_init 64 = .ok (.newarray .long, 2) := by decide +kernel
theorem dX5_init_66 : decode cX5_init 66 = .ok (.putfield 34, 3) := by decide +kernel
theorem dX5_init_69 : decode cX5_init 69 = .ok (.aload_n 0, 1) := by decide +kernel
theorem dX5_init_70 : decode cX5_init 70 = .ok (.iconst 4, 1) := by decide +kernel
theorem dX5_init_71 : decode cX5_init 71 = .ok (.newarray .int, 2) := by decide +kernel
theorem dX5_init_73 : decode cX5_init 73 = .ok (.putfield 37, 3) := by decide +kernel
theorem dX5_init_76 : decode cX5_init 76 = .ok (.aload_n 0, 1) := by decide +kernel
theorem dX5_init_77 : decode cX5_init 77 = .ok (.iconst 3, 1) := by decide +kernel
theorem dX5_init_78 : decode cX5_init 78 = .ok (.newarray .int, 2) := by decide +kernel
theorem dX5_init_80 : decode cX5_init 80 = .ok (.putfield 41, 3) := by decide +kernel
theorem dX5_init_83 : decode cX5_init 83 = .ok (.aload_n 0, 1) := by decide +kernel
theorem dX5_init_84 : decode cX5_init 84 = .ok (.iconst 4, 1) := by decide +kernel
theorem dX5_init_85 : decode cX5_init 85 = .ok (.newarray .boolean, 2) := by decide +kernel
theorem dX5_init_87 : decode cX5_init 87 = .ok (.putfield 44, 3) := by decide +kernel
theorem dX5_init_90 : decode cX5_init 90 = .ok (.aload_n 0, 1) := by decide +kernel
theorem dX5_init_91 : decode cX5_init 91 = .ok (.iconst 4, 1) := by decide +kernel
theorem dX5_init_92 : decode cX5_init 92 = .ok (.newarray .boolean, 2) := by decide +kernel
theorem dX5_init_94 : decode cX5_init 94 = .ok (.putfield 48, 3) := by decide +kernel
theorem dX5_init_97 : decode cX5_init 97 = .ok (.aload_n 0, 1) := by decide +kernel
theorem dX5_init_98 : decode cX5_init 98 = .ok (.bipush 8, 2) := by decide +kernel
theorem dX5_init_100 : decode cX5_init 100 = .ok (.newarray .boolean, 2) := by decide +kernel
theorem dX5_init_102 : decode cX5_init 102 = .ok (.putfield 51, 3) := by decide +kernel
theorem dX5_init_105 : decode cX5_init 105 = .ok (.aload_n 0, 1) := by decide +kernel
theorem dX5_init_106 : decode cX5_init 106 = .ok (.iconst 3, 1) := by decide +kernel
theorem dX5_init_107 : decode cX5_init 107 = .ok (.newarray .boolean, 2) := by decide +kernel
theorem dX5_init_109 : decode cX5_init 109 = .ok (.putfield 54, 3) := by decide +kernel
theorem dX5_init_112 : decode cX5_init 112 = .ok (.aload_n 0, 1) := by decide +kernel
theorem dX5_init_113 : decode cX5_init 113 = .ok (.iconst 4, 1) := by decide +kernel
theorem dX5_init_114 : decode cX5_init 114 = .ok (.newarray .boolean, 2) := by decide +kernel
theorem dX5_init_116 : decode cX5_init 116 = .ok (.putfield 57, 3) := by decide +kernel
theorem dX5_init_119 : decode cX5_init 119 = .ok (.aload_n 0, 1) := by decide +kernel
theorem dX5_init_120 : decode cX5_init 120 = .ok (.iconst 4, 1) := by decide +kernel
theorem dX5_init_121 : decode cX5_init 121 = .ok (.newarray .boolean, 2) := by decide +kernel
theorem dX5_init_123 : decode cX5_init 123 = .ok (.putfield 60, 3) := by decide +kernel
theorem dX5_init_126 : decode cX5_init 126 = .ok (.aload_n 0, 1) := by decide +kernel
theorem dX5_init_127 : decode cX5_init 127 = .ok (.iconst 4, 1) := by decide +kernel
theorem dX5_init_128 : decode cX5_init 128 = .ok (.newarray .boolean, 2) := by decide +kernel
theorem dX5_init_130 : decode cX5_init 130 = .ok (.putfield 63, 3) := by decide +kernel
theorem dX5_init_133 : decode cX5_init 133 = .ok (.aload_n 0, 1) := by decide +kernel
theorem dX5_init_134 : decode cX5_init 134 = .ok (.iconst (-1), 1) := by decide +kernel
theorem dX5_init_135 : decode cX5_init 135 = .ok (.putfield 66, 3) := by decide +kernel
theorem dX5_init_138 : decode cX5_init 138 = .ok (.aload_n 0, 1) := by decide +kernel
theorem dX5_init_139 : decode cX5_init 139 = .ok (.dconst 1, 1) := by decide +kernel
theorem dX5_init_140 : decode cX5_init 140 = .ok (.putfield 70, 3) := by decide +kernel
theorem dX5_init_143 : decode cX5_init 143 = .ok (.iconst 0, 1) := by decide +kernel
theorem dX5_init_144 : decode cX5_init 144 = .ok (.istore_n 2, 1) := by decide +kernel
theorem dX5_init_145 : decode cX5_init 145 = .ok (.iload_n 2, 1) := by decide +kernel
theorem dX5_init_146 : decode cX5_init 146 = .ok (.iconst 3, 1) := by decide +kernel
theorem dX5_init_147 : decode cX5_init 147 = .ok (.if_icmp .ge 23, 3) := by decide +kernel
theorem dX5_init_150 : decode cX5_init 150 = .ok (.aload_n 0, 1) := by decide +kernel
theorem dX5_init_151 : decode cX5_init 151 = .ok (.getfield 7, 3) := by decide +kernel
theorem dX5_init_154 : decode cX5_init 154 = .ok (.iload_n 2, 1) := by decide +kernel
theorem dX5_init_155 : decode cX5_init 155 = .ok (.aload_n 0, 1) := by decide +kernel
theorem dX5_init_156 : decode cX5_init 156 = .ok (.iload_n 1, 1) := by decide +kernel
theorem dX5_init_157 : decode cX5_init 157 = .ok (.i2l, 1) := by decide +kernel
theorem dX5_init_158 : decode cX5_init 158 = .ok (.iload_n 2, 1) := by decide +kernel
theorem dX5_init_159 : decode cX5_init 159 = .ok (.i2l, 1) := by decide +kernel
theorem dX5_init_160 : decode cX5_init 160 = .ok (.invokevirtual 74, 3) := by decide +kernel
theorem dX5_init_163 : decode cX5_init 163 = .ok (.lastore, 1) := by decide +kernel
theorem dX5_init_164 : decode cX5_init 164 = .ok (.iinc 2 1, 3) := by decide +kernel
theorem dX5_init_167 : decode cX5_init 167 = .ok (.goto (-22), 3) := by decide +kernel
theorem dX5_init_170 : decode cX5_init 170 = .ok (.aload_n 0, 1) := by decide +kernel
theorem dX5_init_171 : decode cX5_init 171 = .ok (.invokevirtual 78, 3) := by decide +kernel
theorem dX5_init_174 : decode cX5_init 174 = .ok (.return_, 1) := by decide +kernel
theorem dX5_thrown_0 : decode cX5_thrown 0 = .ok (.aload_n 0, 1) := by decide +kernel
theorem dX5_thrown_1 : decode cX5_thrown 1 = .ok (.getfield 81, 3) := by decide +kernel
theorem dX5_thrown_4 : decode cX5_thrown 4 = .ok (.ireturn, 1) := by decide +kernel
theorem dX5_mix_0 : decode cX5_mix 0 = .ok (.lload_n 1, 1) := by decide +kernel
theorem dX5_mix_1 : decode cX5_mix 1 = .ok (.ldc2_w 84, 3) := by decide +kernel
theorem dX5_mix_4 : decode cX5_mix 4 = .ok (.lmul, 1) := by decide +kernel
theorem dX5_mix_5 : decode cX5_mix 5 = .ok (.lload_n 3, 1) := by decide +kernel
theorem dX5_mix_6 : decode cX5_mix 6 = .ok (.ladd, 1) := by decide +kernel
theorem dX5_mix_7 : decode cX5_mix 7 = .ok (.ldc2_w 86, 3) := by decide +kernel
theorem dX5_mix_10 : decode cX5_mix 10 = .ok (.lmul, 1) := by decide +kernel
theorem dX5_mix_11 : decode cX5_mix 11 = .ok (.lstore 5, 2) := by decide +kernel
theorem dX5_mix_13 : decode cX5_mix 13 = .ok (.lload 5, 2) := by decide +kernel
theorem dX5_mix_15 : decode cX5_mix 15 = .ok (.lload 5, 2) := by decide +kernel
theorem dX5_mix_17 : decode cX5_mix 17 = .ok (.bipush 29, 2) := by decide +kernel
theorem dX5_mix_19 : decode cX5_mix 19 = .ok (.lushr, 1) := by decide +kernel
theorem dX5_mix_20 : decode cX5_mix 20 = .ok (.lxor, 1) := by decide +kernel
theorem dX5_mix_21 : decode cX5_mix 21 = .ok (.ldc2_w 88, 3) := by decide +kernel
theorem dX5_mix_24 : decode cX5_mix 24 = .ok (.lmul, 1) := by decide +kernel
theorem dX5_mix_25 : decode cX5_mix 25 = .ok (.lstore 5, 2) := by decide +kernel
theorem dX5_mix_27 : decode cX5_mix 27 = .ok (.lload 5, 2) := by decide +kernel
theorem dX5_mix_29 : decode cX5_mix 29 = .ok (.lload 5, 2) := by decide +kernel
theorem dX5_mix_31 : decode cX5_mix 31 = .ok (.bipush 32, 2) := by decide +kernel
theorem dX5_mix_33 : decode cX5_mix 33 = .ok (.lushr, 1) := by decide +kernel
theorem dX5_mix_34 : decode cX5_mix 34 = .ok (.lxor, 1) := by decide +kernel
theorem dX5_mix_35 : decode cX5_mix 35 = .ok (.lreturn, 1) := by decide +kernel
theorem dX5_come_0 : decode cX5_come 0 = .ok (.aload_n 0, 1) := by decide +kernel
theorem dX5_come_1 : decode cX5_come 1 = .ok (.iconst 0, 1) := by decide +kernel
theorem dX5_come_2 : decode cX5_come 2 = .ok (.putfield 90, 3) := by decide +kernel
theorem dX5_come_5 : decode cX5_come 5 = .ok (.aload_n 0, 1) := by decide +kernel
theorem dX5_come_6 : decode cX5_come 6 = .ok (.iconst 0, 1) := by decide +kernel
theorem dX5_come_7 : decode cX5_come 7 = .ok (.putfield 94, 3) := by decide +kernel
theorem dX5_come_10 : decode cX5_come 10 = .ok (.aload_n 0, 1) := by decide +kernel
theorem dX5_come_11 : decode cX5_come 11 = .ok (.aload_n 0, 1) := by decide +kernel
theorem dX5_come_12 : decode cX5_come 12 = .ok (.getfield 97, 3) := by decide +kernel
theorem dX5_come_15 : decode cX5_come 15 = .ok (.putfield 100, 3) := by decide +kernel
theorem dX5_come_18 : decode cX5_come 18 = .ok (.aload_n 0, 1) := by decide +kernel
theorem dX5_come_19 : decode cX5_come 19 = .ok (.getfield 7, 3) := by decide +kernel
theorem dX5_come_22 : decode cX5_come 22 = .ok (.iconst 2, 1) := by decide +kernel
theorem dX5_come_23 : decode cX5_come 23 = .ok (.aload_n 0, 1) := by decide +kernel
theorem dX5_come_24 : decode cX5_come 24 = .ok (.aload_n 0, 1) := by decide +kernel
theorem dX5_come_25 : decode cX5_come 25 = .ok (.getfield 7, 3) := by decide +kernel
theorem dX5_come_28 : decode cX5_come 28 = .ok (.iconst 2, 1) := by decide +kernel
theorem dX5_come_29 : decode cX5_come 29 = .ok (.laload, 1) := by decide +kernel
theorem dX5_come_30 : decode cX5_come 30 = .ok (.ldc2_w 103, 3) := by decide +kernel
theorem dX5_come_33 : decode cX5_come 33 = .ok (.invokevirtual 74, 3) := by decide +kernel
theorem dX5_come_36 : decode cX5_come 36 = .ok (.lastore, 1) := by decide +kernel
theorem dX5_come_37 : decode cX5_come 37 = .ok (.iconst 0, 1) := by decide +kernel
theorem dX5_come_38 : decode cX5_come 38 = .ok (.istore_n 1, 1) := by decide +kernel
theorem dX5_come_39 : decode cX5_come 39 = .ok (.iload_n 1, 1) := by decide +kernel
theorem dX5_come_40 : decode cX5_come 40 = .ok (.bipush 16, 2) := by decide +kernel
theorem dX5_come_42 : decode cX5_come 42 = .ok (.if_icmp .ge 16, 3) := by decide +kernel
theorem dX5_come_45 : decode cX5_come 45 = .ok (.aload_n 0, 1) := by decide +kernel
theorem dX5_come_46 : decode cX5_come 46 = .ok (.getfield 13, 3) := by decide +kernel
theorem dX5_come_49 : decode cX5_come 49 = .ok (.iload_n 1, 1) := by decide +kernel
theorem dX5_come_50 : decode cX5_come 50 = .ok (.lconst 0, 1) := by decide +kernel
theorem dX5_come_51 : decode cX5_come 51 = .ok (.lastore, 1) := by decide +kernel
theorem dX5_come_52 : decode cX5_come 52 = .ok (.iinc 1 1, 3) := by decide +kernel
theorem dX5_come_55 : decode cX5_come 55 = .ok (.goto (-16), 3) := by decide +kernel
theorem dX5_come_58 : decode cX5_come 58 = .ok (.iconst 0, 1) := by decide +kernel
theorem dX5_come_59 : decode cX5_come 59 = .ok (.istore_n 1, 1) := by decide +kernel
theorem dX5_come_60 : decode cX5_come 60 = .ok (.iload_n 1, 1) := by decide +kernel
theorem dX5_come_61 : decode cX5_come 61 = .ok (.iconst 4, 1) := by decide +kernel
theorem dX5_come_62 : decode cX5_come 62 = .ok (.if_icmp .ge 16, 3) := by decide +kernel
theorem dX5_come_65 : decode cX5_come 65 = .ok (.aload_n 0, 1) := by decide +kernel
theorem dX5_come_66 : decode cX5_come 66 = .ok (.getfield 44, 3) := by decide +kernel
theorem dX5_come_69 : decode cX5_come 69 = .ok (.iload_n 1, 1) := by decide +kernel
theorem dX5_come_70 : decode cX5_come 70 = .ok (.iconst 0, 1) := by decide +kernel
theorem dX5_come_71 : decode cX5_come 71 = .ok (.bastore, 1) := by decide +kernel
theorem dX5_come_72 : decode cX5_come 72 = .ok (.iinc 1 1, 3) := by decide +kernel
theorem dX5_come_75 : decode cX5_come 75 = .ok (.goto (-15), 3) := by decide +kernel
theorem dX5_come_78 : decode cX5_come 78 = .ok (.iconst 0, 1) := by decide +kernel
theorem dX5_come_79 : decode cX5_come 79 = .ok (.istore_n 1, 1) := by decide +kernel
theorem dX5_come_80 : decode cX5_come 80 = .ok (.iload_n 1, 1) := by decide +kernel
theorem dX5_come_81 : decode cX5_come 81 = .ok (.iconst 3, 1) := by decide +kernel
theorem dX5_come_82 : decode cX5_come 82 = .ok (.if_icmp .ge 14, 3) := by decide +kernel
theorem dX5_come_85 : decode cX5_come 85 = .ok (.aload_n 0, 1) := by decide +kernel
theorem dX5_come_86 : decode cX5_come 86 = .ok (.iload_n 1, 1) := by decide +kernel
theorem dX5_come_87 : decode cX5_come 87 = .ok (.invokevirtual 105, 3) := by decide +kernel
theorem dX5_come_90 : decode cX5_come 90 = .ok (.iinc 1 1, 3) := by decide +kernel
theorem dX5_come_93 : decode cX5_come 93 = .ok (.goto (-13), 3) := by decide +kernel
theorem dX5_come_96 : decode cX5_come 96 = .ok (.return_, 1) := by decide +kernel
theorem dX5_anew_0 : decode cX5_anew 0 = .ok (.aload_n 0, 1) := by decide +kernel
theorem dX5_anew_1 : decode cX5_anew 1 = .ok (.getfield 16, 3) := by decide +kernel
theorem dX5_anew_4 : decode cX5_anew 4 = .ok (.iload_n 1, 1) := by decide +kernel
theorem dX5_anew_5 : decode cX5_anew 5 = .ok (.lconst 0, 1) := by decide +kernel
theorem dX5_anew_6 : decode cX5_anew 6 = .ok (.lastore, 1) := by decide +kernel
theorem dX5_anew_7 : decode cX5_anew 7 = .ok (.aload_n 0, 1) := by decide +kernel
theorem dX5_anew_8 : decode cX5_anew 8 = .ok (.getfield 54, 3) := by decide +kernel
theorem dX5_anew_11 : decode cX5_anew 11 = .ok (.iload_n 1, 1) := by decide +kernel
theorem dX5_anew_12 : decode cX5_anew 12 = .ok (.iconst 0, 1) := by decide +kernel
theorem dX5_anew_13 : decode cX5_anew 13 = .ok (.bastore, 1) := by decide +kernel
theorem dX5_anew_14 : decode cX5_anew 14 = .ok (.return_, 1) := by decide +kernel
theorem dX5_out_0 : decode cX5_out 0 = .ok (.iload_n 1, 1) := by decide +kernel
theorem dX5_out_1 : decode cX5_out 1 = .ok (.ifCond .lt 8, 3) := by decide +kernel
theorem dX5_out_4 : decode cX5_out 4 = .ok (.iload_n 1, 1) := by decide +kernel
theorem dX5_out_5 : decode cX5_out 5 = .ok (.iload_n 2, 1) := by decide +kernel
theorem dX5_out_6 : decode cX5_out 6 = .ok (.if_icmp .le 7, 3) := by decide +kernel
theorem dX5_out_9 : decode cX5_out 9 = .ok (.iconst 1, 1) := by decide +kernel
theorem dX5_out_10 : decode cX5_out 10 = .ok (.goto 4, 3) := by decide +kernel
theorem dX5_out_13 : decode cX5_out 13 = .ok (.iconst 0, 1) := by decide +kernel
theorem dX5_out_14 : decode cX5_out 14 = .ok (.ireturn, 1) := by decide +kernel
theorem dX5_begin_0 : decode cX5_begin 0 = .ok (.aload_n 0, 1) := by decide +kernel
theorem dX5_begin_1 : decode cX5_begin 1 = .ok (.iload_n 1, 1) := by decide +kernel
theorem dX5_begin_2 : decode cX5_begin 2 = .ok (.ifCond .eq 7, 3) := by decide +kernel
theorem dX5_begin_5 : decode cX5_begin 5 = .ok (.iconst 1, 1) := by decide +kernel
theorem dX5_begin_6 : decode cX5_begin 6 = .ok (.goto 15, 3) := by decide +kernel
theorem dX5_begin_9 : decode cX5_begin 9 = .ok (.aload_n 0, 1) := by decide +kernel
theorem dX5_begin_10 : decode cX5_begin 10 = .ok (.getfield 90, 3) := by decide +kernel
theorem dX5_begin_13 : decode cX5_begin 13 = .ok (.ifCond .eq 7, 3) := by decide +kernel
theorem dX5_begin_16 : decode cX5_begin 16 = .ok (.iconst 2, 1) := by decide +kernel
theorem dX5_begin_17 : decode cX5_begin 17 = .ok (.goto 4, 3) := by decide +kernel
theorem dX5_begin_20 : decode cX5_begin 20 = .ok (.iconst 0, 1) := by decide +kernel
theorem dX5_begin_21 : decode cX5_begin 21 = .ok (.putfield 81, 3) := by decide +kernel
theorem dX5_begin_24 : decode cX5_begin 24 = .ok (.aload_n 0, 1) := by decide +kernel
theorem dX5_begin_25 : decode cX5_begin 25 = .ok (.getfield 81, 3) := by decide +kernel
theorem dX5_begin_28 : decode cX5_begin 28 = .ok (.ifCond .ne 7, 3) := by decide +kernel
theorem dX5_begin_31 : decode cX5_begin 31 = .ok (.iconst 1, 1) := by decide +kernel
theorem dX5_begin_32 : decode cX5_begin 32 = .ok (.goto 4, 3) := by decide +kernel
theorem dX5_begin_35 : decode cX5_begin 35 = .ok (.iconst 0, 1) := by decide +kernel
theorem dX5_begin_36 : decode cX5_begin 36 = .ok (.ireturn, 1) := by decide +kernel
theorem dX5_name_0 : decode cX5_name 0 = .ok (.aload_n 0, 1) := by decide +kernel
theorem dX5_name_1 : decode cX5_name 1 = .ok (.aload_n 0, 1) := by decide +kernel
theorem dX5_name_2 : decode cX5_name 2 = .ok (.aload_n 0, 1) := by decide +kernel
theorem dX5_name_3 : decode cX5_name 3 = .ok (.getfield 28, 3) := by decide +kernel
theorem dX5_name_6 : decode cX5_name 6 = .ok (.iload_n 1, 1) := by decide +kernel
theorem dX5_name_7 : decode cX5_name 7 = .ok (.laload, 1) := by decide +kernel
theorem dX5_name_8 : decode cX5_name 8 = .ok (.aload_n 0, 1) := by decide +kernel
theorem dX5_name_9 : decode cX5_name 9 = .ok (.getfield 37, 3) := by decide +kernel
theorem dX5_name_12 : decode cX5_name 12 = .ok (.iload_n 1, 1) := by decide +kernel
theorem dX5_name_13 : decode cX5_name 13 = .ok (.iaload, 1) := by decide +kernel
theorem dX5_name_14 : decode cX5_name 14 = .ok (.i2l, 1) := by decide +kernel
theorem dX5_name_15 : decode cX5_name 15 = .ok (.invokevirtual 74, 3) := by decide +kernel
theorem dX5_name_18 : decode cX5_name 18 = .ok (.aload_n 0, 1) := by decide +kernel
theorem dX5_name_19 : decode cX5_name 19 = .ok (.aload_n 0, 1) := by decide +kernel
theorem dX5_name_20 : decode cX5_name 20 = .ok (.getfield 31, 3) := by decide +kernel
theorem dX5_name_23 : decode cX5_name 23 = .ok (.iload_n 1, 1) := by decide +kernel
theorem dX5_name_24 : decode cX5_name 24 = .ok (.laload, 1) := by decide +kernel
theorem dX5_name_25 : decode cX5_name 25 = .ok (.aload_n 0, 1) := by decide +kernel
theorem dX5_name_26 : decode cX5_name 26 = .ok (.getfield 34, 3) := by decide +kernel
theorem dX5_name_29 : decode cX5_name 29 = .ok (.iload_n 1, 1) := by decide +kernel
theorem dX5_name_30 : decode cX5_name 30 = .ok (.laload, 1) := by decide +kernel
theorem dX5_name_31 : decode cX5_name 31 = .ok (.invokevirtual 74, 3) := by decide +kernel
theorem dX5_name_34 : decode cX5_name 34 = .ok (.invokevirtual 74, 3) := by decide +kernel
theorem dX5_name_37 : decode cX5_name 37 = .ok (.lreturn, 1) := by decide +kernel
theorem dX5_power_0 : decode cX5_power 0 = .ok (.aload_n 0, 1) := by decide +kernel
theorem dX5_power_1 : decode cX5_power 1 = .ok (.iload_n 1, 1) := by decide +kernel
theorem dX5_power_2 : decode cX5_power 2 = .ok (.iconst (-1), 1) := by decide +kernel
theorem dX5_power_3 : decode cX5_power 3 = .ok (.if_icmp .lt 9, 3) := by decide +kernel
theorem dX5_power_6 : decode cX5_power 6 = .ok (.iload_n 1, 1) := by decide +kernel
theorem dX5_power_7 : decode cX5_power 7 = .ok (.bipush 100, 2) := by decide +kernel
theorem dX5_power_9 : decode cX5_power 9 = .ok (.if_icmp .le 7, 3) := by decide +kernel
theorem dX5_power_12 : decode cX5_power 12 = .ok (.iconst 1, 1) := by decide +kernel
theorem dX5_power_13 : decode cX5_power 13 = .ok (.goto 4, 3) := by decide +kernel
theorem dX5_power_16 : decode cX5_power 16 = .ok (.iconst 0, 1) := by decide +kernel
theorem dX5_power_17 : decode cX5_power 17 = .ok (.putfield 81, 3) := by decide +kernel
theorem dX5_power_20 : decode cX5_power 20 = .ok (.aload_n 0, 1) := by decide +kernel
theorem dX5_power_21 : decode cX5_power 21 = .ok (.getfield 81, 3) := by decide +kernel
theorem dX5_power_24 : decode cX5_power 24 = .ok (.ifCond .eq 4, 3) := by decide +kernel
theorem dX5_power_27 : decode cX5_power 27 = .ok (.return_, 1) := by decide +kernel
theorem dX5_power_28 : decode cX5_power 28 = .ok (.aload_n 0, 1) := by decide +kernel
theorem dX5_power_29 : decode cX5_power 29 = .ok (.iload_n 1, 1) := by decide +kernel
theorem dX5_power_30 : decode cX5_power 30 = .ok (.putfield 66, 3) := by decide +kernel
theorem dX5_power_33 : decode cX5_power 33 = .ok (.aload_n 0, 1) := by decide +kernel
theorem dX5_power_34 : decode cX5_power 34 = .ok (.invokevirtual 78, 3) := by decide +kernel
theorem dX5_power_37 : decode cX5_power 37 = .ok (.return_, 1) := by decide +kernel
theorem dX5_extend_0 : decode cX5_extend 0 = .ok (.aload_n 0, 1) := by decide +kernel
theorem dX5_extend_1 : decode cX5_extend 1 = .ok (.aload_n 0, 1) := by decide +kernel
theorem dX5_extend_2 : decode cX5_extend 2 = .ok (.iload_n 1, 1) := by decide +kernel
theorem dX5_extend_3 : decode cX5_extend 3 = .ok (.iconst 1, 1) := by decide +kernel
theorem dX5_extend_4 : decode cX5_extend 4 = .ok (.invokevirtual 109, 3) := by decide +kernel
theorem dX5_extend_7 : decode cX5_extend 7 = .ok (.ifCond .ne 13, 3) := by decide +kernel
theorem dX5_extend_10 : decode cX5_extend 10 = .ok (.aload_n 0, 1) := by decide +kernel
theorem dX5_extend_11 : decode cX5_extend 11 = .ok (.iload_n 2, 1) := by decide +kernel
theorem dX5_extend_12 : decode cX5_extend 12 = .ok (.bipush 7, 2) := by decide +kernel
theorem dX5_extend_14 : decode cX5_extend 14 = .ok (.invokevirtual 109, 3) := by decide +kernel
theorem dX5_extend_17 : decode cX5_extend 17 = .ok (.ifCond .eq 7, 3) := by decide +kernel
theorem dX5_extend_20 : decode cX5_extend 20 = .ok (.iconst 1, 1) := by decide +kernel
theorem dX5_extend_21 : decode cX5_extend 21 = .ok (.goto 4, 3) := by decide +kernel
theorem dX5_extend_24 : decode cX5_extend 24 = .ok (.iconst 0, 1) := by decide +kernel
theorem dX5_extend_25 : decode cX5_extend 25 = .ok (.invokevirtual 113, 3) := by decide +kernel
theorem dX5_extend_28 : decode cX5_extend 28 = .ok (.ifCond .ne 5, 3) := by decide +kernel
theorem dX5_extend_31 : decode cX5_extend 31 = .ok (.lconst 0, 1) := by decide +kernel
theorem dX5_extend_32 : decode cX5_extend 32 = .ok (.lreturn, 1) := by decide +kernel
theorem dX5_extend_33 : decode cX5_extend 33 = .ok (.aload_n 0, 1) := by decide +kernel
theorem dX5_extend_34 : decode cX5_extend 34 = .ok (.getfield 13, 3) := by decide +kernel
theorem dX5_extend_37 : decode cX5_extend 37 = .ok (.iload_n 1, 1) := by decide +kernel
theorem dX5_extend_38 : decode cX5_extend 38 = .ok (.bipush 8, 2) := by decide +kernel
theorem dX5_extend_40 : decode cX5_extend 40 = .ok (.imul, 1) := by decide +kernel
theorem dX5_extend_41 : decode cX5_extend 41 = .ok (.iload_n 2, 1) := by decide +kernel
theorem dX5_extend_42 : decode cX5_extend 42 = .ok (.iadd, 1) := by decide +kernel
theorem dX5_extend_43 : decode cX5_extend 43 = .ok (.aload_n 0, 1) := by decide +kernel
theorem dX5_extend_44 : decode cX5_extend 44 = .ok (.aload_n 0, 1) := by decide +kernel
theorem dX5_extend_45 : decode cX5_extend 45 = .ok (.getfield 13, 3) := by decide +kernel
theorem dX5_extend_48 : decode cX5_extend 48 = .ok (.iload_n 1, 1) := by decide +kernel
theorem dX5_extend_49 : decode cX5_extend 49 = .ok (.bipush 8, 2) := by decide +kernel
theorem dX5_extend_51 : decode cX5_extend 51 = .ok (.imul, 1) := by decide +kernel
theorem dX5_extend_52 : decode cX5_extend 52 = .ok (.iload_n 2, 1) := by decide +kernel
theorem dX5_extend_53 : decode cX5_extend 53 = .ok (.iadd, 1) := by decide +kernel
theorem dX5_extend_54 : decode cX5_extend 54 = .ok (.laload, 1) := by decide +kernel
theorem dX5_extend_55 : decode cX5_extend 55 = .ok (.lload_n 3, 1) := by decide +kernel
theorem dX5_extend_56 : decode cX5_extend 56 = .ok (.invokevirtual 74, 3) := by decide +kernel
theorem dX5_extend_59 : decode cX5_extend 59 = .ok (.lastore, 1) := by decide +kernel
theorem dX5_extend_60 : decode cX5_extend 60 = .ok (.aload_n 0, 1) := by decide +kernel
theorem dX5_extend_61 : decode cX5_extend 61 = .ok (.dup, 1) := by decide +kernel
theorem dX5_extend_62 : decode cX5_extend 62 = .ok (.getfield 94, 3) := by decide +kernel
theorem dX5_extend_65 : decode cX5_extend 65 = .ok (.iconst 1, 1) := by decide +kernel
theorem dX5_extend_66 : decode cX5_extend 66 = .ok (.iadd, 1) := by decide +kernel
theorem dX5_extend_67 : decode cX5_extend 67 = .ok (.putfield 94, 3) := by decide +kernel
theorem dX5_extend_70 : decode cX5_extend 70 = .ok (.aload_n 0, 1) := by decide +kernel
theorem dX5_extend_71 : decode cX5_extend 71 = .ok (.getfield 13, 3) := by decide +kernel
theorem dX5_extend_74 : decode cX5_extend 74 = .ok (.iload_n 1, 1) := by decide +kernel
theorem dX5_extend_75 : decode cX5_extend 75 = .ok (.bipush 8, 2) := by decide +kernel
theorem dX5_extend_77 : decode cX5_extend 77 = .ok (.imul, 1) := by decide +kernel
theorem dX5_extend_78 : decode cX5_extend 78 = .ok (.iload_n 2, 1) := by decide +kernel
theorem dX5_extend_79 : decode cX5_extend 79 = .ok (.iadd, 1) := by decide +kernel
theorem dX5_extend_80 : decode cX5_extend 80 = .ok (.laload, 1) := by decide +kernel
theorem dX5_extend_81 : decode cX5_extend 81 = .ok (.lreturn, 1) := by decide +kernel
theorem dX5_room_0 : decode cX5_room 0 = .ok (.iconst 0, 1) := by decide +kernel
theorem dX5_room_1 : decode cX5_room 1 = .ok (.istore_n 1, 1) := by decide +kernel
theorem dX5_room_2 : decode cX5_room 2 = .ok (.iload_n 1, 1) := by decide +kernel
theorem dX5_room_3 : decode cX5_room 3 = .ok (.iconst 4, 1) := by decide +kernel
theorem dX5_room_4 : decode cX5_room 4 = .ok (.if_icmp .ge 18, 3) := by decide +kernel
theorem dX5_room_7 : decode cX5_room 7 = .ok (.aload_n 0, 1) := by decide +kernel
theorem dX5_room_8 : decode cX5_room 8 = .ok (.getfield 44, 3) := by decide +kernel
theorem dX5_room_11 : decode cX5_room 11 = .ok (.iload_n 1, 1) := by decide +kernel
theorem dX5_room_12 : decode cX5_room 12 = .ok (.baload, 1) := by decide +kernel
theorem dX5_room_13 : decode cX5_room 13 = .ok (.ifCond .eq 9, 3) := by decide +kernel
theorem dX5_room_16 : decode cX5_room 16 = .ok (.iinc 1 1, 3) := by decide +kernel
theorem dX5_room_19 : decode cX5_room 19 = .ok (.goto (-17), 3) := by decide +kernel
theorem dX5_room_22 : decode cX5_room 22 = .ok (.iload_n 1, 1) := by decide +kernel
theorem dX5_room_23 : decode cX5_room 23 = .ok (.iconst 4, 1) := by decide +kernel
theorem dX5_room_24 : decode cX5_room 24 = .ok (.if_icmp .ne 8, 3) := by decide +kernel
theorem dX5_room_27 : decode cX5_room 27 = .ok (.aload_n 0, 1) := by decide +kernel
theorem dX5_room_28 : decode cX5_room 28 = .ok (.iconst 2, 1) := by decide +kernel
theorem dX5_room_29 : decode cX5_room 29 = .ok (.putfield 81, 3) := by decide +kernel
theorem dX5_room_32 : decode cX5_room 32 = .ok (.iload_n 1, 1) := by decide +kernel
theorem dX5_room_33 : decode cX5_room 33 = .ok (.ireturn, 1) := by decide +kernel
theorem dX5_key_0 : decode cX5_key 0 = .ok (.aload_n 0, 1) := by decide +kernel
theorem dX5_key_1 : decode cX5_key 1 = .ok (.invokevirtual 117, 3) := by decide +kernel
theorem dX5_key_4 : decode cX5_key 4 = .ok (.istore 9, 2) := by decide +kernel
theorem dX5_key_6 : decode cX5_key 6 = .ok (.aload_n 0, 1) := by decide +kernel
theorem dX5_key_7 : decode cX5_key 7 = .ok (.getfield 81, 3) := by decide +kernel
theorem dX5_key_10 : decode cX5_key 10 = .ok (.ifCond .eq 5, 3) := by decide +kernel
theorem dX5_key_13 : decode cX5_key 13 = .ok (.iconst 0, 1) := by decide +kernel
theorem dX5_key_14 : decode cX5_key 14 = .ok (.ireturn, 1) := by decide +kernel
theorem dX5_key_15 : decode cX5_key 15 = .ok (.aload_n 0, 1) := by decide +kernel
theorem dX5_key_16 : decode cX5_key 16 = .ok (.getfield 44, 3) := by decide +kernel
theorem dX5_key_19 : decode cX5_key 19 = .ok (.iload 9, 2) := by decide +kernel
theorem dX5_key_21 : decode cX5_key 21 = .ok (.iconst 1, 1) := by decide +kernel
theorem dX5_key_22 : decode cX5_key 22 = .ok (.bastore, 1) := by decide +kernel
theorem dX5_key_23 : decode cX5_key 23 = .ok (.aload_n 0, 1) := by decide +kernel
theorem dX5_key_24 : decode cX5_key 24 = .ok (.getfield 28, 3) := by decide +kernel
theorem dX5_key_27 : decode cX5_key 27 = .ok (.iload 9, 2) := by decide +kernel
theorem dX5_key_29 : decode cX5_key 29 = .ok (.lload_n 1, 1) := by decide +kernel
theorem dX5_key_30 : decode cX5_key 30 = .ok (.lastore, 1) := by decide +kernel
theorem dX5_key_31 : decode cX5_key 31 = .ok (.aload_n 0, 1) := by decide +kernel
theorem dX5_key_32 : decode cX5_key 32 = .ok (.getfield 37, 3) := by decide +kernel
theorem dX5_key_35 : decode cX5_key 35 = .ok (.iload 9, 2) := by decide +kernel
theorem dX5_key_37 : decode cX5_key 37 = .ok (.iload_n 3, 1) := by decide +kernel
theorem dX5_key_38 : decode cX5_key 38 = .ok (.iastore, 1) := by decide +kernel
theorem dX5_key_39 : decode cX5_key 39 = .ok (.aload_n 0, 1) := by decide +kernel
theorem dX5_key_40 : decode cX5_key 40 = .ok (.getfield 31, 3) := by decide +kernel
theorem dX5_key_43 : decode cX5_key 43 = .ok (.iload 9, 2) := by decide +kernel
theorem dX5_key_45 : decode cX5_key 45 = .ok (.lload 4, 2) := by decide +kernel
theorem dX5_key_47 : decode cX5_key 47 = .ok (.lastore, 1) := by decide +kernel
theorem dX5_key_48 : decode cX5_key 48 = .ok (.aload_n 0, 1) := by decide +kernel
theorem dX5_key_49 : decode cX5_key 49 = .ok (.getfield 34, 3) := by decide +kernel
theorem dX5_key_52 : decode cX5_key 52 = .ok (.iload 9, 2) := by decide +kernel
theorem dX5_key_54 : decode cX5_key 54 = .ok (.lload 6, 2) := by decide +kernel
theorem dX5_key_56 : decode cX5_key 56 = .ok (.lastore, 1) := by decide +kernel
theorem dX5_key_57 : decode cX5_key 57 = .ok (.aload_n 0, 1) := by decide +kernel
theorem dX5_key_58 : decode cX5_key 58 = .ok (.getfield 48, 3) := by decide +kernel
theorem dX5_key_61 : decode cX5_key 61 = .ok (.iload 9, 2) := by decide +kernel
theorem dX5_key_63 : decode cX5_key 63 = .ok (.iload 8, 2) := by decide +kernel
theorem dX5_key_65 : decode cX5_key 65 = .ok (.bastore, 1) := by decide +kernel
theorem dX5_key_66 : decode cX5_key 66 = .ok (.iload 9, 2) := by decide +kernel
theorem dX5_key_68 : decode cX5_key 68 = .ok (.ireturn, 1) := by decide +kernel
theorem dX5_primary_0 : decode cX5_primary 0 = .ok (.aload_n 0, 1) := by decide +kernel
theorem dX5_primary_1 : decode cX5_primary 1 = .ok (.aload_n 0, 1) := by decide +kernel
theorem dX5_primary_2 : decode cX5_primary 2 = .ok (.iload_n 1, 1) := by decide +kernel
theorem dX5_primary_3 : decode cX5_primary 3 = .ok (.iconst 2, 1) := by decide +kernel
theorem dX5_primary_4 : decode cX5_primary 4 = .ok (.invokevirtual 109, 3) := by decide +kernel
theorem dX5_primary_7 : decode cX5_primary 7 = .ok (.invokevirtual 113, 3) := by decide +kernel
theorem dX5_primary_10 : decode cX5_primary 10 = .ok (.ifCond .ne 5, 3) := by decide +kernel
theorem dX5_primary_13 : decode cX5_primary 13 = .ok (.iconst 0, 1) := by decide +kernel
theorem dX5_primary_14 : decode cX5_primary 14 = .ok (.ireturn, 1) := by decide +kernel
theorem dX5_primary_15 : decode cX5_primary 15 = .ok (.aload_n 0, 1) := by decide +kernel
theorem dX5_primary_16 : decode cX5_primary 16 = .ok (.aload_n 0, 1) := by decide +kernel
theorem dX5_primary_17 : decode cX5_primary 17 = .ok (.aload_n 0, 1) := by decide +kernel
theorem dX5_primary_18 : decode cX5_primary 18 = .ok (.getfield 7, 3) := by decide +kernel
theorem dX5_primary_21 : decode cX5_primary 21 = .ok (.iload_n 1, 1) := by decide +kernel
theorem dX5_primary_22 : decode cX5_primary 22 = .ok (.laload, 1) := by decide +kernel
theorem dX5_primary_23 : decode cX5_primary 23 = .ok (.lload_n 2, 1) := by decide +kernel
theorem dX5_primary_24 : decode cX5_primary 24 = .ok (.invokevirtual 74, 3) := by decide +kernel
theorem dX5_primary_27 : decode cX5_primary 27 = .ok (.iconst 0, 1) := by decide +kernel
theorem dX5_primary_28 : decode cX5_primary 28 = .ok (.lconst 0, 1) := by decide +kernel
theorem dX5_primary_29 : decode cX5_primary 29 = .ok (.lconst 0, 1) := by decide +kernel
theorem dX5_primary_30 : decode cX5_primary 30 = .ok (.iconst 1, 1) := by decide +kernel
theorem dX5_primary_31 : decode cX5_primary 31 = .ok (.invokevirtual 121, 3) := by decide +kernel
theorem dX5_primary_34 : decode cX5_primary 34 = .ok (.ireturn, 1) := by decide +kernel
theorem dX5_seal_0 : decode cX5_seal 0 = .ok (.aload_n 0, 1) := by decide +kernel
theorem dX5_seal_1 : decode cX5_seal 1 = .ok (.aload_n 0, 1) := by decide +kernel
theorem dX5_seal_2 : decode cX5_seal 2 = .ok (.aload_n 0, 1) := by decide +kernel
theorem dX5_seal_3 : decode cX5_seal 3 = .ok (.getfield 28, 3) := by decide +kernel
theorem dX5_seal_6 : decode cX5_seal 6 = .ok (.iload_n 1, 1) := by decide +kernel
theorem dX5_seal_7 : decode cX5_seal 7 = .ok (.laload, 1) := by decide +kernel
theorem dX5_seal_8 : decode cX5_seal 8 = .ok (.ldc2_w 125, 3) := by decide +kernel
theorem dX5_seal_11 : decode cX5_seal 11 = .ok (.invokevirtual 74, 3) := by decide +kernel
theorem dX5_seal_14 : decode cX5_seal 14 = .ok (.aload_n 0, 1) := by decide +kernel
theorem dX5_seal_15 : decode cX5_seal 15 = .ok (.aload_n 0, 1) := by decide +kernel
theorem dX5_seal_16 : decode cX5_seal 16 = .ok (.aload_n 0, 1) := by decide +kernel
theorem dX5_seal_17 : decode cX5_seal 17 = .ok (.getfield 19, 3) := by decide +kernel
theorem dX5_seal_20 : decode cX5_seal 20 = .ok (.iload_n 2, 1) := by decide +kernel
theorem dX5_seal_21 : decode cX5_seal 21 = .ok (.iconst 4, 1) := by decide +kernel
theorem dX5_seal_22 : decode cX5_seal 22 = .ok (.imul, 1) := by decide +kernel
theorem dX5_seal_23 : decode cX5_seal 23 = .ok (.laload, 1) := by decide +kernel
theorem dX5_seal_24 : decode cX5_seal 24 = .ok (.aload_n 0, 1) := by decide +kernel
theorem dX5_seal_25 : decode cX5_seal 25 = .ok (.getfield 19, 3) := by decide +kernel
theorem dX5_seal_28 : decode cX5_seal 28 = .ok (.iload_n 2, 1) := by decide +kernel
theorem dX5_seal_29 : decode cX5_seal 29 = .ok (.iconst 4, 1) := by decide +kernel
theorem dX5_seal_30 : decode cX5_seal 30 = .ok (.imul, 1) := by decide +kernel
theorem dX5_seal_31 : decode cX5_seal 31 = .ok (.iconst 1, 1) := by decide +kernel
theorem dX5_seal_32 : decode cX5_seal 32 = .ok (.iadd, 1) := by decide +kernel
theorem dX5_seal_33 : decode cX5_seal 33 = .ok (.laload, 1) := by decide +kernel
theorem dX5_seal_34 : decode cX5_seal 34 = .ok (.invokevirtual 74, 3) := by decide +kernel
theorem dX5_seal_37 : decode cX5_seal 37 = .ok (.aload_n 0, 1) := by decide +kernel
theorem dX5_seal_38 : decode cX5_seal 38 = .ok (.getfield 19, 3) := by decide +kernel
theorem dX5_seal_41 : decode cX5_seal 41 = .ok (.iload_n 2, 1) := by decide +kernel
theorem dX5_seal_42 : decode cX5_seal 42 = .ok (.iconst 4, 1) := by decide +kernel
theorem dX5_seal_43 : decode cX5_seal 43 = .ok (.imul, 1) := by decide +kernel
theorem dX5_seal_44 : decode cX5_seal 44 = .ok (.iconst 2, 1) := by decide +kernel
theorem dX5_seal_45 : decode cX5_seal 45 = .ok (.iadd, 1) := by decide +kernel
theorem dX5_seal_46 : decode cX5_seal 46 = .ok (.laload, 1) := by decide +kernel
theorem dX5_seal_47 : decode cX5_seal 47 = .ok (.invokevirtual 74, 3) := by decide +kernel
theorem dX5_seal_50 : decode cX5_seal 50 = .ok (.invokevirtual 74, 3) := by decide +kernel
theorem dX5_seal_53 : decode cX5_seal 53 = .ok (.lreturn, 1) := by decide +kernel
theorem dX5_create_0 : decode cX5_create 0 = .ok (.aload_n 0, 1) := by decide +kernel
theorem dX5_create_1 : decode cX5_create 1 = .ok (.aload_n 0, 1) := by decide +kernel
theorem dX5_create_2 : decode cX5_create 2 = .ok (.iload_n 1, 1) := by decide +kernel
theorem dX5_create_3 : decode cX5_create 3 = .ok (.iconst 3, 1) := by decide +kernel
theorem dX5_create_4 : decode cX5_create 4 = .ok (.invokevirtual 109, 3) := by decide +kernel
theorem dX5_create_7 : decode cX5_create 7 = .ok (.ifCond .ne 13, 3) := by decide +kernel
theorem dX5_create_10 : decode cX5_create 10 = .ok (.aload_n 0, 1) := by decide +kernel
theorem dX5_create_11 : decode cX5_create 11 = .ok (.iload_n 2, 1) := by decide +kernel
theorem dX5_create_12 : decode cX5_create 12 = .ok (.bipush 7, 2) := by decide +kernel
theorem dX5_create_14 : decode cX5_create 14 = .ok (.invokevirtual 109, 3) := by decide +kernel
theorem dX5_create_17 : decode cX5_create 17 = .ok (.ifCond .eq 7, 3) := by decide +kernel
theorem dX5_create_20 : decode cX5_create 20 = .ok (.iconst 1, 1) := by decide +kernel
theorem dX5_create_21 : decode cX5_create 21 = .ok (.goto 4, 3) := by decide +kernel
theorem dX5_create_24 : decode cX5_create 24 = .ok (.iconst 0, 1) := by decide +kernel
theorem dX5_create_25 : decode cX5_create 25 = .ok (.invokevirtual 113, 3) := by decide +kernel
theorem dX5_create_28 : decode cX5_create 28 = .ok (.ifCond .ne 4, 3) := by decide +kernel
theorem dX5_create_31 : decode cX5_create 31 = .ok (.return_, 1) := by decide +kernel
theorem dX5_create_32 : decode cX5_create 32 = .ok (.aload_n 0, 1) := by decide +kernel
theorem dX5_create_33 : decode cX5_create 33 = .ok (.aload_n 0, 1) := by decide +kernel
theorem dX5_create_34 : decode cX5_create 34 = .ok (.getfield 44, 3) := by decide +kernel
theorem dX5_create_37 : decode cX5_create 37 = .ok (.iload_n 1, 1) := by decide +kernel
theorem dX5_create_38 : decode cX5_create 38 = .ok (.baload, 1) := by decide +kernel
theorem dX5_create_39 : decode cX5_create 39 = .ok (.ifCond .ne 7, 3) := by decide +kernel
theorem dX5_create_42 : decode cX5_create 42 = .ok (.iconst 3, 1) := by decide +kernel
theorem dX5_create_43 : decode cX5_create 43 = .ok (.goto 17, 3) := by decide +kernel
theorem dX5_create_46 : decode cX5_create 46 = .ok (.aload_n 0, 1) := by decide +kernel
theorem dX5_create_47 : decode cX5_create 47 = .ok (.getfield 48, 3) := by decide +kernel
theorem dX5_create_50 : decode cX5_create 50 = .ok (.iload_n 1, 1) := by decide +kernel
theorem dX5_create_51 : decode cX5_create 51 = .ok (.baload, 1) := by decide +kernel
theorem dX5_create_52 : decode cX5_create 52 = .ok (.ifCond .ne 7, 3) := by decide +kernel
theorem dX5_create_55 : decode cX5_create 55 = .ok (.iconst 4, 1) := by decide +kernel
theorem dX5_create_56 : decode cX5_create 56 = .ok (.goto 4, 3) := by decide +kernel
theorem dX5_create_59 : decode cX5_create 59 = .ok (.iconst 0, 1) := by decide +kernel
theorem dX5_create_60 : decode cX5_create 60 = .ok (.putfield 81, 3) := by decide +kernel
theorem dX5_create_63 : decode cX5_create 63 = .ok (.aload_n 0, 1) := by decide +kernel
theorem dX5_create_64 : decode cX5_create 64 = .ok (.getfield 81, 3) := by decide +kernel
theorem dX5_create_67 : decode cX5_create 67 = .ok (.ifCond .eq 4, 3) := by decide +kernel
theorem dX5_create_70 : decode cX5_create 70 = .ok (.return_, 1) := by decide +kernel
theorem dX5_create_71 : decode cX5_create 71 = .ok (.aload_n 0, 1) := by decide +kernel
theorem dX5_create_72 : decode cX5_create 72 = .ok (.getfield 51, 3) := by decide +kernel
theorem dX5_create_75 : decode cX5_create 75 = .ok (.iload_n 2, 1) := by decide +kernel
theorem dX5_create_76 : decode cX5_create 76 = .ok (.iconst 1, 1) := by decide +kernel
theorem dX5_create_77 : decode cX5_create 77 = .ok (.bastore, 1) := by decide +kernel
theorem dX5_create_78 : decode cX5_create 78 = .ok (.aload_n 0, 1) := by decide +kernel
theorem dX5_create_79 : decode cX5_create 79 = .ok (.getfield 19, 3) := by decide +kernel
theorem dX5_create_82 : decode cX5_create 82 = .ok (.iload_n 2, 1) := by decide +kernel
theorem dX5_create_83 : decode cX5_create 83 = .ok (.iconst 4, 1) := by decide +kernel
theorem dX5_create_84 : decode cX5_create 84 = .ok (.imul, 1) := by decide +kernel
theorem dX5_create_85 : decode cX5_create 85 = .ok (.lload_n 3, 1) := by decide +kernel
theorem dX5_create_86 : decode cX5_create 86 = .ok (.aload_n 0, 1) := by decide +kernel
theorem dX5_create_87 : decode cX5_create 87 = .ok (.aload_n 0, 1) := by decide +kernel
theorem dX5_create_88 : decode cX5_create 88 = .ok (.getfield 28, 3) := by decide +kernel
theorem dX5_create_91 : decode cX5_create 91 = .ok (.iload_n 1, 1) := by decide +kernel
theorem dX5_create_92 : decode cX5_create 92 = .ok (.laload, 1) := by decide +kernel
theorem dX5_create_93 : decode cX5_create 93 = .ok (.lconst 1, 1) := by decide +kernel
theorem dX5_create_94 : decode cX5_create 94 = .ok (.invokevirtual 74, 3) := by decide +kernel
theorem dX5_create_97 : decode cX5_create 97 = .ok (.lxor, 1) := by decide +kernel
theorem dX5_create_98 : decode cX5_create 98 = .ok (.lastore, 1) := by decide +kernel
theorem dX5_create_99 : decode cX5_create 99 = .ok (.aload_n 0, 1) := by decide +kernel
theorem dX5_create_100 : decode cX5_create 100 = .ok (.getfield 19, 3) := by decide +kernel
theorem dX5_create_103 : decode cX5_create 103 = .ok (.iload_n 2, 1) := by decide +kernel
theorem dX5_create_104 : decode cX5_create 104 = .ok (.iconst 4, 1) := by decide +kernel
theorem dX5_create_105 : decode cX5_create 105 = .ok (.imul, 1) := by decide +kernel
theorem dX5_create_106 : decode cX5_create 106 = .ok (.iconst 1, 1) := by decide +kernel
theorem dX5_create_107 : decode cX5_create 107 = .ok (.iadd, 1) := by decide +kernel
theorem dX5_create_108 : decode cX5_create 108 = .ok (.iload 5, 2) := by decide +kernel
theorem dX5_create_110 : decode cX5_create 110 = .ok (.i2l, 1) := by decide +kernel
theorem dX5_create_111 : decode cX5_create 111 = .ok (.aload_n 0, 1) := by decide +kernel
theorem dX5_create_112 : decode cX5_create 112 = .ok (.aload_n 0, 1) := by decide +kernel
theorem dX5_create_113 : decode cX5_create 113 = .ok (.getfield 28, 3) := by decide +kernel
theorem dX5_create_116 : decode cX5_create 116 = .ok (.iload_n 1, 1) := by decide +kernel
theorem dX5_create_117 : decode cX5_create 117 = .ok (.laload, 1) := by decide +kernel
theorem dX5_create_118 : decode cX5_create 118 = .ok (.ldc2_w 127, 3) := by decide +kernel
theorem dX5_create_121 : decode cX5_create 121 = .ok (.invokevirtual 74, 3) := by decide +kernel
theorem dX5_create_124 : decode cX5_create 124 = .ok (.lxor, 1) := by decide +kernel
theorem dX5_create_125 : decode cX5_create 125 = .ok (.lastore, 1) := by decide +kernel
theorem dX5_create_126 : decode cX5_create 126 = .ok (.aload_n 0, 1) := by decide +kernel
theorem dX5_create_127 : decode cX5_create 127 = .ok (.getfield 19, 3) := by decide +kernel
theorem dX5_create_130 : decode cX5_create 130 = .ok (.iload_n 2, 1) := by decide +kernel
theorem dX5_create_131 : decode cX5_create 131 = .ok (.iconst 4, 1) := by decide +kernel
theorem dX5_create_132 : decode cX5_create 132 = .ok (.imul, 1) := by decide +kernel
theorem dX5_create_133 : decode cX5_create 133 = .ok (.iconst 2, 1) := by decide +kernel
theorem dX5_create_134 : decode cX5_create 134 = .ok (.iadd, 1) := by decide +kernel
theorem dX5_create_135 : decode cX5_create 135 = .ok (.lload 6, 2) := by decide +kernel
theorem dX5_create_137 : decode cX5_create 137 = .ok (.lastore, 1) := by decide +kernel
theorem dX5_create_138 : decode cX5_create 138 = .ok (.aload_n 0, 1) := by decide +kernel
theorem dX5_create_139 : decode cX5_create 139 = .ok (.getfield 19, 3) := by decide +kernel
theorem dX5_create_142 : decode cX5_create 142 = .ok (.iload_n 2, 1) := by decide +kernel
theorem dX5_create_143 : decode cX5_create 143 = .ok (.iconst 4, 1) := by decide +kernel
theorem dX5_create_144 : decode cX5_create 144 = .ok (.imul, 1) := by decide +kernel
theorem dX5_create_145 : decode cX5_create 145 = .ok (.iconst 3, 1) := by decide +kernel
theorem dX5_create_146 : decode cX5_create 146 = .ok (.iadd, 1) := by decide +kernel
theorem dX5_create_147 : decode cX5_create 147 = .ok (.aload_n 0, 1) := by decide +kernel
theorem dX5_create_148 : decode cX5_create 148 = .ok (.iload_n 1, 1) := by decide +kernel
theorem dX5_create_149 : decode cX5_create 149 = .ok (.iload_n 2, 1) := by decide +kernel
theorem dX5_create_150 : decode cX5_create 150 = .ok (.invokevirtual 129, 3) := by decide +kernel
theorem dX5_create_153 : decode cX5_create 153 = .ok (.lastore, 1) := by decide +kernel
theorem dX5_create_154 : decode cX5_create 154 = .ok (.return_, 1) := by decide +kernel
theorem dX5_load_0 : decode cX5_load 0 = .ok (.aload_n 0, 1) := by decide +kernel
theorem dX5_load_1 : decode cX5_load 1 = .ok (.aload_n 0, 1) := by decide +kernel
theorem dX5_load_2 : decode cX5_load 2 = .ok (.iload_n 1, 1) := by decide +kernel
theorem dX5_load_3 : decode cX5_load 3 = .ok (.iconst 3, 1) := by decide +kernel
theorem dX5_load_4 : decode cX5_load 4 = .ok (.invokevirtual 109, 3) := by decide +kernel
theorem dX5_load_7 : decode cX5_load 7 = .ok (.ifCond .ne 13, 3) := by decide +kernel
theorem dX5_load_10 : decode cX5_load 10 = .ok (.aload_n 0, 1) := by decide +kernel
theorem dX5_load_11 : decode cX5_load 11 = .ok (.iload_n 2, 1) := by decide +kernel
theorem dX5_load_12 : decode cX5_load 12 = .ok (.bipush 7, 2) := by decide +kernel
theorem dX5_load_14 : decode cX5_load 14 = .ok (.invokevirtual 109, 3) := by decide +kernel
theorem dX5_load_17 : decode cX5_load 17 = .ok (.ifCond .eq 7, 3) := by decide +kernel
theorem dX5_load_20 : decode cX5_load 20 = .ok (.iconst 1, 1) := by decide +kernel
theorem dX5_load_21 : decode cX5_load 21 = .ok (.goto 4, 3) := by decide +kernel
theorem dX5_load_24 : decode cX5_load 24 = .ok (.iconst 0, 1) := by decide +kernel
theorem dX5_load_25 : decode cX5_load 25 = .ok (.invokevirtual 113, 3) := by decide +kernel
theorem dX5_load_28 : decode cX5_load 28 = .ok (.ifCond .ne 5, 3) := by decide +kernel
theorem dX5_load_31 : decode cX5_load 31 = .ok (.iconst 0, 1) := by decide +kernel
theorem dX5_load_32 : decode cX5_load 32 = .ok (.ireturn, 1) := by decide +kernel
theorem dX5_load_33 : decode cX5_load 33 = .ok (.aload_n 0, 1) := by decide +kernel
theorem dX5_load_34 : decode cX5_load 34 = .ok (.aload_n 0, 1) := by decide +kernel
theorem dX5_load_35 : decode cX5_load 35 = .ok (.getfield 44, 3) := by decide +kernel
theorem dX5_load_38 : decode cX5_load 38 = .ok (.iload_n 1, 1) := by decide +kernel
theorem dX5_load_39 : decode cX5_load 39 = .ok (.baload, 1) := by decide +kernel
theorem dX5_load_40 : decode cX5_load 40 = .ok (.ifCond .eq 12, 3) := by decide +kernel
theorem dX5_load_43 : decode cX5_load 43 = .ok (.aload_n 0, 1) := by decide +kernel
theorem dX5_load_44 : decode cX5_load 44 = .ok (.getfield 51, 3) := by decide +kernel
theorem dX5_load_47 : decode cX5_load 47 = .ok (.iload_n 2, 1) := by decide +kernel
theorem dX5_load_48 : decode cX5_load 48 = .ok (.baload, 1) := by decide +kernel
theorem dX5_load_49 : decode cX5_load 49 = .ok (.ifCond .ne 7, 3) := by decide +kernel
theorem dX5_load_52 : decode cX5_load 52 = .ok (.iconst 3, 1) := by decide +kernel
theorem dX5_load_53 : decode cX5_load 53 = .ok (.goto 41, 3) := by decide +kernel
theorem dX5_load_56 : decode cX5_load 56 = .ok (.aload_n 0, 1) := by decide +kernel
theorem dX5_load_57 : decode cX5_load 57 = .ok (.getfield 48, 3) := by decide +kernel
theorem dX5_load_60 : decode cX5_load 60 = .ok (.iload_n 1, 1) := by decide +kernel
theorem dX5_load_61 : decode cX5_load 61 = .ok (.baload, 1) := by decide +kernel
theorem dX5_load_62 : decode cX5_load 62 = .ok (.ifCond .ne 7, 3) := by decide +kernel
theorem dX5_load_65 : decode cX5_load 65 = .ok (.iconst 4, 1) := by decide +kernel
theorem dX5_load_66 : decode cX5_load 66 = .ok (.goto 28, 3) := by decide +kernel
theorem dX5_load_69 : decode cX5_load 69 = .ok (.aload_n 0, 1) := by decide +kernel
theorem dX5_load_70 : decode cX5_load 70 = .ok (.getfield 19, 3) := by decide +kernel
theorem dX5_load_73 : decode cX5_load 73 = .ok (.iload_n 2, 1) := by decide +kernel
theorem dX5_load_74 : decode cX5_load 74 = .ok (.iconst 4, 1) := by decide +kernel
theorem dX5_load_75 : decode cX5_load 75 = .ok (.imul, 1) := by decide +kernel
theorem dX5_load_76 : decode cX5_load 76 = .ok (.iconst 3, 1) := by decide +kernel
theorem dX5_load_77 : decode cX5_load 77 = .ok (.iadd, 1) := by decide +kernel
theorem dX5_load_78 : decode cX5_load 78 = .ok (.laload, 1) := by decide +kernel
theorem dX5_load_79 : decode cX5_load 79 = .ok (.aload_n 0, 1) := by decide +kernel
theorem dX5_load_80 : decode cX5_load 80 = .ok (.iload_n 1, 1) := by decide +kernel
theorem dX5_load_81 : decode cX5_load 81 = .ok (.iload_n 2, 1) := by decide +kernel
theorem dX5_load_82 : decode cX5_load 82 = .ok (.invokevirtual 129, 3) := by decide +kernel
theorem dX5_load_85 : decode cX5_load 85 = .ok (.lcmp, 1) := by decide +kernel
theorem dX5_load_86 : decode cX5_load 86 = .ok (.ifCond .eq 7, 3) := by decide +kernel
theorem dX5_load_89 : decode cX5_load 89 = .ok (.iconst 5, 1) := by decide +kernel
theorem dX5_load_90 : decode cX5_load 90 = .ok (.goto 4, 3) := by decide +kernel
theorem dX5_load_93 : decode cX5_load 93 = .ok (.iconst 0, 1) := by decide +kernel
theorem dX5_load_94 : decode cX5_load 94 = .ok (.putfield 81, 3) := by decide +kernel
theorem dX5_load_97 : decode cX5_load 97 = .ok (.aload_n 0, 1) := by decide +kernel
theorem dX5_load_98 : decode cX5_load 98 = .ok (.getfield 81, 3) := by decide +kernel
theorem dX5_load_101 : decode cX5_load 101 = .ok (.ifCond .eq 5, 3) := by decide +kernel
theorem dX5_load_104 : decode cX5_load 104 = .ok (.iconst 0, 1) := by decide +kernel
theorem dX5_load_105 : decode cX5_load 105 = .ok (.ireturn, 1) := by decide +kernel
theorem dX5_load_106 : decode cX5_load 106 = .ok (.aload_n 0, 1) := by decide +kernel
theorem dX5_load_107 : decode cX5_load 107 = .ok (.getfield 19, 3) := by decide +kernel
theorem dX5_load_110 : decode cX5_load 110 = .ok (.iload_n 2, 1) := by decide +kernel
theorem dX5_load_111 : decode cX5_load 111 = .ok (.iconst 4, 1) := by decide +kernel
theorem dX5_load_112 : decode cX5_load 112 = .ok (.imul, 1) := by decide +kernel
theorem dX5_load_113 : decode cX5_load 113 = .ok (.laload, 1) := by decide +kernel
theorem dX5_load_114 : decode cX5_load 114 = .ok (.aload_n 0, 1) := by decide +kernel
theorem dX5_load_115 : decode cX5_load 115 = .ok (.aload_n 0, 1) := by decide +kernel
theorem dX5_load_116 : decode cX5_load 116 = .ok (.getfield 28, 3) := by decide +kernel
theorem dX5_load_119 : decode cX5_load 119 = .ok (.iload_n 1, 1) := by decide +kernel
theorem dX5_load_120 : decode cX5_load 120 = .ok (.laload, 1) := by decide +kernel
theorem dX5_load_121 : decode cX5_load 121 = .ok (.lconst 1, 1) := by decide +kernel
theorem dX5_load_122 : decode cX5_load 122 = .ok (.invokevirtual 74, 3) := by decide +kernel
theorem dX5_load_125 : decode cX5_load 125 = .ok (.lxor, 1) := by decide +kernel
theorem dX5_load_126 : decode cX5_load 126 = .ok (.lstore_n 3, 1) := by decide +kernel
theorem dX5_load_127 : decode cX5_load 127 = .ok (.aload_n 0, 1) := by decide +kernel
theorem dX5_load_128 : decode cX5_load 128 = .ok (.getfield 19, 3) := by decide +kernel
theorem dX5_load_131 : decode cX5_load 131 = .ok (.iload_n 2, 1) := by decide +kernel
theorem dX5_load_132 : decode cX5_load 132 = .ok (.iconst 4, 1) := by decide +kernel
theorem dX5_load_133 : decode cX5_load 133 = .ok (.imul, 1) := by decide +kernel
theorem dX5_load_134 : decode cX5_load 134 = .ok (.iconst 1, 1) := by decide +kernel
theorem dX5_load_135 : decode cX5_load 135 = .ok (.iadd, 1) := by decide +kernel
theorem dX5_load_136 : decode cX5_load 136 = .ok (.laload, 1) := by decide +kernel
theorem dX5_load_137 : decode cX5_load 137 = .ok (.aload_n 0, 1) := by decide +kernel
theorem dX5_load_138 : decode cX5_load 138 = .ok (.aload_n 0, 1) := by decide +kernel
theorem dX5_load_139 : decode cX5_load 139 = .ok (.getfield 28, 3) := by decide +kernel
theorem dX5_load_142 : decode cX5_load 142 = .ok (.iload_n 1, 1) := by decide +kernel
theorem dX5_load_143 : decode cX5_load 143 = .ok (.laload, 1) := by decide +kernel
theorem dX5_load_144 : decode cX5_load 144 = .ok (.ldc2_w 127, 3) := by decide +kernel
theorem dX5_load_147 : decode cX5_load 147 = .ok (.invokevirtual 74, 3) := by decide +kernel
theorem dX5_load_150 : decode cX5_load 150 = .ok (.lxor, 1) := by decide +kernel
theorem dX5_load_151 : decode cX5_load 151 = .ok (.l2i, 1) := by decide +kernel
theorem dX5_load_152 : decode cX5_load 152 = .ok (.istore 5, 2) := by decide +kernel
theorem dX5_load_154 : decode cX5_load 154 = .ok (.aload_n 0, 1) := by decide +kernel
theorem dX5_load_155 : decode cX5_load 155 = .ok (.aload_n 0, 1) := by decide +kernel
theorem dX5_load_156 : decode cX5_load 156 = .ok (.aload_n 0, 1) := by decide +kernel
theorem dX5_load_157 : decode cX5_load 157 = .ok (.getfield 28, 3) := by decide +kernel
theorem dX5_load_160 : decode cX5_load 160 = .ok (.iload_n 1, 1) := by decide +kernel
theorem dX5_load_161 : decode cX5_load 161 = .ok (.laload, 1) := by decide +kernel
theorem dX5_load_162 : decode cX5_load 162 = .ok (.aload_n 0, 1) := by decide +kernel
theorem dX5_load_163 : decode cX5_load 163 = .ok (.getfield 19, 3) := by decide +kernel
theorem dX5_load_166 : decode cX5_load 166 = .ok (.iload_n 2, 1) := by decide +kernel
theorem dX5_load_167 : decode cX5_load 167 = .ok (.iconst 4, 1) := by decide +kernel
theorem dX5_load_168 : decode cX5_load 168 = .ok (.imul, 1) := by decide +kernel
theorem dX5_load_169 : decode cX5_load 169 = .ok (.iconst 3, 1) := by decide +kernel
theorem dX5_load_170 : decode cX5_load 170 = .ok (.iadd, 1) := by decide +kernel
theorem dX5_load_171 : decode cX5_load 171 = .ok (.laload, 1) := by decide +kernel
theorem dX5_load_172 : decode cX5_load 172 = .ok (.invokevirtual 74, 3) := by decide +kernel
theorem dX5_load_175 : decode cX5_load 175 = .ok (.iload 5, 2) := by decide +kernel
theorem dX5_load_177 : decode cX5_load 177 = .ok (.aload_n 0, 1) := by decide +kernel
theorem dX5_load_178 : decode cX5_load 178 = .ok (.getfield 19, 3) := by decide +kernel
theorem dX5_load_181 : decode cX5_load 181 = .ok (.iload_n 2, 1) := by decide +kernel
theorem dX5_load_182 : decode cX5_load 182 = .ok (.iconst 4, 1) := by decide +kernel
theorem dX5_load_183 : decode cX5_load 183 = .ok (.imul, 1) := by decide +kernel
theorem dX5_load_184 : decode cX5_load 184 = .ok (.iconst 2, 1) := by decide +kernel
theorem dX5_load_185 : decode cX5_load 185 = .ok (.iadd, 1) := by decide +kernel
theorem dX5_load_186 : decode cX5_load 186 = .ok (.laload, 1) := by decide +kernel
theorem dX5_load_187 : decode cX5_load 187 = .ok (.lload_n 3, 1) := by decide +kernel
theorem dX5_load_188 : decode cX5_load 188 = .ok (.lload_n 3, 1) := by decide +kernel
theorem dX5_load_189 : decode cX5_load 189 = .ok (.lconst 1, 1) := by decide +kernel
theorem dX5_load_190 : decode cX5_load 190 = .ok (.land, 1) := by decide +kernel
theorem dX5_load_191 : decode cX5_load 191 = .ok (.lconst 0, 1) := by decide +kernel
theorem dX5_load_192 : decode cX5_load 192 = .ok (.lcmp, 1) := by decide +kernel
theorem dX5_load_193 : decode cX5_load 193 = .ok (.ifCond .ne 7, 3) := by decide +kernel
theorem dX5_load_196 : decode cX5_load 196 = .ok (.iconst 1, 1) := by decide +kernel
theorem dX5_load_197 : decode cX5_load 197 = .ok (.goto 4, 3) := by decide +kernel
theorem dX5_load_200 : decode cX5_load 200 = .ok (.iconst 0, 1) := by decide +kernel
theorem dX5_load_201 : decode cX5_load 201 = .ok (.invokevirtual 121, 3) := by decide +kernel
theorem dX5_load_204 : decode cX5_load 204 = .ok (.ireturn, 1) := by decide +kernel
theorem dX5_tamper_0 : decode cX5_tamper 0 = .ok (.aload_n 0, 1) := by decide +kernel
theorem dX5_tamper_1 : decode cX5_tamper 1 = .ok (.aload_n 0, 1) := by decide +kernel
theorem dX5_tamper_2 : decode cX5_tamper 2 = .ok (.iload_n 1, 1) := by decide +kernel
theorem dX5_tamper_3 : decode cX5_tamper 3 = .ok (.bipush 7, 2) := by decide +kernel
theorem dX5_tamper_5 : decode cX5_tamper 5 = .ok (.invokevirtual 109, 3) := by decide +kernel
theorem dX5_tamper_8 : decode cX5_tamper 8 = .ok (.ifCond .ne 12, 3) := by decide +kernel
theorem dX5_tamper_11 : decode cX5_tamper 11 = .ok (.aload_n 0, 1) := by decide +kernel
theorem dX5_tamper_12 : decode cX5_tamper 12 = .ok (.iload_n 2, 1) := by decide +kernel
theorem dX5_tamper_13 : decode cX5_tamper 13 = .ok (.iconst 3, 1) := by decide +kernel
theorem dX5_tamper_14 : decode cX5_tamper 14 = .ok (.invokevirtual 109, 3) := by decide +kernel
theorem dX5_tamper_17 : decode cX5_tamper 17 = .ok (.ifCond .eq 7, 3) := by decide +kernel
theorem dX5_tamper_20 : decode cX5_tamper 20 = .ok (.iconst 1, 1) := by decide +kernel
theorem dX5_tamper_21 : decode cX5_tamper 21 = .ok (.goto 17, 3) := by decide +kernel
theorem dX5_tamper_24 : decode cX5_tamper 24 = .ok (.aload_n 0, 1) := by decide +kernel
theorem dX5_tamper_25 : decode cX5_tamper 25 = .ok (.getfield 51, 3) := by decide +kernel
theorem dX5_tamper_28 : decode cX5_tamper 28 = .ok (.iload_n 1, 1) := by decide +kernel
theorem dX5_tamper_29 : decode cX5_tamper 29 = .ok (.baload, 1) := by decide +kernel
theorem dX5_tamper_30 : decode cX5_tamper 30 = .ok (.ifCond .ne 7, 3) := by decide +kernel
theorem dX5_tamper_33 : decode cX5_tamper 33 = .ok (.iconst 2, 1) := by decide +kernel
theorem dX5_tamper_34 : decode cX5_tamper 34 = .ok (.goto 4, 3) := by decide +kernel
theorem dX5_tamper_37 : decode cX5_tamper 37 = .ok (.iconst 0, 1) := by decide +kernel
theorem dX5_tamper_38 : decode cX5_tamper 38 = .ok (.putfield 81, 3) := by decide +kernel
theorem dX5_tamper_41 : decode cX5_tamper 41 = .ok (.aload_n 0, 1) := by decide +kernel
theorem dX5_tamper_42 : decode cX5_tamper 42 = .ok (.getfield 81, 3) := by decide +kernel
theorem dX5_tamper_45 : decode cX5_tamper 45 = .ok (.ifCond .ne 17, 3) := by decide +kernel
theorem dX5_tamper_48 : decode cX5_tamper 48 = .ok (.aload_n 0, 1) := by decide +kernel
theorem dX5_tamper_49 : decode cX5_tamper 49 = .ok (.getfield 19, 3) := by decide +kernel
theorem dX5_tamper_52 : decode cX5_tamper 52 = .ok (.iload_n 1, 1) := by decide +kernel
theorem dX5_tamper_53 : decode cX5_tamper 53 = .ok (.iconst 4, 1) := by decide +kernel
theorem dX5_tamper_54 : decode cX5_tamper 54 = .ok (.imul, 1) := by decide +kernel
theorem dX5_tamper_55 : decode cX5_tamper 55 = .ok (.iload_n 2, 1) := by decide +kernel
theorem dX5_tamper_56 : decode cX5_tamper 56 = .ok (.iadd, 1) := by decide +kernel
theorem dX5_tamper_57 : decode cX5_tamper 57 = .ok (.dup2, 1) := by decide +kernel
theorem dX5_tamper_58 : decode cX5_tamper 58 = .ok (.laload, 1) := by decide +kernel
theorem dX5_tamper_59 : decode cX5_tamper 59 = .ok (.lload_n 3, 1) := by decide +kernel
theorem dX5_tamper_60 : decode cX5_tamper 60 = .ok (.lxor, 1) := by decide +kernel
theorem dX5_tamper_61 : decode cX5_tamper 61 = .ok (.lastore, 1) := by decide +kernel
theorem dX5_tamper_62 : decode cX5_tamper 62 = .ok (.return_, 1) := by decide +kernel
theorem dX5_flush_0 : decode cX5_flush 0 = .ok (.aload_n 0, 1) := by decide +kernel
theorem dX5_flush_1 : decode cX5_flush 1 = .ok (.aload_n 0, 1) := by decide +kernel
theorem dX5_flush_2 : decode cX5_flush 2 = .ok (.iload_n 1, 1) := by decide +kernel
theorem dX5_flush_3 : decode cX5_flush 3 = .ok (.iconst 3, 1) := by decide +kernel
theorem dX5_flush_4 : decode cX5_flush 4 = .ok (.invokevirtual 109, 3) := by decide +kernel
theorem dX5_flush_7 : decode cX5_flush 7 = .ok (.invokevirtual 113, 3) := by decide +kernel
theorem dX5_flush_10 : decode cX5_flush 10 = .ok (.ifCond .ne 4, 3) := by decide +kernel
theorem dX5_flush_13 : decode cX5_flush 13 = .ok (.return_, 1) := by decide +kernel
theorem dX5_flush_14 : decode cX5_flush 14 = .ok (.aload_n 0, 1) := by decide +kernel
theorem dX5_flush_15 : decode cX5_flush 15 = .ok (.getfield 44, 3) := by decide +kernel
theorem dX5_flush_18 : decode cX5_flush 18 = .ok (.iload_n 1, 1) := by decide +kernel
theorem dX5_flush_19 : decode cX5_flush 19 = .ok (.baload, 1) := by decide +kernel
theorem dX5_flush_20 : decode cX5_flush 20 = .ok (.ifCond .ne 11, 3) := by decide +kernel
theorem dX5_flush_23 : decode cX5_flush 23 = .ok (.aload_n 0, 1) := by decide +kernel
theorem dX5_flush_24 : decode cX5_flush 24 = .ok (.iconst 3, 1) := by decide +kernel
theorem dX5_flush_25 : decode cX5_flush 25 = .ok (.putfield 81, 3) := by decide +kernel
theorem dX5_flush_28 : decode cX5_flush 28 = .ok (.goto 10, 3) := by decide +kernel
theorem dX5_flush_31 : decode cX5_flush 31 = .ok (.aload_n 0, 1) := by decide +kernel
theorem dX5_flush_32 : decode cX5_flush 32 = .ok (.getfield 44, 3) := by decide +kernel
theorem dX5_flush_35 : decode cX5_flush 35 = .ok (.iload_n 1, 1) := by decide +kernel
theorem dX5_flush_36 : decode cX5_flush 36 = .ok (.iconst 0, 1) := by decide +kernel
theorem dX5_flush_37 : decode cX5_flush 37 = .ok (.bastore, 1) := by decide +kernel
theorem dX5_flush_38 : decode cX5_flush 38 = .ok (.return_, 1) := by decide +kernel
theorem dX5_allowed_0 : decode cX5_allowed 0 = .ok (.aload_n 0, 1) := by decide +kernel
theorem dX5_allowed_1 : decode cX5_allowed 1 = .ok (.getfield 37, 3) := by decide +kernel
theorem dX5_allowed_4 : decode cX5_allowed 4 = .ok (.iload_n 1, 1) := by decide +kernel
theorem dX5_allowed_5 : decode cX5_allowed 5 = .ok (.iaload, 1) := by decide +kernel
theorem dX5_allowed_6 : decode cX5_allowed 6 = .ok (.ifCond .ne 5, 3) := by decide +kernel
theorem dX5_allowed_9 : decode cX5_allowed 9 = .ok (.iconst 0, 1) := by decide +kernel
theorem dX5_allowed_10 : decode cX5_allowed 10 = .ok (.ireturn, 1) := by decide +kernel
theorem dX5_allowed_11 : decode cX5_allowed 11 = .ok (.aload_n 0, 1) := by decide +kernel
theorem dX5_allowed_12 : decode cX5_allowed 12 = .ok (.getfield 133, 3) := by decide +kernel
theorem dX5_allowed_15 : decode cX5_allowed 15 = .ok (.iconst 3, 1) := by decide +kernel
theorem dX5_allowed_16 : decode cX5_allowed 16 = .ok (.if_icmp .lt 5, 3) := by decide +kernel
theorem dX5_allowed_19 : decode cX5_allowed 19 = .ok (.iconst 2, 1) := by decide +kernel
theorem dX5_allowed_20 : decode cX5_allowed 20 = .ok (.ireturn, 1) := by decide +kernel
theorem dX5_allowed_21 : decode cX5_allowed 21 = .ok (.iload_n 2, 1) := by decide +kernel
theorem dX5_allowed_22 : decode cX5_allowed 22 = .ok (.aload_n 0, 1) := by decide +kernel
theorem dX5_allowed_23 : decode cX5_allowed 23 = .ok (.getfield 37, 3) := by decide +kernel
theorem dX5_allowed_26 : decode cX5_allowed 26 = .ok (.iload_n 1, 1) := by decide +kernel
theorem dX5_allowed_27 : decode cX5_allowed 27 = .ok (.iaload, 1) := by decide +kernel
theorem dX5_allowed_28 : decode cX5_allowed 28 = .ok (.if_icmp .ne 5, 3) := by decide +kernel
theorem dX5_allowed_31 : decode cX5_allowed 31 = .ok (.iconst 0, 1) := by decide +kernel
theorem dX5_allowed_32 : decode cX5_allowed 32 = .ok (.ireturn, 1) := by decide +kernel
theorem dX5_allowed_33 : decode cX5_allowed 33 = .ok (.aload_n 0, 1) := by decide +kernel
theorem dX5_allowed_34 : decode cX5_allowed 34 = .ok (.dup, 1) := by decide +kernel
theorem dX5_allowed_35 : decode cX5_allowed 35 = .ok (.getfield 133, 3) := by decide +kernel
theorem dX5_allowed_38 : decode cX5_allowed 38 = .ok (.iconst 1, 1) := by decide +kernel
theorem dX5_allowed_39 : decode cX5_allowed 39 = .ok (.iadd, 1) := by decide +kernel
theorem dX5_allowed_40 : decode cX5_allowed 40 = .ok (.putfield 133, 3) := by decide +kernel
theorem dX5_allowed_43 : decode cX5_allowed 43 = .ok (.aload_n 0, 1) := by decide +kernel
theorem dX5_allowed_44 : decode cX5_allowed 44 = .ok (.aload_n 0, 1) := by decide +kernel
theorem dX5_allowed_45 : decode cX5_allowed 45 = .ok (.getfield 97, 3) := by decide +kernel
theorem dX5_allowed_48 : decode cX5_allowed 48 = .ok (.putfield 100, 3) := by decide +kernel
theorem dX5_allowed_51 : decode cX5_allowed 51 = .ok (.iconst 4, 1) := by decide +kernel
theorem dX5_allowed_52 : decode cX5_allowed 52 = .ok (.ireturn, 1) := by decide +kernel
theorem dX5_satisfied_0 : decode cX5_satisfied 0 = .ok (.lload_n 2, 1) := by decide +kernel
theorem dX5_satisfied_1 : decode cX5_satisfied 1 = .ok (.lconst 0, 1) := by decide +kernel
theorem dX5_satisfied_2 : decode cX5_satisfied 2 = .ok (.lcmp, 1) := by decide +kernel
theorem dX5_satisfied_3 : decode cX5_satisfied 3 = .ok (.ifCond .eq 14, 3) := by decide +kernel
theorem dX5_satisfied_6 : decode cX5_satisfied 6 = .ok (.aload_n 0, 1) := by decide +kernel
theorem dX5_satisfied_7 : decode cX5_satisfied 7 = .ok (.getfield 16, 3) := by decide +kernel
theorem dX5_satisfied_10 : decode cX5_satisfied 10 = .ok (.iload_n 1, 1) := by decide +kernel
theorem dX5_satisfied_11 : decode cX5_satisfied 11 = .ok (.laload, 1) := by decide +kernel
theorem dX5_satisfied_12 : decode cX5_satisfied 12 = .ok (.lload_n 2, 1) := by decide +kernel
theorem dX5_satisfied_13 : decode cX5_satisfied 13 = .ok (.lcmp, 1) := by decide +kernel
theorem dX5_satisfied_14 : decode cX5_satisfied 14 = .ok (.ifCond .eq 5, 3) := by decide +kernel
theorem dX5_satisfied_17 : decode cX5_satisfied 17 = .ok (.iconst 4, 1) := by decide +kernel
theorem dX5_satisfied_18 : decode cX5_satisfied 18 = .ok (.ireturn, 1) := by decide +kernel
theorem dX5_satisfied_19 : decode cX5_satisfied 19 = .ok (.aload_n 0, 1) := by decide +kernel
theorem dX5_satisfied_20 : decode cX5_satisfied 20 = .ok (.getfield 54, 3) := by decide +kernel
theorem dX5_satisfied_23 : decode cX5_satisfied 23 = .ok (.iload_n 1, 1) := by decide +kernel
theorem dX5_satisfied_24 : decode cX5_satisfied 24 = .ok (.baload, 1) := by decide +kernel
theorem dX5_satisfied_25 : decode cX5_satisfied 25 = .ok (.ifCond .eq 20, 3) := by decide +kernel
theorem dX5_satisfied_28 : decode cX5_satisfied 28 = .ok (.aload_n 0, 1) := by decide +kernel
theorem dX5_satisfied_29 : decode cX5_satisfied 29 = .ok (.getfield 41, 3) := by decide +kernel
theorem dX5_satisfied_32 : decode cX5_satisfied 32 = .ok (.iload_n 1, 1) := by decide +kernel
theorem dX5_satisfied_33 : decode cX5_satisfied 33 = .ok (.iaload, 1) := by decide +kernel
theorem dX5_satisfied_34 : decode cX5_satisfied 34 = .ok (.aload_n 0, 1) := by decide +kernel
theorem dX5_satisfied_35 : decode cX5_satisfied 35 = .ok (.getfield 94, 3) := by decide +kernel
theorem dX5_satisfied_38 : decode cX5_satisfied 38 = .ok (.if_icmp .eq 7, 3) := by decide +kernel
theorem dX5_satisfied_41 : decode cX5_satisfied 41 = .ok (.iconst 2, 1) := by decide +kernel
theorem dX5_satisfied_42 : decode cX5_satisfied 42 = .ok (.goto 4, 3) := by decide +kernel
theorem dX5_satisfied_45 : decode cX5_satisfied 45 = .ok (.iconst 0, 1) := by decide +kernel
theorem dX5_satisfied_46 : decode cX5_satisfied 46 = .ok (.ireturn, 1) := by decide +kernel
theorem dX5_open_0 : decode cX5_open 0 = .ok (.aload_n 0, 1) := by decide +kernel
theorem dX5_open_1 : decode cX5_open 1 = .ok (.aload_n 0, 1) := by decide +kernel
theorem dX5_open_2 : decode cX5_open 2 = .ok (.iload_n 1, 1) := by decide +kernel
theorem dX5_open_3 : decode cX5_open 3 = .ok (.iconst 3, 1) := by decide +kernel
theorem dX5_open_4 : decode cX5_open 4 = .ok (.invokevirtual 109, 3) := by decide +kernel
theorem dX5_open_7 : decode cX5_open 7 = .ok (.invokevirtual 113, 3) := by decide +kernel
theorem dX5_open_10 : decode cX5_open 10 = .ok (.ifCond .ne 5, 3) := by decide +kernel
theorem dX5_open_13 : decode cX5_open 13 = .ok (.lconst 0, 1) := by decide +kernel
theorem dX5_open_14 : decode cX5_open 14 = .ok (.lreturn, 1) := by decide +kernel
theorem dX5_open_15 : decode cX5_open 15 = .ok (.aload_n 0, 1) := by decide +kernel
theorem dX5_open_16 : decode cX5_open 16 = .ok (.aload_n 0, 1) := by decide +kernel
theorem dX5_open_17 : decode cX5_open 17 = .ok (.getfield 44, 3) := by decide +kernel
theorem dX5_open_20 : decode cX5_open 20 = .ok (.iload_n 1, 1) := by decide +kernel
theorem dX5_open_21 : decode cX5_open 21 = .ok (.baload, 1) := by decide +kernel
theorem dX5_open_22 : decode cX5_open 22 = .ok (.ifCond .ne 7, 3) := by decide +kernel
theorem dX5_open_25 : decode cX5_open 25 = .ok (.iconst 3, 1) := by decide +kernel
theorem dX5_open_26 : decode cX5_open 26 = .ok (.goto 9, 3) := by decide +kernel
theorem dX5_open_29 : decode cX5_open 29 = .ok (.aload_n 0, 1) := by decide +kernel
theorem dX5_open_30 : decode cX5_open 30 = .ok (.iload_n 1, 1) := by decide +kernel
theorem dX5_open_31 : decode cX5_open 31 = .ok (.iload_n 2, 1) := by decide +kernel
theorem dX5_open_32 : decode cX5_open 32 = .ok (.invokevirtual 136, 3) := by decide +kernel
theorem dX5_open_35 : decode cX5_open 35 = .ok (.putfield 81, 3) := by decide +kernel
theorem dX5_open_38 : decode cX5_open 38 = .ok (.aload_n 0, 1) := by decide +kernel
theorem dX5_open_39 : decode cX5_open 39 = .ok (.getfield 81, 3) := by decide +kernel
theorem dX5_open_42 : decode cX5_open 42 = .ok (.ifCond .ne 12, 3) := by decide +kernel
theorem dX5_open_45 : decode cX5_open 45 = .ok (.aload_n 0, 1) := by decide +kernel
theorem dX5_open_46 : decode cX5_open 46 = .ok (.getfield 34, 3) := by decide +kernel
theorem dX5_open_49 : decode cX5_open 49 = .ok (.iload_n 1, 1) := by decide +kernel
theorem dX5_open_50 : decode cX5_open 50 = .ok (.laload, 1) := by decide +kernel
theorem dX5_open_51 : decode cX5_open 51 = .ok (.goto 4, 3) := by decide +kernel
theorem dX5_open_54 : decode cX5_open 54 = .ok (.lconst 0, 1) := by decide +kernel
theorem dX5_open_55 : decode cX5_open 55 = .ok (.lreturn, 1) := by decide +kernel
theorem dX5_unseal_0 : decode cX5_unseal 0 = .ok (.aload_n 0, 1) := by decide +kernel
theorem dX5_unseal_1 : decode cX5_unseal 1 = .ok (.aload_n 0, 1) := by decide +kernel
theorem dX5_unseal_2 : decode cX5_unseal 2 = .ok (.iload_n 1, 1) := by decide +kernel
theorem dX5_unseal_3 : decode cX5_unseal 3 = .ok (.iconst 3, 1) := by decide +kernel
theorem dX5_unseal_4 : decode cX5_unseal 4 = .ok (.invokevirtual 109, 3) := by decide +kernel
theorem dX5_unseal_7 : decode cX5_unseal 7 = .ok (.ifCond .ne 12, 3) := by decide +kernel
theorem dX5_unseal_10 : decode cX5_unseal 10 = .ok (.aload_n 0, 1) := by decide +kernel
theorem dX5_unseal_11 : decode cX5_unseal 11 = .ok (.iload_n 2, 1) := by decide +kernel
theorem dX5_unseal_12 : decode cX5_unseal 12 = .ok (.iconst 2, 1) := by decide +kernel
theorem dX5_unseal_13 : decode cX5_unseal 13 = .ok (.invokevirtual 109, 3) := by decide +kernel
theorem dX5_unseal_16 : decode cX5_unseal 16 = .ok (.ifCond .eq 7, 3) := by decide +kernel
theorem dX5_unseal_19 : decode cX5_unseal 19 = .ok (.iconst 1, 1) := by decide +kernel
theorem dX5_unseal_20 : decode cX5_unseal 20 = .ok (.goto 4, 3) := by decide +kernel
theorem dX5_unseal_23 : decode cX5_unseal 23 = .ok (.iconst 0, 1) := by decide +kernel
theorem dX5_unseal_24 : decode cX5_unseal 24 = .ok (.invokevirtual 113, 3) := by decide +kernel
theorem dX5_unseal_27 : decode cX5_unseal 27 = .ok (.ifCond .ne 5, 3) := by decide +kernel
theorem dX5_unseal_30 : decode cX5_unseal 30 = .ok (.lconst 0, 1) := by decide +kernel
theorem dX5_unseal_31 : decode cX5_unseal 31 = .ok (.lreturn, 1) := by decide +kernel
theorem dX5_unseal_32 : decode cX5_unseal 32 = .ok (.aload_n 0, 1) := by decide +kernel
theorem dX5_unseal_33 : decode cX5_unseal 33 = .ok (.aload_n 0, 1) := by decide +kernel
theorem dX5_unseal_34 : decode cX5_unseal 34 = .ok (.getfield 44, 3) := by decide +kernel
theorem dX5_unseal_37 : decode cX5_unseal 37 = .ok (.iload_n 1, 1) := by decide +kernel
theorem dX5_unseal_38 : decode cX5_unseal 38 = .ok (.baload, 1) := by decide +kernel
theorem dX5_unseal_39 : decode cX5_unseal 39 = .ok (.ifCond .ne 7, 3) := by decide +kernel
theorem dX5_unseal_42 : decode cX5_unseal 42 = .ok (.iconst 3, 1) := by decide +kernel
theorem dX5_unseal_43 : decode cX5_unseal 43 = .ok (.goto 14, 3) := by decide +kernel
theorem dX5_unseal_46 : decode cX5_unseal 46 = .ok (.aload_n 0, 1) := by decide +kernel
theorem dX5_unseal_47 : decode cX5_unseal 47 = .ok (.iload_n 2, 1) := by decide +kernel
theorem dX5_unseal_48 : decode cX5_unseal 48 = .ok (.aload_n 0, 1) := by decide +kernel
theorem dX5_unseal_49 : decode cX5_unseal 49 = .ok (.getfield 31, 3) := by decide +kernel
theorem dX5_unseal_52 : decode cX5_unseal 52 = .ok (.iload_n 1, 1) := by decide +kernel
theorem dX5_unseal_53 : decode cX5_unseal 53 = .ok (.laload, 1) := by decide +kernel
theorem dX5_unseal_54 : decode cX5_unseal 54 = .ok (.invokevirtual 140, 3) := by decide +kernel
theorem dX5_unseal_57 : decode cX5_unseal 57 = .ok (.putfield 81, 3) := by decide +kernel
theorem dX5_unseal_60 : decode cX5_unseal 60 = .ok (.aload_n 0, 1) := by decide +kernel
theorem dX5_unseal_61 : decode cX5_unseal 61 = .ok (.getfield 81, 3) := by decide +kernel
theorem dX5_unseal_64 : decode cX5_unseal 64 = .ok (.ifCond .eq 5, 3) := by decide +kernel
theorem dX5_unseal_67 : decode cX5_unseal 67 = .ok (.lconst 0, 1) := by decide +kernel
theorem dX5_unseal_68 : decode cX5_unseal 68 = .ok (.lreturn, 1) := by decide +kernel
theorem dX5_unseal_69 : decode cX5_unseal 69 = .ok (.aload_n 0, 1) := by decide +kernel
theorem dX5_unseal_70 : decode cX5_unseal 70 = .ok (.iload_n 2, 1) := by decide +kernel
theorem dX5_unseal_71 : decode cX5_unseal 71 = .ok (.invokevirtual 105, 3) := by decide +kernel
theorem dX5_unseal_74 : decode cX5_unseal 74 = .ok (.aload_n 0, 1) := by decide +kernel
theorem dX5_unseal_75 : decode cX5_unseal 75 = .ok (.getfield 34, 3) := by decide +kernel
theorem dX5_unseal_78 : decode cX5_unseal 78 = .ok (.iload_n 1, 1) := by decide +kernel
theorem dX5_unseal_79 : decode cX5_unseal 79 = .ok (.laload, 1) := by decide +kernel
theorem dX5_unseal_80 : decode cX5_unseal 80 = .ok (.lreturn, 1) := by decide +kernel
theorem dX5_session_0 : decode cX5_session 0 = .ok (.aload_n 0, 1) := by decide +kernel
theorem dX5_session_1 : decode cX5_session 1 = .ok (.aload_n 0, 1) := by decide +kernel
theorem dX5_session_2 : decode cX5_session 2 = .ok (.iload_n 1, 1) := by decide +kernel
theorem dX5_session_3 : decode cX5_session 3 = .ok (.iconst 2, 1) := by decide +kernel
theorem dX5_session_4 : decode cX5_session 4 = .ok (.invokevirtual 109, 3) := by decide +kernel
theorem dX5_session_7 : decode cX5_session 7 = .ok (.invokevirtual 113, 3) := by decide +kernel
theorem dX5_session_10 : decode cX5_session 10 = .ok (.ifCond .eq 8, 3) := by decide +kernel
theorem dX5_session_13 : decode cX5_session 13 = .ok (.aload_n 0, 1) := by decide +kernel
theorem dX5_session_14 : decode cX5_session 14 = .ok (.iload_n 1, 1) := by decide +kernel
theorem dX5_session_15 : decode cX5_session 15 = .ok (.invokevirtual 105, 3) := by decide +kernel
theorem dX5_session_18 : decode cX5_session 18 = .ok (.return_, 1) := by decide +kernel
theorem dX5_pcr_0 : decode cX5_pcr 0 = .ok (.aload_n 0, 1) := by decide +kernel
theorem dX5_pcr_1 : decode cX5_pcr 1 = .ok (.aload_n 0, 1) := by decide +kernel
theorem dX5_pcr_2 : decode cX5_pcr 2 = .ok (.iload_n 1, 1) := by decide +kernel
theorem dX5_pcr_3 : decode cX5_pcr 3 = .ok (.iconst 2, 1) := by decide +kernel
theorem dX5_pcr_4 : decode cX5_pcr 4 = .ok (.invokevirtual 109, 3) := by decide +kernel
theorem dX5_pcr_7 : decode cX5_pcr 7 = .ok (.ifCond .ne 24, 3) := by decide +kernel
theorem dX5_pcr_10 : decode cX5_pcr 10 = .ok (.aload_n 0, 1) := by decide +kernel
theorem dX5_pcr_11 : decode cX5_pcr 11 = .ok (.iload_n 2, 1) := by decide +kernel
theorem dX5_pcr_12 : decode cX5_pcr 12 = .ok (.iconst 1, 1) := by decide +kernel
theorem dX5_pcr_13 : decode cX5_pcr 13 = .ok (.invokevirtual 109, 3) := by decide +kernel
theorem dX5_pcr_16 : decode cX5_pcr 16 = .ok (.ifCond .ne 15, 3) := by decide +kernel
theorem dX5_pcr_19 : decode cX5_pcr 19 = .ok (.iload_n 3, 1) := by decide +kernel
theorem dX5_pcr_20 : decode cX5_pcr 20 = .ok (.iconst 1, 1) := by decide +kernel
theorem dX5_pcr_21 : decode cX5_pcr 21 = .ok (.if_icmp .lt 10, 3) := by decide +kernel
theorem dX5_pcr_24 : decode cX5_pcr 24 = .ok (.iload_n 3, 1) := by decide +kernel
theorem dX5_pcr_25 : decode cX5_pcr 25 = .ok (.sipush 255, 3) := by decide +kernel
theorem dX5_pcr_28 : decode cX5_pcr 28 = .ok (.if_icmp .le 7, 3) := by decide +kernel
theorem dX5_pcr_31 : decode cX5_pcr 31 = .ok (.iconst 1, 1) := by decide +kernel
theorem dX5_pcr_32 : decode cX5_pcr 32 = .ok (.goto 4, 3) := by decide +kernel
theorem dX5_pcr_35 : decode cX5_pcr 35 = .ok (.iconst 0, 1) := by decide +kernel
theorem dX5_pcr_36 : decode cX5_pcr 36 = .ok (.invokevirtual 113, 3) := by decide +kernel
theorem dX5_pcr_39 : decode cX5_pcr 39 = .ok (.ifCond .ne 5, 3) := by decide +kernel
theorem dX5_pcr_42 : decode cX5_pcr 42 = .ok (.lconst 0, 1) := by decide +kernel
theorem dX5_pcr_43 : decode cX5_pcr 43 = .ok (.lreturn, 1) := by decide +kernel
theorem dX5_pcr_44 : decode cX5_pcr 44 = .ok (.lconst 0, 1) := by decide +kernel
theorem dX5_pcr_45 : decode cX5_pcr 45 = .ok (.lstore 4, 2) := by decide +kernel
theorem dX5_pcr_47 : decode cX5_pcr 47 = .ok (.iconst 0, 1) := by decide +kernel
theorem dX5_pcr_48 : decode cX5_pcr 48 = .ok (.istore 6, 2) := by decide +kernel
theorem dX5_pcr_50 : decode cX5_pcr 50 = .ok (.iload 6, 2) := by decide +kernel
theorem dX5_pcr_52 : decode cX5_pcr 52 = .ok (.bipush 8, 2) := by decide +kernel
theorem dX5_pcr_54 : decode cX5_pcr 54 = .ok (.if_icmp .ge 38, 3) := by decide +kernel
theorem dX5_pcr_57 : decode cX5_pcr 57 = .ok (.iload_n 3, 1) := by decide +kernel
theorem dX5_pcr_58 : decode cX5_pcr 58 = .ok (.iload 6, 2) := by decide +kernel
theorem dX5_pcr_60 : decode cX5_pcr 60 = .ok (.ishr, 1) := by decide +kernel
theorem dX5_pcr_61 : decode cX5_pcr 61 = .ok (.iconst 1, 1) := by decide +kernel
theorem dX5_pcr_62 : decode cX5_pcr 62 = .ok (.iand, 1) := by decide +kernel
theorem dX5_pcr_63 : decode cX5_pcr 63 = .ok (.ifCond .eq 23, 3) := by decide +kernel
theorem dX5_pcr_66 : decode cX5_pcr 66 = .ok (.aload_n 0, 1) := by decide +kernel
theorem dX5_pcr_67 : decode cX5_pcr 67 = .ok (.lload 4, 2) := by decide +kernel
theorem dX5_pcr_69 : decode cX5_pcr 69 = .ok (.aload_n 0, 1) := by decide +kernel
theorem dX5_pcr_70 : decode cX5_pcr 70 = .ok (.getfield 13, 3) := by decide +kernel
theorem dX5_pcr_73 : decode cX5_pcr 73 = .ok (.iload_n 2, 1) := by decide +kernel
theorem dX5_pcr_74 : decode cX5_pcr 74 = .ok (.bipush 8, 2) := by decide +kernel
theorem dX5_pcr_76 : decode cX5_pcr 76 = .ok (.imul, 1) := by decide +kernel
theorem dX5_pcr_77 : decode cX5_pcr 77 = .ok (.iload 6, 2) := by decide +kernel
theorem dX5_pcr_79 : decode cX5_pcr 79 = .ok (.iadd, 1) := by decide +kernel
theorem dX5_pcr_80 : decode cX5_pcr 80 = .ok (.laload, 1) := by decide +kernel
theorem dX5_pcr_81 : decode cX5_pcr 81 = .ok (.invokevirtual 74, 3) := by decide +kernel
theorem dX5_pcr_84 : decode cX5_pcr 84 = .ok (.lstore 4, 2) := by decide +kernel
theorem dX5_pcr_86 : decode cX5_pcr 86 = .ok (.iinc 6 1, 3) := by decide +kernel
theorem dX5_pcr_89 : decode cX5_pcr 89 = .ok (.goto (-39), 3) := by decide +kernel
theorem dX5_pcr_92 : decode cX5_pcr 92 = .ok (.aload_n 0, 1) := by decide +kernel
theorem dX5_pcr_93 : decode cX5_pcr 93 = .ok (.getfield 16, 3) := by decide +kernel
theorem dX5_pcr_96 : decode cX5_pcr 96 = .ok (.iload_n 1, 1) := by decide +kernel
theorem dX5_pcr_97 : decode cX5_pcr 97 = .ok (.aload_n 0, 1) := by decide +kernel
theorem dX5_pcr_98 : decode cX5_pcr 98 = .ok (.aload_n 0, 1) := by decide +kernel
theorem dX5_pcr_99 : decode cX5_pcr 99 = .ok (.aload_n 0, 1) := by decide +kernel
theorem dX5_pcr_100 : decode cX5_pcr 100 = .ok (.getfield 16, 3) := by decide +kernel
theorem dX5_pcr_103 : decode cX5_pcr 103 = .ok (.iload_n 1, 1) := by decide +kernel
theorem dX5_pcr_104 : decode cX5_pcr 104 = .ok (.laload, 1) := by decide +kernel
theorem dX5_pcr_105 : decode cX5_pcr 105 = .ok (.ldc2_w 144, 3) := by decide +kernel
theorem dX5_pcr_108 : decode cX5_pcr 108 = .ok (.invokevirtual 74, 3) := by decide +kernel
theorem dX5_pcr_111 : decode cX5_pcr 111 = .ok (.lload 4, 2) := by decide +kernel
theorem dX5_pcr_113 : decode cX5_pcr 113 = .ok (.invokevirtual 74, 3) := by decide +kernel
theorem dX5_pcr_116 : decode cX5_pcr 116 = .ok (.lastore, 1) := by decide +kernel
theorem dX5_pcr_117 : decode cX5_pcr 117 = .ok (.aload_n 0, 1) := by decide +kernel
theorem dX5_pcr_118 : decode cX5_pcr 118 = .ok (.getfield 54, 3) := by decide +kernel
theorem dX5_pcr_121 : decode cX5_pcr 121 = .ok (.iload_n 1, 1) := by decide +kernel
theorem dX5_pcr_122 : decode cX5_pcr 122 = .ok (.iconst 1, 1) := by decide +kernel
theorem dX5_pcr_123 : decode cX5_pcr 123 = .ok (.bastore, 1) := by decide +kernel
theorem dX5_pcr_124 : decode cX5_pcr 124 = .ok (.aload_n 0, 1) := by decide +kernel
theorem dX5_pcr_125 : decode cX5_pcr 125 = .ok (.getfield 41, 3) := by decide +kernel
theorem dX5_pcr_128 : decode cX5_pcr 128 = .ok (.iload_n 1, 1) := by decide +kernel
theorem dX5_pcr_129 : decode cX5_pcr 129 = .ok (.aload_n 0, 1) := by decide +kernel
theorem dX5_pcr_130 : decode cX5_pcr 130 = .ok (.getfield 94, 3) := by decide +kernel
theorem dX5_pcr_133 : decode cX5_pcr 133 = .ok (.iastore, 1) := by decide +kernel
theorem dX5_pcr_134 : decode cX5_pcr 134 = .ok (.aload_n 0, 1) := by decide +kernel
theorem dX5_pcr_135 : decode cX5_pcr 135 = .ok (.getfield 16, 3) := by decide +kernel
theorem dX5_pcr_138 : decode cX5_pcr 138 = .ok (.iload_n 1, 1) := by decide +kernel
theorem dX5_pcr_139 : decode cX5_pcr 139 = .ok (.laload, 1) := by decide +kernel
theorem dX5_pcr_140 : decode cX5_pcr 140 = .ok (.lreturn, 1) := by decide +kernel
theorem dX5_either_0 : decode cX5_either 0 = .ok (.aload_n 0, 1) := by decide +kernel
theorem dX5_either_1 : decode cX5_either 1 = .ok (.aload_n 0, 1) := by decide +kernel
theorem dX5_either_2 : decode cX5_either 2 = .ok (.iload_n 1, 1) := by decide +kernel
theorem dX5_either_3 : decode cX5_either 3 = .ok (.iconst 2, 1) := by decide +kernel
theorem dX5_either_4 : decode cX5_either 4 = .ok (.invokevirtual 109, 3) := by decide +kernel
theorem dX5_either_7 : decode cX5_either 7 = .ok (.invokevirtual 113, 3) := by decide +kernel
theorem dX5_either_10 : decode cX5_either 10 = .ok (.ifCond .ne 5, 3) := by decide +kernel
theorem dX5_either_13 : decode cX5_either 13 = .ok (.lconst 0, 1) := by decide +kernel
theorem dX5_either_14 : decode cX5_either 14 = .ok (.lreturn, 1) := by decide +kernel
theorem dX5_either_15 : decode cX5_either 15 = .ok (.aload_n 0, 1) := by decide +kernel
theorem dX5_either_16 : decode cX5_either 16 = .ok (.aload_n 0, 1) := by decide +kernel
theorem dX5_either_17 : decode cX5_either 17 = .ok (.getfield 16, 3) := by decide +kernel
theorem dX5_either_20 : decode cX5_either 20 = .ok (.iload_n 1, 1) := by decide +kernel
theorem dX5_either_21 : decode cX5_either 21 = .ok (.laload, 1) := by decide +kernel
theorem dX5_either_22 : decode cX5_either 22 = .ok (.lload_n 2, 1) := by decide +kernel
theorem dX5_either_23 : decode cX5_either 23 = .ok (.lcmp, 1) := by decide +kernel
theorem dX5_either_24 : decode cX5_either 24 = .ok (.ifCond .eq 19, 3) := by decide +kernel
theorem dX5_either_27 : decode cX5_either 27 = .ok (.aload_n 0, 1) := by decide +kernel
theorem dX5_either_28 : decode cX5_either 28 = .ok (.getfield 16, 3) := by decide +kernel
theorem dX5_either_31 : decode cX5_either 31 = .ok (.iload_n 1, 1) := by decide +kernel
theorem dX5_either_32 : decode cX5_either 32 = .ok (.laload, 1) := by decide +kernel
theorem dX5_either_33 : decode cX5_either 33 = .ok (.lload 4, 2) := by decide +kernel
theorem dX5_either_35 : decode cX5_either 35 = .ok (.lcmp, 1) := by decide +kernel
theorem dX5_either_36 : decode cX5_either 36 = .ok (.ifCond .eq 7, 3) := by decide +kernel
theorem dX5_either_39 : decode cX5_either 39 = .ok (.iconst 3, 1) := by decide +kernel
theorem dX5_either_40 : decode cX5_either 40 = .ok (.goto 4, 3) := by decide +kernel
theorem dX5_either_43 : decode cX5_either 43 = .ok (.iconst 0, 1) := by decide +kernel
theorem dX5_either_44 : decode cX5_either 44 = .ok (.putfield 81, 3) := by decide +kernel
theorem dX5_either_47 : decode cX5_either 47 = .ok (.aload_n 0, 1) := by decide +kernel
theorem dX5_either_48 : decode cX5_either 48 = .ok (.getfield 81, 3) := by decide +kernel
theorem dX5_either_51 : decode cX5_either 51 = .ok (.ifCond .eq 5, 3) := by decide +kernel
theorem dX5_either_54 : decode cX5_either 54 = .ok (.lconst 0, 1) := by decide +kernel
theorem dX5_either_55 : decode cX5_either 55 = .ok (.lreturn, 1) := by decide +kernel
theorem dX5_either_56 : decode cX5_either 56 = .ok (.aload_n 0, 1) := by decide +kernel
theorem dX5_either_57 : decode cX5_either 57 = .ok (.getfield 16, 3) := by decide +kernel
theorem dX5_either_60 : decode cX5_either 60 = .ok (.iload_n 1, 1) := by decide +kernel
theorem dX5_either_61 : decode cX5_either 61 = .ok (.aload_n 0, 1) := by decide +kernel
theorem dX5_either_62 : decode cX5_either 62 = .ok (.ldc2_w 146, 3) := by decide +kernel
theorem dX5_either_65 : decode cX5_either 65 = .ok (.aload_n 0, 1) := by decide +kernel
theorem dX5_either_66 : decode cX5_either 66 = .ok (.lload_n 2, 1) := by decide +kernel
theorem dX5_either_67 : decode cX5_either 67 = .ok (.lload 4, 2) := by decide +kernel
theorem dX5_either_69 : decode cX5_either 69 = .ok (.invokevirtual 74, 3) := by decide +kernel
theorem dX5_either_72 : decode cX5_either 72 = .ok (.invokevirtual 74, 3) := by decide +kernel
theorem dX5_either_75 : decode cX5_either 75 = .ok (.lastore, 1) := by decide +kernel
theorem dX5_either_76 : decode cX5_either 76 = .ok (.aload_n 0, 1) := by decide +kernel
theorem dX5_either_77 : decode cX5_either 77 = .ok (.getfield 16, 3) := by decide +kernel
theorem dX5_either_80 : decode cX5_either 80 = .ok (.iload_n 1, 1) := by decide +kernel
theorem dX5_either_81 : decode cX5_either 81 = .ok (.laload, 1) := by decide +kernel
theorem dX5_either_82 : decode cX5_either 82 = .ok (.lreturn, 1) := by decide +kernel
theorem dX5_with_0 : decode cX5_with 0 = .ok (.aload_n 0, 1) := by decide +kernel
theorem dX5_with_1 : decode cX5_with 1 = .ok (.aload_n 0, 1) := by decide +kernel
theorem dX5_with_2 : decode cX5_with 2 = .ok (.iload_n 1, 1) := by decide +kernel
theorem dX5_with_3 : decode cX5_with 3 = .ok (.iconst 2, 1) := by decide +kernel
theorem dX5_with_4 : decode cX5_with 4 = .ok (.invokevirtual 109, 3) := by decide +kernel
theorem dX5_with_7 : decode cX5_with 7 = .ok (.ifCond .ne 12, 3) := by decide +kernel
theorem dX5_with_10 : decode cX5_with 10 = .ok (.aload_n 0, 1) := by decide +kernel
theorem dX5_with_11 : decode cX5_with 11 = .ok (.iload_n 2, 1) := by decide +kernel
theorem dX5_with_12 : decode cX5_with 12 = .ok (.iconst 3, 1) := by decide +kernel
theorem dX5_with_13 : decode cX5_with 13 = .ok (.invokevirtual 109, 3) := by decide +kernel
theorem dX5_with_16 : decode cX5_with 16 = .ok (.ifCond .eq 7, 3) := by decide +kernel
theorem dX5_with_19 : decode cX5_with 19 = .ok (.iconst 1, 1) := by decide +kernel
theorem dX5_with_20 : decode cX5_with 20 = .ok (.goto 4, 3) := by decide +kernel
theorem dX5_with_23 : decode cX5_with 23 = .ok (.iconst 0, 1) := by decide +kernel
theorem dX5_with_24 : decode cX5_with 24 = .ok (.invokevirtual 113, 3) := by decide +kernel
theorem dX5_with_27 : decode cX5_with 27 = .ok (.ifCond .ne 5, 3) := by decide +kernel
theorem dX5_with_30 : decode cX5_with 30 = .ok (.lconst 0, 1) := by decide +kernel
theorem dX5_with_31 : decode cX5_with 31 = .ok (.lreturn, 1) := by decide +kernel
theorem dX5_with_32 : decode cX5_with 32 = .ok (.aload_n 0, 1) := by decide +kernel
theorem dX5_with_33 : decode cX5_with 33 = .ok (.aload_n 0, 1) := by decide +kernel
theorem dX5_with_34 : decode cX5_with 34 = .ok (.getfield 44, 3) := by decide +kernel
theorem dX5_with_37 : decode cX5_with 37 = .ok (.iload_n 2, 1) := by decide +kernel
theorem dX5_with_38 : decode cX5_with 38 = .ok (.baload, 1) := by decide +kernel
theorem dX5_with_39 : decode cX5_with 39 = .ok (.ifCond .ne 7, 3) := by decide +kernel
theorem dX5_with_42 : decode cX5_with 42 = .ok (.iconst 3, 1) := by decide +kernel
theorem dX5_with_43 : decode cX5_with 43 = .ok (.goto 9, 3) := by decide +kernel
theorem dX5_with_46 : decode cX5_with 46 = .ok (.aload_n 0, 1) := by decide +kernel
theorem dX5_with_47 : decode cX5_with 47 = .ok (.iload_n 2, 1) := by decide +kernel
theorem dX5_with_48 : decode cX5_with 48 = .ok (.iload_n 3, 1) := by decide +kernel
theorem dX5_with_49 : decode cX5_with 49 = .ok (.invokevirtual 136, 3) := by decide +kernel
theorem dX5_with_52 : decode cX5_with 52 = .ok (.putfield 81, 3) := by decide +kernel
theorem dX5_with_55 : decode cX5_with 55 = .ok (.aload_n 0, 1) := by decide +kernel
theorem dX5_with_56 : decode cX5_with 56 = .ok (.getfield 81, 3) := by decide +kernel
theorem dX5_with_59 : decode cX5_with 59 = .ok (.ifCond .eq 5, 3) := by decide +kernel
theorem dX5_with_62 : decode cX5_with 62 = .ok (.lconst 0, 1) := by decide +kernel
theorem dX5_with_63 : decode cX5_with 63 = .ok (.lreturn, 1) := by decide +kernel
theorem dX5_with_64 : decode cX5_with 64 = .ok (.aload_n 0, 1) := by decide +kernel
theorem dX5_with_65 : decode cX5_with 65 = .ok (.getfield 16, 3) := by decide +kernel
theorem dX5_with_68 : decode cX5_with 68 = .ok (.iload_n 1, 1) := by decide +kernel
theorem dX5_with_69 : decode cX5_with 69 = .ok (.aload_n 0, 1) := by decide +kernel
theorem dX5_with_70 : decode cX5_with 70 = .ok (.aload_n 0, 1) := by decide +kernel
theorem dX5_with_71 : decode cX5_with 71 = .ok (.aload_n 0, 1) := by decide +kernel
theorem dX5_with_72 : decode cX5_with 72 = .ok (.getfield 16, 3) := by decide +kernel
theorem dX5_with_75 : decode cX5_with 75 = .ok (.iload_n 1, 1) := by decide +kernel
theorem dX5_with_76 : decode cX5_with 76 = .ok (.laload, 1) := by decide +kernel
theorem dX5_with_77 : decode cX5_with 77 = .ok (.ldc2_w 148, 3) := by decide +kernel
theorem dX5_with_80 : decode cX5_with 80 = .ok (.invokevirtual 74, 3) := by decide +kernel
theorem dX5_with_83 : decode cX5_with 83 = .ok (.aload_n 0, 1) := by decide +kernel
theorem dX5_with_84 : decode cX5_with 84 = .ok (.iload_n 2, 1) := by decide +kernel
theorem dX5_with_85 : decode cX5_with 85 = .ok (.invokevirtual 150, 3) := by decide +kernel
theorem dX5_with_88 : decode cX5_with 88 = .ok (.invokevirtual 74, 3) := by decide +kernel
theorem dX5_with_91 : decode cX5_with 91 = .ok (.lastore, 1) := by decide +kernel
theorem dX5_with_92 : decode cX5_with 92 = .ok (.aload_n 0, 1) := by decide +kernel
theorem dX5_with_93 : decode cX5_with 93 = .ok (.getfield 16, 3) := by decide +kernel
theorem dX5_with_96 : decode cX5_with 96 = .ok (.iload_n 1, 1) := by decide +kernel
theorem dX5_with_97 : decode cX5_with 97 = .ok (.laload, 1) := by decide +kernel
theorem dX5_with_98 : decode cX5_with 98 = .ok (.lreturn, 1) := by decide +kernel
theorem dX5_lasts_0 : decode cX5_lasts 0 = .ok (.aload_n 0, 1) := by decide +kernel
theorem dX5_lasts_1 : decode cX5_lasts 1 = .ok (.getfield 66, 3) := by decide +kernel
theorem dX5_lasts_4 : decode cX5_lasts 4 = .ok (.ifCond .ge 5, 3) := by decide +kernel
theorem dX5_lasts_7 : decode cX5_lasts 7 = .ok (.iconst 1, 1) := by decide +kernel
theorem dX5_lasts_8 : decode cX5_lasts 8 = .ok (.ireturn, 1) := by decide +kernel
theorem dX5_lasts_9 : decode cX5_lasts 9 = .ok (.aload_n 0, 1) := by decide +kernel
theorem dX5_lasts_10 : decode cX5_lasts 10 = .ok (.getfield 66, 3) := by decide +kernel
theorem dX5_lasts_13 : decode cX5_lasts 13 = .ok (.iload_n 1, 1) := by decide +kernel
theorem dX5_lasts_14 : decode cX5_lasts 14 = .ok (.if_icmp .lt 7, 3) := by decide +kernel
theorem dX5_lasts_17 : decode cX5_lasts 17 = .ok (.iconst 1, 1) := by decide +kernel
theorem dX5_lasts_18 : decode cX5_lasts 18 = .ok (.goto 4, 3) := by decide +kernel
theorem dX5_lasts_21 : decode cX5_lasts 21 = .ok (.iconst 0, 1) := by decide +kernel
theorem dX5_lasts_22 : decode cX5_lasts 22 = .ok (.istore_n 2, 1) := by decide +kernel
theorem dX5_lasts_23 : decode cX5_lasts 23 = .ok (.aload_n 0, 1) := by decide +kernel
theorem dX5_lasts_24 : decode cX5_lasts 24 = .ok (.iload_n 2, 1) := by decide +kernel
theorem dX5_lasts_25 : decode cX5_lasts 25 = .ok (.ifCond .eq 12, 3) := by decide +kernel
theorem dX5_lasts_28 : decode cX5_lasts 28 = .ok (.aload_n 0, 1) := by decide +kernel
theorem dX5_lasts_29 : decode cX5_lasts 29 = .ok (.getfield 66, 3) := by decide +kernel
theorem dX5_lasts_32 : decode cX5_lasts 32 = .ok (.iload_n 1, 1) := by decide +kernel
theorem dX5_lasts_33 : decode cX5_lasts 33 = .ok (.isub, 1) := by decide +kernel
theorem dX5_lasts_34 : decode cX5_lasts 34 = .ok (.goto 4, 3) := by decide +kernel
theorem dX5_lasts_37 : decode cX5_lasts 37 = .ok (.iconst 0, 1) := by decide +kernel
theorem dX5_lasts_38 : decode cX5_lasts 38 = .ok (.putfield 66, 3) := by decide +kernel
theorem dX5_lasts_41 : decode cX5_lasts 41 = .ok (.iload_n 2, 1) := by decide +kernel
theorem dX5_lasts_42 : decode cX5_lasts 42 = .ok (.ifCond .eq 5, 3) := by decide +kernel
theorem dX5_lasts_45 : decode cX5_lasts 45 = .ok (.iconst 1, 1) := by decide +kernel
theorem dX5_lasts_46 : decode cX5_lasts 46 = .ok (.ireturn, 1) := by decide +kernel
theorem dX5_lasts_47 : decode cX5_lasts 47 = .ok (.aload_n 0, 1) := by decide +kernel
theorem dX5_lasts_48 : decode cX5_lasts 48 = .ok (.iconst 1, 1) := by decide +kernel
theorem dX5_lasts_49 : decode cX5_lasts 49 = .ok (.putfield 90, 3) := by decide +kernel
theorem dX5_lasts_52 : decode cX5_lasts 52 = .ok (.aload_n 0, 1) := by decide +kernel
theorem dX5_lasts_53 : decode cX5_lasts 53 = .ok (.dup, 1) := by decide +kernel
theorem dX5_lasts_54 : decode cX5_lasts 54 = .ok (.getfield 154, 3) := by decide +kernel
theorem dX5_lasts_57 : decode cX5_lasts 57 = .ok (.iconst 1, 1) := by decide +kernel
theorem dX5_lasts_58 : decode cX5_lasts 58 = .ok (.iadd, 1) := by decide +kernel
theorem dX5_lasts_59 : decode cX5_lasts 59 = .ok (.putfield 154, 3) := by decide +kernel
theorem dX5_lasts_62 : decode cX5_lasts 62 = .ok (.aload_n 0, 1) := by decide +kernel
theorem dX5_lasts_63 : decode cX5_lasts 63 = .ok (.iconst 2, 1) := by decide +kernel
theorem dX5_lasts_64 : decode cX5_lasts 64 = .ok (.putfield 81, 3) := by decide +kernel
theorem dX5_lasts_67 : decode cX5_lasts 67 = .ok (.iconst 0, 1) := by decide +kernel
theorem dX5_lasts_68 : decode cX5_lasts 68 = .ok (.ireturn, 1) := by decide +kernel
theorem dX5_define_0 : decode cX5_define 0 = .ok (.aload_n 0, 1) := by decide +kernel
theorem dX5_define_1 : decode cX5_define 1 = .ok (.aload_n 0, 1) := by decide +kernel
theorem dX5_define_2 : decode cX5_define 2 = .ok (.iload_n 1, 1) := by decide +kernel
theorem dX5_define_3 : decode cX5_define 3 = .ok (.iconst 3, 1) := by decide +kernel
theorem dX5_define_4 : decode cX5_define 4 = .ok (.invokevirtual 109, 3) := by decide +kernel
theorem dX5_define_7 : decode cX5_define 7 = .ok (.invokevirtual 113, 3) := by decide +kernel
theorem dX5_define_10 : decode cX5_define 10 = .ok (.ifCond .ne 4, 3) := by decide +kernel
theorem dX5_define_13 : decode cX5_define 13 = .ok (.return_, 1) := by decide +kernel
theorem dX5_define_14 : decode cX5_define 14 = .ok (.aload_n 0, 1) := by decide +kernel
theorem dX5_define_15 : decode cX5_define 15 = .ok (.getfield 57, 3) := by decide +kernel
theorem dX5_define_18 : decode cX5_define 18 = .ok (.iload_n 1, 1) := by decide +kernel
theorem dX5_define_19 : decode cX5_define 19 = .ok (.baload, 1) := by decide +kernel
theorem dX5_define_20 : decode cX5_define 20 = .ok (.ifCond .eq 8, 3) := by decide +kernel
theorem dX5_define_23 : decode cX5_define 23 = .ok (.aload_n 0, 1) := by decide +kernel
theorem dX5_define_24 : decode cX5_define 24 = .ok (.iconst 2, 1) := by decide +kernel
theorem dX5_define_25 : decode cX5_define 25 = .ok (.putfield 81, 3) := by decide +kernel
theorem dX5_define_28 : decode cX5_define 28 = .ok (.aload_n 0, 1) := by decide +kernel
theorem dX5_define_29 : decode cX5_define 29 = .ok (.getfield 81, 3) := by decide +kernel
theorem dX5_define_32 : decode cX5_define 32 = .ok (.ifCond .ne 11, 3) := by decide +kernel
theorem dX5_define_35 : decode cX5_define 35 = .ok (.aload_n 0, 1) := by decide +kernel
theorem dX5_define_36 : decode cX5_define 36 = .ok (.iconst 2, 1) := by decide +kernel
theorem dX5_define_37 : decode cX5_define 37 = .ok (.invokevirtual 157, 3) := by decide +kernel
theorem dX5_define_40 : decode cX5_define 40 = .ok (.ifCond .ne 4, 3) := by decide +kernel
theorem dX5_define_43 : decode cX5_define 43 = .ok (.return_, 1) := by decide +kernel
theorem dX5_define_44 : decode cX5_define 44 = .ok (.aload_n 0, 1) := by decide +kernel
theorem dX5_define_45 : decode cX5_define 45 = .ok (.getfield 57, 3) := by decide +kernel
theorem dX5_define_48 : decode cX5_define 48 = .ok (.iload_n 1, 1) := by decide +kernel
theorem dX5_define_49 : decode cX5_define 49 = .ok (.iconst 1, 1) := by decide +kernel
theorem dX5_define_50 : decode cX5_define 50 = .ok (.bastore, 1) := by decide +kernel
theorem dX5_define_51 : decode cX5_define 51 = .ok (.aload_n 0, 1) := by decide +kernel
theorem dX5_define_52 : decode cX5_define 52 = .ok (.getfield 60, 3) := by decide +kernel
theorem dX5_define_55 : decode cX5_define 55 = .ok (.iload_n 1, 1) := by decide +kernel
theorem dX5_define_56 : decode cX5_define 56 = .ok (.iload_n 2, 1) := by decide +kernel
theorem dX5_define_57 : decode cX5_define 57 = .ok (.bastore, 1) := by decide +kernel
theorem dX5_define_58 : decode cX5_define 58 = .ok (.aload_n 0, 1) := by decide +kernel
theorem dX5_define_59 : decode cX5_define 59 = .ok (.getfield 63, 3) := by decide +kernel
theorem dX5_define_62 : decode cX5_define 62 = .ok (.iload_n 1, 1) := by decide +kernel
theorem dX5_define_63 : decode cX5_define 63 = .ok (.iconst 0, 1) := by decide +kernel
theorem dX5_define_64 : decode cX5_define 64 = .ok (.bastore, 1) := by decide +kernel
theorem dX5_define_65 : decode cX5_define 65 = .ok (.aload_n 0, 1) := by decide +kernel
theorem dX5_define_66 : decode cX5_define 66 = .ok (.getfield 22, 3) := by decide +kernel
theorem dX5_define_69 : decode cX5_define 69 = .ok (.iload_n 1, 1) := by decide +kernel
theorem dX5_define_70 : decode cX5_define 70 = .ok (.lconst 0, 1) := by decide +kernel
theorem dX5_define_71 : decode cX5_define 71 = .ok (.lastore, 1) := by decide +kernel
theorem dX5_define_72 : decode cX5_define 72 = .ok (.aload_n 0, 1) := by decide +kernel
theorem dX5_define_73 : decode cX5_define 73 = .ok (.getfield 25, 3) := by decide +kernel
theorem dX5_define_76 : decode cX5_define 76 = .ok (.iload_n 1, 1) := by decide +kernel
theorem dX5_define_77 : decode cX5_define 77 = .ok (.lload_n 3, 1) := by decide +kernel
theorem dX5_define_78 : decode cX5_define 78 = .ok (.lastore, 1) := by decide +kernel
theorem dX5_define_79 : decode cX5_define 79 = .ok (.return_, 1) := by decide +kernel
theorem dX5_remove_0 : decode cX5_remove 0 = .ok (.aload_n 0, 1) := by decide +kernel
theorem dX5_remove_1 : decode cX5_remove 1 = .ok (.aload_n 0, 1) := by decide +kernel
theorem dX5_remove_2 : decode cX5_remove 2 = .ok (.iload_n 1, 1) := by decide +kernel
theorem dX5_remove_3 : decode cX5_remove 3 = .ok (.iconst 3, 1) := by decide +kernel
theorem dX5_remove_4 : decode cX5_remove 4 = .ok (.invokevirtual 109, 3) := by decide +kernel
theorem dX5_remove_7 : decode cX5_remove 7 = .ok (.invokevirtual 113, 3) := by decide +kernel
theorem dX5_remove_10 : decode cX5_remove 10 = .ok (.ifCond .ne 4, 3) := by decide +kernel
theorem dX5_remove_13 : decode cX5_remove 13 = .ok (.return_, 1) := by decide +kernel
theorem dX5_remove_14 : decode cX5_remove 14 = .ok (.aload_n 0, 1) := by decide +kernel
theorem dX5_remove_15 : decode cX5_remove 15 = .ok (.getfield 57, 3) := by decide +kernel
theorem dX5_remove_18 : decode cX5_remove 18 = .ok (.iload_n 1, 1) := by decide +kernel
theorem dX5_remove_19 : decode cX5_remove 19 = .ok (.baload, 1) := by decide +kernel
theorem dX5_remove_20 : decode cX5_remove 20 = .ok (.ifCond .ne 8, 3) := by decide +kernel
theorem dX5_remove_23 : decode cX5_remove 23 = .ok (.aload_n 0, 1) := by decide +kernel
theorem dX5_remove_24 : decode cX5_remove 24 = .ok (.iconst 3, 1) := by decide +kernel
theorem dX5_remove_25 : decode cX5_remove 25 = .ok (.putfield 81, 3) := by decide +kernel
theorem dX5_remove_28 : decode cX5_remove 28 = .ok (.aload_n 0, 1) := by decide +kernel
theorem dX5_remove_29 : decode cX5_remove 29 = .ok (.getfield 81, 3) := by decide +kernel
theorem dX5_remove_32 : decode cX5_remove 32 = .ok (.ifCond .ne 18, 3) := by decide +kernel
theorem dX5_remove_35 : decode cX5_remove 35 = .ok (.aload_n 0, 1) := by decide +kernel
theorem dX5_remove_36 : decode cX5_remove 36 = .ok (.iconst 2, 1) := by decide +kernel
theorem dX5_remove_37 : decode cX5_remove 37 = .ok (.invokevirtual 157, 3) := by decide +kernel
theorem dX5_remove_40 : decode cX5_remove 40 = .ok (.ifCond .eq 10, 3) := by decide +kernel
theorem dX5_remove_43 : decode cX5_remove 43 = .ok (.aload_n 0, 1) := by decide +kernel
theorem dX5_remove_44 : decode cX5_remove 44 = .ok (.getfield 57, 3) := by decide +kernel
theorem dX5_remove_47 : decode cX5_remove 47 = .ok (.iload_n 1, 1) := by decide +kernel
theorem dX5_remove_48 : decode cX5_remove 48 = .ok (.iconst 0, 1) := by decide +kernel
theorem dX5_remove_49 : decode cX5_remove 49 = .ok (.bastore, 1) := by decide +kernel
theorem dX5_remove_50 : decode cX5_remove 50 = .ok (.return_, 1) := by decide +kernel
theorem dX5_write_0 : decode cX5_write 0 = .ok (.aload_n 0, 1) := by decide +kernel
theorem dX5_write_1 : decode cX5_write 1 = .ok (.aload_n 0, 1) := by decide +kernel
theorem dX5_write_2 : decode cX5_write 2 = .ok (.iload_n 1, 1) := by decide +kernel
theorem dX5_write_3 : decode cX5_write 3 = .ok (.iconst 3, 1) := by decide +kernel
theorem dX5_write_4 : decode cX5_write 4 = .ok (.invokevirtual 109, 3) := by decide +kernel
theorem dX5_write_7 : decode cX5_write 7 = .ok (.ifCond .ne 12, 3) := by decide +kernel
theorem dX5_write_10 : decode cX5_write 10 = .ok (.aload_n 0, 1) := by decide +kernel
theorem dX5_write_11 : decode cX5_write 11 = .ok (.iload_n 2, 1) := by decide +kernel
theorem dX5_write_12 : decode cX5_write 12 = .ok (.iconst 2, 1) := by decide +kernel
theorem dX5_write_13 : decode cX5_write 13 = .ok (.invokevirtual 109, 3) := by decide +kernel
theorem dX5_write_16 : decode cX5_write 16 = .ok (.ifCond .eq 7, 3) := by decide +kernel
theorem dX5_write_19 : decode cX5_write 19 = .ok (.iconst 1, 1) := by decide +kernel
theorem dX5_write_20 : decode cX5_write 20 = .ok (.goto 4, 3) := by decide +kernel
theorem dX5_write_23 : decode cX5_write 23 = .ok (.iconst 0, 1) := by decide +kernel
theorem dX5_write_24 : decode cX5_write 24 = .ok (.invokevirtual 113, 3) := by decide +kernel
theorem dX5_write_27 : decode cX5_write 27 = .ok (.ifCond .ne 5, 3) := by decide +kernel
theorem dX5_write_30 : decode cX5_write 30 = .ok (.lconst 0, 1) := by decide +kernel
theorem dX5_write_31 : decode cX5_write 31 = .ok (.lreturn, 1) := by decide +kernel
theorem dX5_write_32 : decode cX5_write 32 = .ok (.aload_n 0, 1) := by decide +kernel
theorem dX5_write_33 : decode cX5_write 33 = .ok (.aload_n 0, 1) := by decide +kernel
theorem dX5_write_34 : decode cX5_write 34 = .ok (.getfield 57, 3) := by decide +kernel
theorem dX5_write_37 : decode cX5_write 37 = .ok (.iload_n 1, 1) := by decide +kernel
theorem dX5_write_38 : decode cX5_write 38 = .ok (.baload, 1) := by decide +kernel
theorem dX5_write_39 : decode cX5_write 39 = .ok (.ifCond .ne 7, 3) := by decide +kernel
theorem dX5_write_42 : decode cX5_write 42 = .ok (.iconst 3, 1) := by decide +kernel
theorem dX5_write_43 : decode cX5_write 43 = .ok (.goto 29, 3) := by decide +kernel
theorem dX5_write_46 : decode cX5_write 46 = .ok (.aload_n 0, 1) := by decide +kernel
theorem dX5_write_47 : decode cX5_write 47 = .ok (.getfield 25, 3) := by decide +kernel
theorem dX5_write_50 : decode cX5_write 50 = .ok (.iload_n 1, 1) := by decide +kernel
theorem dX5_write_51 : decode cX5_write 51 = .ok (.laload, 1) := by decide +kernel
theorem dX5_write_52 : decode cX5_write 52 = .ok (.lconst 0, 1) := by decide +kernel
theorem dX5_write_53 : decode cX5_write 53 = .ok (.lcmp, 1) := by decide +kernel
theorem dX5_write_54 : decode cX5_write 54 = .ok (.ifCond .eq 17, 3) := by decide +kernel
theorem dX5_write_57 : decode cX5_write 57 = .ok (.aload_n 0, 1) := by decide +kernel
theorem dX5_write_58 : decode cX5_write 58 = .ok (.iload_n 2, 1) := by decide +kernel
theorem dX5_write_59 : decode cX5_write 59 = .ok (.aload_n 0, 1) := by decide +kernel
theorem dX5_write_60 : decode cX5_write 60 = .ok (.getfield 25, 3) := by decide +kernel
theorem dX5_write_63 : decode cX5_write 63 = .ok (.iload_n 1, 1) := by decide +kernel
theorem dX5_write_64 : decode cX5_write 64 = .ok (.laload, 1) := by decide +kernel
theorem dX5_write_65 : decode cX5_write 65 = .ok (.invokevirtual 140, 3) := by decide +kernel
theorem dX5_write_68 : decode cX5_write 68 = .ok (.goto 4, 3) := by decide +kernel
theorem dX5_write_71 : decode cX5_write 71 = .ok (.iconst 0, 1) := by decide +kernel
theorem dX5_write_72 : decode cX5_write 72 = .ok (.putfield 81, 3) := by decide +kernel
theorem dX5_write_75 : decode cX5_write 75 = .ok (.aload_n 0, 1) := by decide +kernel
theorem dX5_write_76 : decode cX5_write 76 = .ok (.getfield 81, 3) := by decide +kernel
theorem dX5_write_79 : decode cX5_write 79 = .ok (.ifCond .ne 11, 3) := by decide +kernel
theorem dX5_write_82 : decode cX5_write 82 = .ok (.aload_n 0, 1) := by decide +kernel
theorem dX5_write_83 : decode cX5_write 83 = .ok (.iconst 3, 1) := by decide +kernel
theorem dX5_write_84 : decode cX5_write 84 = .ok (.invokevirtual 157, 3) := by decide +kernel
theorem dX5_write_87 : decode cX5_write 87 = .ok (.ifCond .ne 5, 3) := by decide +kernel
theorem dX5_write_90 : decode cX5_write 90 = .ok (.lconst 0, 1) := by decide +kernel
theorem dX5_write_91 : decode cX5_write 91 = .ok (.lreturn, 1) := by decide +kernel
theorem dX5_write_92 : decode cX5_write 92 = .ok (.aload_n 0, 1) := by decide +kernel
theorem dX5_write_93 : decode cX5_write 93 = .ok (.getfield 25, 3) := by decide +kernel
theorem dX5_write_96 : decode cX5_write 96 = .ok (.iload_n 1, 1) := by decide +kernel
theorem dX5_write_97 : decode cX5_write 97 = .ok (.laload, 1) := by decide +kernel
theorem dX5_write_98 : decode cX5_write 98 = .ok (.lconst 0, 1) := by decide +kernel
theorem dX5_write_99 : decode cX5_write 99 = .ok (.lcmp, 1) := by decide +kernel
theorem dX5_write_100 : decode cX5_write 100 = .ok (.ifCond .eq 8, 3) := by decide +kernel
theorem dX5_write_103 : decode cX5_write 103 = .ok (.aload_n 0, 1) := by decide +kernel
theorem dX5_write_104 : decode cX5_write 104 = .ok (.iload_n 2, 1) := by decide +kernel
theorem dX5_write_105 : decode cX5_write 105 = .ok (.invokevirtual 105, 3) := by decide +kernel
theorem dX5_write_108 : decode cX5_write 108 = .ok (.aload_n 0, 1) := by decide +kernel
theorem dX5_write_109 : decode cX5_write 109 = .ok (.getfield 60, 3) := by decide +kernel
theorem dX5_write_112 : decode cX5_write 112 = .ok (.iload_n 1, 1) := by decide +kernel
theorem dX5_write_113 : decode cX5_write 113 = .ok (.baload, 1) := by decide +kernel
theorem dX5_write_114 : decode cX5_write 114 = .ok (.ifCond .eq 13, 3) := by decide +kernel
theorem dX5_write_117 : decode cX5_write 117 = .ok (.aload_n 0, 1) := by decide +kernel
theorem dX5_write_118 : decode cX5_write 118 = .ok (.dup, 1) := by decide +kernel
theorem dX5_write_119 : decode cX5_write 119 = .ok (.getfield 161, 3) := by decide +kernel
theorem dX5_write_122 : decode cX5_write 122 = .ok (.lconst 1, 1) := by decide +kernel
theorem dX5_write_123 : decode cX5_write 123 = .ok (.ladd, 1) := by decide +kernel
theorem dX5_write_124 : decode cX5_write 124 = .ok (.putfield 161, 3) := by decide +kernel
theorem dX5_write_127 : decode cX5_write 127 = .ok (.aload_n 0, 1) := by decide +kernel
theorem dX5_write_128 : decode cX5_write 128 = .ok (.getfield 22, 3) := by decide +kernel
theorem dX5_write_131 : decode cX5_write 131 = .ok (.iload_n 1, 1) := by decide +kernel
theorem dX5_write_132 : decode cX5_write 132 = .ok (.aload_n 0, 1) := by decide +kernel
theorem dX5_write_133 : decode cX5_write 133 = .ok (.getfield 60, 3) := by decide +kernel
theorem dX5_write_136 : decode cX5_write 136 = .ok (.iload_n 1, 1) := by decide +kernel
theorem dX5_write_137 : decode cX5_write 137 = .ok (.baload, 1) := by decide +kernel
theorem dX5_write_138 : decode cX5_write 138 = .ok (.ifCond .eq 10, 3) := by decide +kernel
theorem dX5_write_141 : decode cX5_write 141 = .ok (.aload_n 0, 1) := by decide +kernel
theorem dX5_write_142 : decode cX5_write 142 = .ok (.getfield 161, 3) := by decide +kernel
theorem dX5_write_145 : decode cX5_write 145 = .ok (.goto 4, 3) := by decide +kernel
theorem dX5_write_148 : decode cX5_write 148 = .ok (.lload_n 3, 1) := by decide +kernel
theorem dX5_write_149 : decode cX5_write 149 = .ok (.lastore, 1) := by decide +kernel
theorem dX5_write_150 : decode cX5_write 150 = .ok (.aload_n 0, 1) := by decide +kernel
theorem dX5_write_151 : decode cX5_write 151 = .ok (.getfield 63, 3) := by decide +kernel
theorem dX5_write_154 : decode cX5_write 154 = .ok (.iload_n 1, 1) := by decide +kernel
theorem dX5_write_155 : decode cX5_write 155 = .ok (.iconst 1, 1) := by decide +kernel
theorem dX5_write_156 : decode cX5_write 156 = .ok (.bastore, 1) := by decide +kernel
theorem dX5_write_157 : decode cX5_write 157 = .ok (.aload_n 0, 1) := by decide +kernel
theorem dX5_write_158 : decode cX5_write 158 = .ok (.getfield 22, 3) := by decide +kernel
theorem dX5_write_161 : decode cX5_write 161 = .ok (.iload_n 1, 1) := by decide +kernel
theorem dX5_write_162 : decode cX5_write 162 = .ok (.laload, 1) := by decide +kernel
theorem dX5_write_163 : decode cX5_write 163 = .ok (.lreturn, 1) := by decide +kernel
theorem dX5_read_0 : decode cX5_read 0 = .ok (.aload_n 0, 1) := by decide +kernel
theorem dX5_read_1 : decode cX5_read 1 = .ok (.aload_n 0, 1) := by decide +kernel
theorem dX5_read_2 : decode cX5_read 2 = .ok (.iload_n 1, 1) := by decide +kernel
theorem dX5_read_3 : decode cX5_read 3 = .ok (.iconst 3, 1) := by decide +kernel
theorem dX5_read_4 : decode cX5_read 4 = .ok (.invokevirtual 109, 3) := by decide +kernel
theorem dX5_read_7 : decode cX5_read 7 = .ok (.invokevirtual 113, 3) := by decide +kernel
theorem dX5_read_10 : decode cX5_read 10 = .ok (.ifCond .ne 5, 3) := by decide +kernel
theorem dX5_read_13 : decode cX5_read 13 = .ok (.lconst 0, 1) := by decide +kernel
theorem dX5_read_14 : decode cX5_read 14 = .ok (.lreturn, 1) := by decide +kernel
theorem dX5_read_15 : decode cX5_read 15 = .ok (.aload_n 0, 1) := by decide +kernel
theorem dX5_read_16 : decode cX5_read 16 = .ok (.getfield 57, 3) := by decide +kernel
theorem dX5_read_19 : decode cX5_read 19 = .ok (.iload_n 1, 1) := by decide +kernel
theorem dX5_read_20 : decode cX5_read 20 = .ok (.baload, 1) := by decide +kernel
theorem dX5_read_21 : decode cX5_read 21 = .ok (.ifCond .eq 12, 3) := by decide +kernel
theorem dX5_read_24 : decode cX5_read 24 = .ok (.aload_n 0, 1) := by decide +kernel
theorem dX5_read_25 : decode cX5_read 25 = .ok (.getfield 63, 3) := by decide +kernel
theorem dX5_read_28 : decode cX5_read 28 = .ok (.iload_n 1, 1) := by decide +kernel
theorem dX5_read_29 : decode cX5_read 29 = .ok (.baload, 1) := by decide +kernel
theorem dX5_read_30 : decode cX5_read 30 = .ok (.ifCond .ne 8, 3) := by decide +kernel
theorem dX5_read_33 : decode cX5_read 33 = .ok (.aload_n 0, 1) := by decide +kernel
theorem dX5_read_34 : decode cX5_read 34 = .ok (.iconst 3, 1) := by decide +kernel
theorem dX5_read_35 : decode cX5_read 35 = .ok (.putfield 81, 3) := by decide +kernel
theorem dX5_read_38 : decode cX5_read 38 = .ok (.aload_n 0, 1) := by decide +kernel
theorem dX5_read_39 : decode cX5_read 39 = .ok (.getfield 81, 3) := by decide +kernel
theorem dX5_read_42 : decode cX5_read 42 = .ok (.ifCond .ne 12, 3) := by decide +kernel
theorem dX5_read_45 : decode cX5_read 45 = .ok (.aload_n 0, 1) := by decide +kernel
theorem dX5_read_46 : decode cX5_read 46 = .ok (.getfield 22, 3) := by decide +kernel
theorem dX5_read_49 : decode cX5_read 49 = .ok (.iload_n 1, 1) := by decide +kernel
theorem dX5_read_50 : decode cX5_read 50 = .ok (.laload, 1) := by decide +kernel
theorem dX5_read_51 : decode cX5_read 51 = .ok (.goto 4, 3) := by decide +kernel
theorem dX5_read_54 : decode cX5_read 54 = .ok (.lconst 0, 1) := by decide +kernel
theorem dX5_read_55 : decode cX5_read 55 = .ok (.lreturn, 1) := by decide +kernel
theorem dX5_clock_0 : decode cX5_clock 0 = .ok (.aload_n 0, 1) := by decide +kernel
theorem dX5_clock_1 : decode cX5_clock 1 = .ok (.aload_n 0, 1) := by decide +kernel
theorem dX5_clock_2 : decode cX5_clock 2 = .ok (.iload_n 1, 1) := by decide +kernel
theorem dX5_clock_3 : decode cX5_clock 3 = .ok (.bipush 100, 2) := by decide +kernel
theorem dX5_clock_5 : decode cX5_clock 5 = .ok (.invokevirtual 109, 3) := by decide +kernel
theorem dX5_clock_8 : decode cX5_clock 8 = .ok (.ifCond .ne 12, 3) := by decide +kernel
theorem dX5_clock_11 : decode cX5_clock 11 = .ok (.aload_n 0, 1) := by decide +kernel
theorem dX5_clock_12 : decode cX5_clock 12 = .ok (.iload_n 2, 1) := by decide +kernel
theorem dX5_clock_13 : decode cX5_clock 13 = .ok (.iconst 2, 1) := by decide +kernel
theorem dX5_clock_14 : decode cX5_clock 14 = .ok (.invokevirtual 109, 3) := by decide +kernel
theorem dX5_clock_17 : decode cX5_clock 17 = .ok (.ifCond .eq 7, 3) := by decide +kernel
theorem dX5_clock_20 : decode cX5_clock 20 = .ok (.iconst 1, 1) := by decide +kernel
theorem dX5_clock_21 : decode cX5_clock 21 = .ok (.goto 4, 3) := by decide +kernel
theorem dX5_clock_24 : decode cX5_clock 24 = .ok (.iconst 0, 1) := by decide +kernel
theorem dX5_clock_25 : decode cX5_clock 25 = .ok (.invokevirtual 113, 3) := by decide +kernel
theorem dX5_clock_28 : decode cX5_clock 28 = .ok (.ifCond .ne 5, 3) := by decide +kernel
theorem dX5_clock_31 : decode cX5_clock 31 = .ok (.dconst 0, 1) := by decide +kernel
theorem dX5_clock_32 : decode cX5_clock 32 = .ok (.dreturn, 1) := by decide +kernel
theorem dX5_clock_33 : decode cX5_clock 33 = .ok (.aload_n 0, 1) := by decide +kernel
theorem dX5_clock_34 : decode cX5_clock 34 = .ok (.aload_n 0, 1) := by decide +kernel
theorem dX5_clock_35 : decode cX5_clock 35 = .ok (.getfield 97, 3) := by decide +kernel
theorem dX5_clock_38 : decode cX5_clock 38 = .ok (.iload_n 1, 1) := by decide +kernel
theorem dX5_clock_39 : decode cX5_clock 39 = .ok (.i2d, 1) := by decide +kernel
theorem dX5_clock_40 : decode cX5_clock 40 = .ok (.aload_n 0, 1) := by decide +kernel
theorem dX5_clock_41 : decode cX5_clock 41 = .ok (.getfield 70, 3) := by decide +kernel
theorem dX5_clock_44 : decode cX5_clock 44 = .ok (.dmul, 1) := by decide +kernel
theorem dX5_clock_45 : decode cX5_clock 45 = .ok (.dadd, 1) := by decide +kernel
theorem dX5_clock_46 : decode cX5_clock 46 = .ok (.putfield 97, 3) := by decide +kernel
theorem dX5_clock_49 : decode cX5_clock 49 = .ok (.aload_n 0, 1) := by decide +kernel
theorem dX5_clock_50 : decode cX5_clock 50 = .ok (.getfield 133, 3) := by decide +kernel
theorem dX5_clock_53 : decode cX5_clock 53 = .ok (.ifCond .le 44, 3) := by decide +kernel
theorem dX5_clock_56 : decode cX5_clock 56 = .ok (.aload_n 0, 1) := by decide +kernel
theorem dX5_clock_57 : decode cX5_clock 57 = .ok (.getfield 97, 3) := by decide +kernel
theorem dX5_clock_60 : decode cX5_clock 60 = .ok (.aload_n 0, 1) := by decide +kernel
theorem dX5_clock_61 : decode cX5_clock 61 = .ok (.getfield 100, 3) := by decide +kernel
theorem dX5_clock_64 : decode cX5_clock 64 = .ok (.ldc2_w 165, 3) := by decide +kernel
theorem dX5_clock_67 : decode cX5_clock 67 = .ok (.dadd, 1) := by decide +kernel
theorem dX5_clock_68 : decode cX5_clock 68 = .ok (.dcmp .l, 1) := by decide +kernel
theorem dX5_clock_69 : decode cX5_clock 69 = .ok (.ifCond .lt 28, 3) := by decide +kernel
theorem dX5_clock_72 : decode cX5_clock 72 = .ok (.aload_n 0, 1) := by decide +kernel
theorem dX5_clock_73 : decode cX5_clock 73 = .ok (.dup, 1) := by decide +kernel
theorem dX5_clock_74 : decode cX5_clock 74 = .ok (.getfield 133, 3) := by decide +kernel
theorem dX5_clock_77 : decode cX5_clock 77 = .ok (.iconst 1, 1) := by decide +kernel
theorem dX5_clock_78 : decode cX5_clock 78 = .ok (.isub, 1) := by decide +kernel
theorem dX5_clock_79 : decode cX5_clock 79 = .ok (.putfield 133, 3) := by decide +kernel
theorem dX5_clock_82 : decode cX5_clock 82 = .ok (.aload_n 0, 1) := by decide +kernel
theorem dX5_clock_83 : decode cX5_clock 83 = .ok (.aload_n 0, 1) := by decide +kernel
theorem dX5_clock_84 : decode cX5_clock 84 = .ok (.getfield 100, 3) := by decide +kernel
theorem dX5_clock_87 : decode cX5_clock 87 = .ok (.ldc2_w 165, 3) := by decide +kernel
theorem dX5_clock_90 : decode cX5_clock 90 = .ok (.dadd, 1) := by decide +kernel
theorem dX5_clock_91 : decode cX5_clock 91 = .ok (.putfield 100, 3) := by decide +kernel
theorem dX5_clock_94 : decode cX5_clock 94 = .ok (.goto (-45), 3) := by decide +kernel
theorem dX5_clock_97 : decode cX5_clock 97 = .ok (.iload_n 2, 1) := by decide +kernel
theorem dX5_clock_98 : decode cX5_clock 98 = .ok (.iconst 1, 1) := by decide +kernel
theorem dX5_clock_99 : decode cX5_clock 99 = .ok (.if_icmp .ne 14, 3) := by decide +kernel
theorem dX5_clock_102 : decode cX5_clock 102 = .ok (.aload_n 0, 1) := by decide +kernel
theorem dX5_clock_103 : decode cX5_clock 103 = .ok (.getfield 70, 3) := by decide +kernel
theorem dX5_clock_106 : decode cX5_clock 106 = .ok (.ldc2_w 167, 3) := by decide +kernel
theorem dX5_clock_109 : decode cX5_clock 109 = .ok (.dmul, 1) := by decide +kernel
theorem dX5_clock_110 : decode cX5_clock 110 = .ok (.goto 23, 3) := by decide +kernel
theorem dX5_clock_113 : decode cX5_clock 113 = .ok (.iload_n 2, 1) := by decide +kernel
theorem dX5_clock_114 : decode cX5_clock 114 = .ok (.iconst 2, 1) := by decide +kernel
theorem dX5_clock_115 : decode cX5_clock 115 = .ok (.if_icmp .ne 14, 3) := by decide +kernel
theorem dX5_clock_118 : decode cX5_clock 118 = .ok (.aload_n 0, 1) := by decide +kernel
theorem dX5_clock_119 : decode cX5_clock 119 = .ok (.getfield 70, 3) := by decide +kernel
theorem dX5_clock_122 : decode cX5_clock 122 = .ok (.ldc2_w 169, 3) := by decide +kernel
theorem dX5_clock_125 : decode cX5_clock 125 = .ok (.dmul, 1) := by decide +kernel
theorem dX5_clock_126 : decode cX5_clock 126 = .ok (.goto 7, 3) := by decide +kernel
theorem dX5_clock_129 : decode cX5_clock 129 = .ok (.aload_n 0, 1) := by decide +kernel
theorem dX5_clock_130 : decode cX5_clock 130 = .ok (.getfield 70, 3) := by decide +kernel
theorem dX5_clock_133 : decode cX5_clock 133 = .ok (.dstore_n 3, 1) := by decide +kernel
theorem dX5_clock_134 : decode cX5_clock 134 = .ok (.dload_n 3, 1) := by decide +kernel
theorem dX5_clock_135 : decode cX5_clock 135 = .ok (.ldc2_w 171, 3) := by decide +kernel
theorem dX5_clock_138 : decode cX5_clock 138 = .ok (.dcmp .g, 1) := by decide +kernel
theorem dX5_clock_139 : decode cX5_clock 139 = .ok (.ifCond .gt 16, 3) := by decide +kernel
theorem dX5_clock_142 : decode cX5_clock 142 = .ok (.dload_n 3, 1) := by decide +kernel
theorem dX5_clock_143 : decode cX5_clock 143 = .ok (.ldc2_w 173, 3) := by decide +kernel
theorem dX5_clock_146 : decode cX5_clock 146 = .ok (.dcmp .l, 1) := by decide +kernel
theorem dX5_clock_147 : decode cX5_clock 147 = .ok (.ifCond .lt 8, 3) := by decide +kernel
theorem dX5_clock_150 : decode cX5_clock 150 = .ok (.aload_n 0, 1) := by decide +kernel
theorem dX5_clock_151 : decode cX5_clock 151 = .ok (.dload_n 3, 1) := by decide +kernel
theorem dX5_clock_152 : decode cX5_clock 152 = .ok (.putfield 70, 3) := by decide +kernel
theorem dX5_clock_155 : decode cX5_clock 155 = .ok (.aload_n 0, 1) := by decide +kernel
theorem dX5_clock_156 : decode cX5_clock 156 = .ok (.getfield 97, 3) := by decide +kernel
theorem dX5_clock_159 : decode cX5_clock 159 = .ok (.dreturn, 1) := by decide +kernel
theorem dX5_clear_0 : decode cX5_clear 0 = .ok (.aload_n 0, 1) := by decide +kernel
theorem dX5_clear_1 : decode cX5_clear 1 = .ok (.aload_n 0, 1) := by decide +kernel
theorem dX5_clear_2 : decode cX5_clear 2 = .ok (.getfield 90, 3) := by decide +kernel
theorem dX5_clear_5 : decode cX5_clear 5 = .ok (.ifCond .eq 7, 3) := by decide +kernel
theorem dX5_clear_8 : decode cX5_clear 8 = .ok (.iconst 1, 1) := by decide +kernel
theorem dX5_clear_9 : decode cX5_clear 9 = .ok (.goto 4, 3) := by decide +kernel
theorem dX5_clear_12 : decode cX5_clear 12 = .ok (.iconst 0, 1) := by decide +kernel
theorem dX5_clear_13 : decode cX5_clear 13 = .ok (.putfield 81, 3) := by decide +kernel
theorem dX5_clear_16 : decode cX5_clear 16 = .ok (.aload_n 0, 1) := by decide +kernel
theorem dX5_clear_17 : decode cX5_clear 17 = .ok (.getfield 81, 3) := by decide +kernel
theorem dX5_clear_20 : decode cX5_clear 20 = .ok (.ifCond .eq 4, 3) := by decide +kernel
theorem dX5_clear_23 : decode cX5_clear 23 = .ok (.return_, 1) := by decide +kernel
theorem dX5_clear_24 : decode cX5_clear 24 = .ok (.aload_n 0, 1) := by decide +kernel
theorem dX5_clear_25 : decode cX5_clear 25 = .ok (.getfield 7, 3) := by decide +kernel
theorem dX5_clear_28 : decode cX5_clear 28 = .ok (.iconst 0, 1) := by decide +kernel
theorem dX5_clear_29 : decode cX5_clear 29 = .ok (.aload_n 0, 1) := by decide +kernel
theorem dX5_clear_30 : decode cX5_clear 30 = .ok (.aload_n 0, 1) := by decide +kernel
theorem dX5_clear_31 : decode cX5_clear 31 = .ok (.getfield 7, 3) := by decide +kernel
theorem dX5_clear_34 : decode cX5_clear 34 = .ok (.iconst 0, 1) := by decide +kernel
theorem dX5_clear_35 : decode cX5_clear 35 = .ok (.laload, 1) := by decide +kernel
theorem dX5_clear_36 : decode cX5_clear 36 = .ok (.ldc2_w 175, 3) := by decide +kernel
theorem dX5_clear_39 : decode cX5_clear 39 = .ok (.invokevirtual 74, 3) := by decide +kernel
theorem dX5_clear_42 : decode cX5_clear 42 = .ok (.lastore, 1) := by decide +kernel
theorem dX5_clear_43 : decode cX5_clear 43 = .ok (.aload_n 0, 1) := by decide +kernel
theorem dX5_clear_44 : decode cX5_clear 44 = .ok (.iconst 0, 1) := by decide +kernel
theorem dX5_clear_45 : decode cX5_clear 45 = .ok (.putfield 133, 3) := by decide +kernel
theorem dX5_clear_48 : decode cX5_clear 48 = .ok (.iconst 0, 1) := by decide +kernel
theorem dX5_clear_49 : decode cX5_clear 49 = .ok (.istore_n 1, 1) := by decide +kernel
theorem dX5_clear_50 : decode cX5_clear 50 = .ok (.iload_n 1, 1) := by decide +kernel
theorem dX5_clear_51 : decode cX5_clear 51 = .ok (.iconst 4, 1) := by decide +kernel
theorem dX5_clear_52 : decode cX5_clear 52 = .ok (.if_icmp .ge 23, 3) := by decide +kernel
theorem dX5_clear_55 : decode cX5_clear 55 = .ok (.aload_n 0, 1) := by decide +kernel
theorem dX5_clear_56 : decode cX5_clear 56 = .ok (.getfield 44, 3) := by decide +kernel
theorem dX5_clear_59 : decode cX5_clear 59 = .ok (.iload_n 1, 1) := by decide +kernel
theorem dX5_clear_60 : decode cX5_clear 60 = .ok (.iconst 0, 1) := by decide +kernel
theorem dX5_clear_61 : decode cX5_clear 61 = .ok (.bastore, 1) := by decide +kernel
theorem dX5_clear_62 : decode cX5_clear 62 = .ok (.aload_n 0, 1) := by decide +kernel
theorem dX5_clear_63 : decode cX5_clear 63 = .ok (.getfield 57, 3) := by decide +kernel
theorem dX5_clear_66 : decode cX5_clear 66 = .ok (.iload_n 1, 1) := by decide +kernel
theorem dX5_clear_67 : decode cX5_clear 67 = .ok (.iconst 0, 1) := by decide +kernel
theorem dX5_clear_68 : decode cX5_clear 68 = .ok (.bastore, 1) := by decide +kernel
theorem dX5_clear_69 : decode cX5_clear 69 = .ok (.iinc 1 1, 3) := by decide +kernel
theorem dX5_clear_72 : decode cX5_clear 72 = .ok (.goto (-22), 3) := by decide +kernel
theorem dX5_clear_75 : decode cX5_clear 75 = .ok (.return_, 1) := by decide +kernel
theorem dX5_told_0 : decode cX5_told 0 = .ok (.aload_n 0, 1) := by decide +kernel
theorem dX5_told_1 : decode cX5_told 1 = .ok (.aload_n 0, 1) := by decide +kernel
theorem dX5_told_2 : decode cX5_told 2 = .ok (.iload_n 1, 1) := by decide +kernel
theorem dX5_told_3 : decode cX5_told 3 = .ok (.iconst 4, 1) := by decide +kernel
theorem dX5_told_4 : decode cX5_told 4 = .ok (.invokevirtual 109, 3) := by decide +kernel
theorem dX5_told_7 : decode cX5_told 7 = .ok (.ifCond .ne 41, 3) := by decide +kernel
theorem dX5_told_10 : decode cX5_told 10 = .ok (.aload_n 0, 1) := by decide +kernel
theorem dX5_told_11 : decode cX5_told 11 = .ok (.iload_n 2, 1) := by decide +kernel
theorem dX5_told_12 : decode cX5_told 12 = .ok (.iload_n 1, 1) := by decide +kernel
theorem dX5_told_13 : decode cX5_told 13 = .ok (.iconst 2, 1) := by decide +kernel
theorem dX5_told_14 : decode cX5_told 14 = .ok (.if_icmp .ge 8, 3) := by decide +kernel
theorem dX5_told_17 : decode cX5_told 17 = .ok (.bipush 7, 2) := by decide +kernel
theorem dX5_told_19 : decode cX5_told 19 = .ok (.goto 23, 3) := by decide +kernel
theorem dX5_told_22 : decode cX5_told 22 = .ok (.iload_n 1, 1) := by decide +kernel
theorem dX5_told_23 : decode cX5_told 23 = .ok (.iconst 2, 1) := by decide +kernel
theorem dX5_told_24 : decode cX5_told 24 = .ok (.if_icmp .ne 7, 3) := by decide +kernel
theorem dX5_told_27 : decode cX5_told 27 = .ok (.iconst 3, 1) := by decide +kernel
theorem dX5_told_28 : decode cX5_told 28 = .ok (.goto 14, 3) := by decide +kernel
theorem dX5_told_31 : decode cX5_told 31 = .ok (.iload_n 1, 1) := by decide +kernel
theorem dX5_told_32 : decode cX5_told 32 = .ok (.iconst 3, 1) := by decide +kernel
theorem dX5_told_33 : decode cX5_told 33 = .ok (.if_icmp .ne 8, 3) := by decide +kernel
theorem dX5_told_36 : decode cX5_told 36 = .ok (.bipush 31, 2) := by decide +kernel
theorem dX5_told_38 : decode cX5_told 38 = .ok (.goto 4, 3) := by decide +kernel
theorem dX5_told_41 : decode cX5_told 41 = .ok (.iconst 2, 1) := by decide +kernel
theorem dX5_told_42 : decode cX5_told 42 = .ok (.invokevirtual 109, 3) := by decide +kernel
theorem dX5_told_45 : decode cX5_told 45 = .ok (.ifCond .eq 7, 3) := by decide +kernel
theorem dX5_told_48 : decode cX5_told 48 = .ok (.iconst 1, 1) := by decide +kernel
theorem dX5_told_49 : decode cX5_told 49 = .ok (.goto 4, 3) := by decide +kernel
theorem dX5_told_52 : decode cX5_told 52 = .ok (.iconst 0, 1) := by decide +kernel
theorem dX5_told_53 : decode cX5_told 53 = .ok (.putfield 81, 3) := by decide +kernel
theorem dX5_told_56 : decode cX5_told 56 = .ok (.aload_n 0, 1) := by decide +kernel
theorem dX5_told_57 : decode cX5_told 57 = .ok (.getfield 81, 3) := by decide +kernel
theorem dX5_told_60 : decode cX5_told 60 = .ok (.ifCond .ne 38, 3) := by decide +kernel
theorem dX5_told_63 : decode cX5_told 63 = .ok (.iload_n 1, 1) := by decide +kernel
theorem dX5_told_64 : decode cX5_told 64 = .ok (.iconst 2, 1) := by decide +kernel
theorem dX5_told_65 : decode cX5_told 65 = .ok (.if_icmp .ne 12, 3) := by decide +kernel
theorem dX5_told_68 : decode cX5_told 68 = .ok (.aload_n 0, 1) := by decide +kernel
theorem dX5_told_69 : decode cX5_told 69 = .ok (.getfield 44, 3) := by decide +kernel
theorem dX5_told_72 : decode cX5_told 72 = .ok (.iload_n 2, 1) := by decide +kernel
theorem dX5_told_73 : decode cX5_told 73 = .ok (.baload, 1) := by decide +kernel
theorem dX5_told_74 : decode cX5_told 74 = .ok (.ifCond .eq 19, 3) := by decide +kernel
theorem dX5_told_77 : decode cX5_told 77 = .ok (.iload_n 1, 1) := by decide +kernel
theorem dX5_told_78 : decode cX5_told 78 = .ok (.iconst 3, 1) := by decide +kernel
theorem dX5_told_79 : decode cX5_told 79 = .ok (.if_icmp .ne 19, 3) := by decide +kernel
theorem dX5_told_82 : decode cX5_told 82 = .ok (.aload_n 0, 1) := by decide +kernel
theorem dX5_told_83 : decode cX5_told 83 = .ok (.getfield 51, 3) := by decide +kernel
theorem dX5_told_86 : decode cX5_told 86 = .ok (.iload_n 2, 1) := by decide +kernel
theorem dX5_told_87 : decode cX5_told 87 = .ok (.iconst 4, 1) := by decide +kernel
theorem dX5_told_88 : decode cX5_told 88 = .ok (.idiv, 1) := by decide +kernel
theorem dX5_told_89 : decode cX5_told 89 = .ok (.baload, 1) := by decide +kernel
theorem dX5_told_90 : decode cX5_told 90 = .ok (.ifCond .ne 8, 3) := by decide +kernel
theorem dX5_told_93 : decode cX5_told 93 = .ok (.aload_n 0, 1) := by decide +kernel
theorem dX5_told_94 : decode cX5_told 94 = .ok (.iconst 2, 1) := by decide +kernel
theorem dX5_told_95 : decode cX5_told 95 = .ok (.putfield 81, 3) := by decide +kernel
theorem dX5_told_98 : decode cX5_told 98 = .ok (.aload_n 0, 1) := by decide +kernel
theorem dX5_told_99 : decode cX5_told 99 = .ok (.getfield 81, 3) := by decide +kernel
theorem dX5_told_102 : decode cX5_told 102 = .ok (.ifCond .eq 5, 3) := by decide +kernel
theorem dX5_told_105 : decode cX5_told 105 = .ok (.lconst 0, 1) := by decide +kernel
theorem dX5_told_106 : decode cX5_told 106 = .ok (.lreturn, 1) := by decide +kernel
theorem dX5_told_107 : decode cX5_told 107 = .ok (.iload_n 1, 1) := by decide +kernel
theorem dX5_told_108 : decode cX5_told 108 = .ok (.iconst 2, 1) := by decide +kernel
theorem dX5_told_109 : decode cX5_told 109 = .ok (.if_icmp .ge 15, 3) := by decide +kernel
theorem dX5_told_112 : decode cX5_told 112 = .ok (.aload_n 0, 1) := by decide +kernel
theorem dX5_told_113 : decode cX5_told 113 = .ok (.getfield 13, 3) := by decide +kernel
theorem dX5_told_116 : decode cX5_told 116 = .ok (.iload_n 1, 1) := by decide +kernel
theorem dX5_told_117 : decode cX5_told 117 = .ok (.bipush 8, 2) := by decide +kernel
theorem dX5_told_119 : decode cX5_told 119 = .ok (.imul, 1) := by decide +kernel
theorem dX5_told_120 : decode cX5_told 120 = .ok (.iload_n 2, 1) := by decide +kernel
theorem dX5_told_121 : decode cX5_told 121 = .ok (.iadd, 1) := by decide +kernel
theorem dX5_told_122 : decode cX5_told 122 = .ok (.laload, 1) := by decide +kernel
theorem dX5_told_123 : decode cX5_told 123 = .ok (.lreturn, 1) := by decide +kernel
theorem dX5_told_124 : decode cX5_told 124 = .ok (.iload_n 1, 1) := by decide +kernel
theorem dX5_told_125 : decode cX5_told 125 = .ok (.iconst 2, 1) := by decide +kernel
theorem dX5_told_126 : decode cX5_told 126 = .ok (.if_icmp .ne 11, 3) := by decide +kernel
theorem dX5_told_129 : decode cX5_told 129 = .ok (.aload_n 0, 1) := by decide +kernel
theorem dX5_told_130 : decode cX5_told 130 = .ok (.iload_n 2, 1) := by decide +kernel
theorem dX5_told_131 : decode cX5_told 131 = .ok (.invokevirtual 150, 3) := by decide +kernel
theorem dX5_told_134 : decode cX5_told 134 = .ok (.goto 23, 3) := by decide +kernel
theorem dX5_told_137 : decode cX5_told 137 = .ok (.iload_n 1, 1) := by decide +kernel
theorem dX5_told_138 : decode cX5_told 138 = .ok (.iconst 3, 1) := by decide +kernel
theorem dX5_told_139 : decode cX5_told 139 = .ok (.if_icmp .ne 12, 3) := by decide +kernel
theorem dX5_told_142 : decode cX5_told 142 = .ok (.aload_n 0, 1) := by decide +kernel
theorem dX5_told_143 : decode cX5_told 143 = .ok (.getfield 19, 3) := by decide +kernel
theorem dX5_told_146 : decode cX5_told 146 = .ok (.iload_n 2, 1) := by decide +kernel
theorem dX5_told_147 : decode cX5_told 147 = .ok (.laload, 1) := by decide +kernel
theorem dX5_told_148 : decode cX5_told 148 = .ok (.goto 9, 3) := by decide +kernel
theorem dX5_told_151 : decode cX5_told 151 = .ok (.aload_n 0, 1) := by decide +kernel
theorem dX5_told_152 : decode cX5_told 152 = .ok (.getfield 16, 3) := by decide +kernel
theorem dX5_told_155 : decode cX5_told 155 = .ok (.iload_n 2, 1) := by decide +kernel
theorem dX5_told_156 : decode cX5_told 156 = .ok (.laload, 1) := by decide +kernel
theorem dX5_told_157 : decode cX5_told 157 = .ok (.lreturn, 1) := by decide +kernel
theorem dX5_count_0 : decode cX5_count 0 = .ok (.aload_n 0, 1) := by decide +kernel
theorem dX5_count_1 : decode cX5_count 1 = .ok (.iconst 0, 1) := by decide +kernel
theorem dX5_count_2 : decode cX5_count 2 = .ok (.putfield 81, 3) := by decide +kernel
theorem dX5_count_5 : decode cX5_count 5 = .ok (.iconst 0, 1) := by decide +kernel
theorem dX5_count_6 : decode cX5_count 6 = .ok (.istore_n 2, 1) := by decide +kernel
theorem dX5_count_7 : decode cX5_count 7 = .ok (.iconst 0, 1) := by decide +kernel
theorem dX5_count_8 : decode cX5_count 8 = .ok (.istore_n 3, 1) := by decide +kernel
theorem dX5_count_9 : decode cX5_count 9 = .ok (.iload_n 3, 1) := by decide +kernel
theorem dX5_count_10 : decode cX5_count 10 = .ok (.bipush 8, 2) := by decide +kernel
theorem dX5_count_12 : decode cX5_count 12 = .ok (.if_icmp .ge 64, 3) := by decide +kernel
theorem dX5_count_15 : decode cX5_count 15 = .ok (.iload_n 1, 1) := by decide +kernel
theorem dX5_count_16 : decode cX5_count 16 = .ok (.ifCond .ne 17, 3) := by decide +kernel
theorem dX5_count_19 : decode cX5_count 19 = .ok (.iload_n 3, 1) := by decide +kernel
theorem dX5_count_20 : decode cX5_count 20 = .ok (.iconst 4, 1) := by decide +kernel
theorem dX5_count_21 : decode cX5_count 21 = .ok (.if_icmp .ge 12, 3) := by decide +kernel
theorem dX5_count_24 : decode cX5_count 24 = .ok (.aload_n 0, 1) := by decide +kernel
theorem dX5_count_25 : decode cX5_count 25 = .ok (.getfield 44, 3) := by decide +kernel
theorem dX5_count_28 : decode cX5_count 28 = .ok (.iload_n 3, 1) := by decide +kernel
theorem dX5_count_29 : decode cX5_count 29 = .ok (.baload, 1) := by decide +kernel
theorem dX5_count_30 : decode cX5_count 30 = .ok (.ifCond .ne 37, 3) := by decide +kernel
theorem dX5_count_33 : decode cX5_count 33 = .ok (.iload_n 1, 1) := by decide +kernel
theorem dX5_count_34 : decode cX5_count 34 = .ok (.iconst 5, 1) := by decide +kernel
theorem dX5_count_35 : decode cX5_count 35 = .ok (.if_icmp .ne 17, 3) := by decide +kernel
theorem dX5_count_38 : decode cX5_count 38 = .ok (.iload_n 3, 1) := by decide +kernel
theorem dX5_count_39 : decode cX5_count 39 = .ok (.iconst 4, 1) := by decide +kernel
theorem dX5_count_40 : decode cX5_count 40 = .ok (.if_icmp .ge 12, 3) := by decide +kernel
theorem dX5_count_43 : decode cX5_count 43 = .ok (.aload_n 0, 1) := by decide +kernel
theorem dX5_count_44 : decode cX5_count 44 = .ok (.getfield 57, 3) := by decide +kernel
theorem dX5_count_47 : decode cX5_count 47 = .ok (.iload_n 3, 1) := by decide +kernel
theorem dX5_count_48 : decode cX5_count 48 = .ok (.baload, 1) := by decide +kernel
theorem dX5_count_49 : decode cX5_count 49 = .ok (.ifCond .ne 18, 3) := by decide +kernel
theorem dX5_count_52 : decode cX5_count 52 = .ok (.iload_n 1, 1) := by decide +kernel
theorem dX5_count_53 : decode cX5_count 53 = .ok (.bipush 6, 2) := by decide +kernel
theorem dX5_count_55 : decode cX5_count 55 = .ok (.if_icmp .ne 15, 3) := by decide +kernel
theorem dX5_count_58 : decode cX5_count 58 = .ok (.aload_n 0, 1) := by decide +kernel
theorem dX5_count_59 : decode cX5_count 59 = .ok (.getfield 51, 3) := by decide +kernel
theorem dX5_count_62 : decode cX5_count 62 = .ok (.iload_n 3, 1) := by decide +kernel
theorem dX5_count_63 : decode cX5_count 63 = .ok (.baload, 1) := by decide +kernel
theorem dX5_count_64 : decode cX5_count 64 = .ok (.ifCond .eq 6, 3) := by decide +kernel
theorem dX5_count_67 : decode cX5_count 67 = .ok (.iinc 2 1, 3) := by decide +kernel
theorem dX5_count_70 : decode cX5_count 70 = .ok (.iinc 3 1, 3) := by decide +kernel
theorem dX5_count_73 : decode cX5_count 73 = .ok (.goto (-64), 3) := by decide +kernel
theorem dX5_count_76 : decode cX5_count 76 = .ok (.iload_n 1, 1) := by decide +kernel
theorem dX5_count_77 : decode cX5_count 77 = .ok (.tableswitch 82 0 7 #[47, 49, 54, 59, 64, 47, 47, 77], 47) := by decide +kernel
theorem dX5_count_124 : decode cX5_count 124 = .ok (.iload_n 2, 1) := by decide +kernel
theorem dX5_count_125 : decode cX5_count 125 = .ok (.ireturn, 1) := by decide +kernel
theorem dX5_count_126 : decode cX5_count 126 = .ok (.aload_n 0, 1) := by decide +kernel
theorem dX5_count_127 : decode cX5_count 127 = .ok (.getfield 133, 3) := by decide +kernel
theorem dX5_count_130 : decode cX5_count 130 = .ok (.ireturn, 1) := by decide +kernel
theorem dX5_count_131 : decode cX5_count 131 = .ok (.aload_n 0, 1) := by decide +kernel
theorem dX5_count_132 : decode cX5_count 132 = .ok (.getfield 94, 3) := by decide +kernel
theorem dX5_count_135 : decode cX5_count 135 = .ok (.ireturn, 1) := by decide +kernel
theorem dX5_count_136 : decode cX5_count 136 = .ok (.aload_n 0, 1) := by decide +kernel
theorem dX5_count_137 : decode cX5_count 137 = .ok (.getfield 66, 3) := by decide +kernel
theorem dX5_count_140 : decode cX5_count 140 = .ok (.ireturn, 1) := by decide +kernel
theorem dX5_count_141 : decode cX5_count 141 = .ok (.aload_n 0, 1) := by decide +kernel
theorem dX5_count_142 : decode cX5_count 142 = .ok (.getfield 90, 3) := by decide +kernel
theorem dX5_count_145 : decode cX5_count 145 = .ok (.ifCond .eq 7, 3) := by decide +kernel
theorem dX5_count_148 : decode cX5_count 148 = .ok (.iconst 1, 1) := by decide +kernel
theorem dX5_count_149 : decode cX5_count 149 = .ok (.goto 4, 3) := by decide +kernel
theorem dX5_count_152 : decode cX5_count 152 = .ok (.iconst 0, 1) := by decide +kernel
theorem dX5_count_153 : decode cX5_count 153 = .ok (.ireturn, 1) := by decide +kernel
theorem dX5_count_154 : decode cX5_count 154 = .ok (.aload_n 0, 1) := by decide +kernel
theorem dX5_count_155 : decode cX5_count 155 = .ok (.getfield 154, 3) := by decide +kernel
theorem dX5_count_158 : decode cX5_count 158 = .ok (.ireturn, 1) := by decide +kernel
theorem dX5_count_159 : decode cX5_count 159 = .ok (.iconst (-1), 1) := by decide +kernel
theorem dX5_count_160 : decode cX5_count 160 = .ok (.ireturn, 1) := by decide +kernel
theorem dX5_rate_0 : decode cX5_rate 0 = .ok (.aload_n 0, 1) := by decide +kernel
theorem dX5_rate_1 : decode cX5_rate 1 = .ok (.iconst 0, 1) := by decide +kernel
theorem dX5_rate_2 : decode cX5_rate 2 = .ok (.putfield 81, 3) := by decide +kernel
theorem dX5_rate_5 : decode cX5_rate 5 = .ok (.aload_n 0, 1) := by decide +kernel
theorem dX5_rate_6 : decode cX5_rate 6 = .ok (.getfield 70, 3) := by decide +kernel
theorem dX5_rate_9 : decode cX5_rate 9 = .ok (.dreturn, 1) := by decide +kernel
