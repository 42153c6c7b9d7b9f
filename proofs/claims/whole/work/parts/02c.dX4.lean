theorem dX4_init_0 : decode cX4_init 0 = .ok (.aload_n 0, 1) := by decide +kernel
theorem dX4_init_1 : decode cX4_init 1 = .ok (.invokespecial 1, 3) := by decide +kernel
theorem dX4_init_4 : decode cX4_init 4 = .ok (.aload_n 0, 1) := by decide +kernel
theorem dX4_init_5 : decode cX4_init 5 = .ok (.iconst 3, 1) := by decide +kernel
theorem dX4_init_6 : decode cX4_init 6 = .ok (.newarray .long, 2) := by decide +kernel
theorem dX4_init_8 : decode cX4_init 8 = .ok (.putfield 9, 3) := by decide +kernel
theorem dX4_init_11 : decode cX4_init 11 = .ok (.aload_n 0, 1) := by decide +kernel
theorem dX4_init_12 : decode cX4_init 12 = .ok (.iconst 2, 1) := by decide +kernel
theorem dX4_init_13 : decode cX4_init 13 = .ok (.bipush 8, 2) := by decide +kernel
theorem dX4_init_15 : decode cX4_init 15 = .ok (.multianewarray 13 2, 4) := by decide +kernel
theorem dX4_init_19 : decode cX4_init 19 = .ok (.putfield 15, 3) := by decide +kernel
theorem dX4_init_22 : decode cX4_init 22 = .ok (.aload_n 0, 1) := by decide +kernel
theorem dX4_init_23 : decode cX4_init 23 = .ok (.iconst 4, 1) := by decide +kernel
theorem dX4_init_24 : decode cX4_init 24 = .ok (.anewarray 18, 3) := by decide +kernel
theorem dX4_init_27 : decode cX4_init 27 = .ok (.putfield 20, 3) := by decide +kernel
theorem dX4_init_30 : decode cX4_init 30 = .ok (.aload_n 0, 1) := by decide +kernel
theorem dX4_init_31 : decode cX4_init 31 = .ok (.bipush 8, 2) := by decide +kernel
theorem dX4_init_33 : decode cX4_init 33 = .ok (.anewarray 24, 3) := by decide +kernel
theorem dX4_init_36 : decode cX4_init 36 = .ok (.putfield 26, 3) := by decide +kernel
theorem dX4_init_39 : decode cX4_init 39 = .ok (.aload_n 0, 1) := by decide +kernel
theorem dX4_init_40 : decode cX4_init 40 = .ok (.iconst 3, 1) := by decide +kernel
theorem dX4_init_41 : decode cX4_init 41 = .ok (.anewarray 30, 3) := by decide +kernel
theorem dX4_init_44 : decode cX4_init 44 = .ok (.putfield 32, 3) := by decide +kernel
theorem dX4_init_47 : decode cX4_init 47 = .ok (.aload_n 0, 1) := by decide +kernel
theorem dX4_init_48 : decode cX4_init 48 = .ok (.iconst 4, 1) := by decide +kernel
theorem dX4_init_49 : decode cX4_init 49 = .ok (.anewarray 36, 3) := by decide +kernel
theorem dX4_init_52 : decode cX4_init 52 = .ok (.putfield 38, 3) := by decide +kernel
theorem dX4_init_55 : decode cX4_init 55 = .ok (.iconst 0, 1) := by decide +kernel
theorem dX4_init_56 : decode cX4_init 56 = .ok (.istore_n 2, 1) := by decide +kernel
theorem dX4_init_57 : decode cX4_init 57 = .ok (.iload_n 2, 1) := by decide +kernel
theorem dX4_init_58 : decode cX4_init 58 = .ok (.iconst 3, 1) := by decide +kernel
theorem dX4_init_59 : decode cX4_init 59 = .ok (.if_icmp .ge 22, 3) := by decide +kernel
theorem dX4_init_62 : decode cX4_init 62 = .ok (.aload_n 0, 1) := by decide +kernel
theorem dX4_init_63 : decode cX4_init 63 = .ok (.getfield 9, 3) := by decide +kernel
theorem dX4_init_66 : decode cX4_init 66 = .ok (.iload_n 2, 1) := by decide +kernel
theorem dX4_init_67 : decode cX4_init 67 = .ok (.iload_n 1, 1) := by decide +kernel
theorem dX4_init_68 : decode cX4_init 68 = .ok (.i2l, 1) := by decide +kernel
theorem dX4_init_69 : decode cX4_init 69 = .ok (.iload_n 2, 1) := by decide +kernel
theorem dX4_init_70 : decode cX4_init 70 = .ok (.i2l, 1) := by decide +kernel
theorem dX4_init_71 : decode cX4_init 71 = .ok (.invokestatic 42, 3) := by decide +kernel
theorem dX4_init_74 : decode cX4_init 74 = .ok (.lastore, 1) := by decide +kernel
theorem dX4_init_75 : decode cX4_init 75 = .ok (.iinc 2 1, 3) := by decide +kernel
theorem dX4_init_78 : decode cX4_init 78 = .ok (.goto (-21), 3) := by decide +kernel
theorem dX4_init_81 : decode cX4_init 81 = .ok (.iconst 0, 1) := by decide +kernel
theorem dX4_init_82 : decode cX4_init 82 = .ok (.istore_n 2, 1) := by decide +kernel
theorem dX4_init_83 : decode cX4_init 83 = .ok (.iload_n 2, 1) := by decide +kernel
theorem dX4_init_84 : decode cX4_init 84 = .ok (.iconst 4, 1) := by decide +kernel
theorem dX4_init_85 : decode cX4_init 85 = .ok (.if_icmp .ge 22, 3) := by decide +kernel
theorem dX4_init_88 : decode cX4_init 88 = .ok (.aload_n 0, 1) := by decide +kernel
theorem dX4_init_89 : decode cX4_init 89 = .ok (.getfield 20, 3) := by decide +kernel
theorem dX4_init_92 : decode cX4_init 92 = .ok (.iload_n 2, 1) := by decide +kernel
theorem dX4_init_93 : decode cX4_init 93 = .ok (.new 18, 3) := by decide +kernel
theorem dX4_init_96 : decode cX4_init 96 = .ok (.dup, 1) := by decide +kernel
theorem dX4_init_97 : decode cX4_init 97 = .ok (.invokespecial 46, 3) := by decide +kernel
theorem dX4_init_100 : decode cX4_init 100 = .ok (.aastore, 1) := by decide +kernel
theorem dX4_init_101 : decode cX4_init 101 = .ok (.iinc 2 1, 3) := by decide +kernel
theorem dX4_init_104 : decode cX4_init 104 = .ok (.goto (-21), 3) := by decide +kernel
theorem dX4_init_107 : decode cX4_init 107 = .ok (.iconst 0, 1) := by decide +kernel
theorem dX4_init_108 : decode cX4_init 108 = .ok (.istore_n 2, 1) := by decide +kernel
theorem dX4_init_109 : decode cX4_init 109 = .ok (.iload_n 2, 1) := by decide +kernel
theorem dX4_init_110 : decode cX4_init 110 = .ok (.bipush 8, 2) := by decide +kernel
theorem dX4_init_112 : decode cX4_init 112 = .ok (.if_icmp .ge 22, 3) := by decide +kernel
theorem dX4_init_115 : decode cX4_init 115 = .ok (.aload_n 0, 1) := by decide +kernel
theorem dX4_init_116 : decode cX4_init 116 = .ok (.getfield 26, 3) := by decide +kernel
theorem dX4_init_119 : decode cX4_init 119 = .ok (.iload_n 2, 1) := by decide +kernel
theorem dX4_init_120 : decode cX4_init 120 = .ok (.new 24, 3) := by decide +kernel
theorem dX4_init_123 : decode cX4_init 123 = .ok (.dup, 1) := by decide +kernel
theorem dX4_init_124 : decode cX4_init 124 = .ok (.invokespecial 47, 3) := by decide +kernel
theorem dX4_init_127 : decode cX4_init 127 = .ok (.aastore, 1) := by decide +kernel
theorem dX4_init_128 : decode cX4_init 128 = .ok (.iinc 2 1, 3) := by decide +kernel
theorem dX4_init_131 : decode cX4_init 131 = .ok (.goto (-22), 3) := by decide +kernel
theorem dX4_init_134 : decode cX4_init 134 = .ok (.iconst 0, 1) := by decide +kernel
theorem dX4_init_135 : decode cX4_init 135 = .ok (.istore_n 2, 1) := by decide +kernel
theorem dX4_init_136 : decode cX4_init 136 = .ok (.iload_n 2, 1) := by decide +kernel
theorem dX4_init_137 : decode cX4_init 137 = .ok (.iconst 3, 1) := by decide +kernel
theorem dX4_init_138 : decode cX4_init 138 = .ok (.if_icmp .ge 22, 3) := by decide +kernel
theorem dX4_init_141 : decode cX4_init 141 = .ok (.aload_n 0, 1) := by decide +kernel
theorem dX4_init_142 : decode cX4_init 142 = .ok (.getfield 32, 3) := by decide +kernel
theorem dX4_init_145 : decode cX4_init 145 = .ok (.iload_n 2, 1) := by decide +kernel
theorem dX4_init_146 : decode cX4_init 146 = .ok (.new 30, 3) := by decide +kernel
theorem dX4_init_149 : decode cX4_init 149 = .ok (.dup, 1) := by decide +kernel
theorem dX4_init_150 : decode cX4_init 150 = .ok (.invokespecial 48, 3) := by decide +kernel
theorem dX4_init_153 : decode cX4_init 153 = .ok (.aastore, 1) := by decide +kernel
theorem dX4_init_154 : decode cX4_init 154 = .ok (.iinc 2 1, 3) := by decide +kernel
theorem dX4_init_157 : decode cX4_init 157 = .ok (.goto (-21), 3) := by decide +kernel
theorem dX4_init_160 : decode cX4_init 160 = .ok (.iconst 0, 1) := by decide +kernel
theorem dX4_init_161 : decode cX4_init 161 = .ok (.istore_n 2, 1) := by decide +kernel
theorem dX4_init_162 : decode cX4_init 162 = .ok (.iload_n 2, 1) := by decide +kernel
theorem dX4_init_163 : decode cX4_init 163 = .ok (.iconst 4, 1) := by decide +kernel
theorem dX4_init_164 : decode cX4_init 164 = .ok (.if_icmp .ge 22, 3) := by decide +kernel
theorem dX4_init_167 : decode cX4_init 167 = .ok (.aload_n 0, 1) := by decide +kernel
theorem dX4_init_168 : decode cX4_init 168 = .ok (.getfield 38, 3) := by decide +kernel
theorem dX4_init_171 : decode cX4_init 171 = .ok (.iload_n 2, 1) := by decide +kernel
theorem dX4_init_172 : decode cX4_init 172 = .ok (.new 36, 3) := by decide +kernel
theorem dX4_init_175 : decode cX4_init 175 = .ok (.dup, 1) := by decide +kernel
theorem dX4_init_176 : decode cX4_init 176 = .ok (.invokespecial 49, 3) := by decide +kernel
theorem dX4_init_179 : decode cX4_init 179 = .ok (.aastore, 1) := by decide +kernel
theorem dX4_init_180 : decode cX4_init 180 = .ok (.iinc 2 1, 3) := by decide +kernel
theorem dX4_init_183 : decode cX4_init 183 = .ok (.goto (-21), 3) := by decide +kernel
theorem dX4_init_186 : decode cX4_init 186 = .ok (.aload_n 0, 1) := by decide +kernel
theorem dX4_init_187 : decode cX4_init 187 = .ok (.dconst 1, 1) := by decide +kernel
theorem dX4_init_188 : decode cX4_init 188 = .ok (.putfield 50, 3) := by decide +kernel
theorem dX4_init_191 : decode cX4_init 191 = .ok (.aload_n 0, 1) := by decide +kernel
theorem dX4_init_192 : decode cX4_init 192 = .ok (.iconst (-1), 1) := by decide +kernel
theorem dX4_init_193 : decode cX4_init 193 = .ok (.invokevirtual 54, 3) := by decide +kernel
theorem dX4_init_196 : decode cX4_init 196 = .ok (.return_, 1) := by decide +kernel
theorem dX4_power_0 : decode cX4_power 0 = .ok (.iload_n 1, 1) := by decide +kernel
theorem dX4_power_1 : decode cX4_power 1 = .ok (.iconst (-1), 1) := by decide +kernel
theorem dX4_power_2 : decode cX4_power 2 = .ok (.bipush 100, 2) := by decide +kernel
theorem dX4_power_4 : decode cX4_power 4 = .ok (.invokestatic 58, 3) := by decide +kernel
theorem dX4_power_7 : decode cX4_power 7 = .ok (.aload_n 0, 1) := by decide +kernel
theorem dX4_power_8 : decode cX4_power 8 = .ok (.iload_n 1, 1) := by decide +kernel
theorem dX4_power_9 : decode cX4_power 9 = .ok (.invokevirtual 54, 3) := by decide +kernel
theorem dX4_power_12 : decode cX4_power 12 = .ok (.return_, 1) := by decide +kernel
theorem dX4_extend_0 : decode cX4_extend 0 = .ok (.iload_n 1, 1) := by decide +kernel
theorem dX4_extend_1 : decode cX4_extend 1 = .ok (.iconst 2, 1) := by decide +kernel
theorem dX4_extend_2 : decode cX4_extend 2 = .ok (.invokestatic 62, 3) := by decide +kernel
theorem dX4_extend_5 : decode cX4_extend 5 = .ok (.iload_n 2, 1) := by decide +kernel
theorem dX4_extend_6 : decode cX4_extend 6 = .ok (.bipush 8, 2) := by decide +kernel
theorem dX4_extend_8 : decode cX4_extend 8 = .ok (.invokestatic 62, 3) := by decide +kernel
theorem dX4_extend_11 : decode cX4_extend 11 = .ok (.aload_n 0, 1) := by decide +kernel
theorem dX4_extend_12 : decode cX4_extend 12 = .ok (.invokevirtual 66, 3) := by decide +kernel
theorem dX4_extend_15 : decode cX4_extend 15 = .ok (.aload_n 0, 1) := by decide +kernel
theorem dX4_extend_16 : decode cX4_extend 16 = .ok (.getfield 15, 3) := by decide +kernel
theorem dX4_extend_19 : decode cX4_extend 19 = .ok (.iload_n 1, 1) := by decide +kernel
theorem dX4_extend_20 : decode cX4_extend 20 = .ok (.aaload, 1) := by decide +kernel
theorem dX4_extend_21 : decode cX4_extend 21 = .ok (.iload_n 2, 1) := by decide +kernel
theorem dX4_extend_22 : decode cX4_extend 22 = .ok (.aload_n 0, 1) := by decide +kernel
theorem dX4_extend_23 : decode cX4_extend 23 = .ok (.getfield 15, 3) := by decide +kernel
theorem dX4_extend_26 : decode cX4_extend 26 = .ok (.iload_n 1, 1) := by decide +kernel
theorem dX4_extend_27 : decode cX4_extend 27 = .ok (.aaload, 1) := by decide +kernel
theorem dX4_extend_28 : decode cX4_extend 28 = .ok (.iload_n 2, 1) := by decide +kernel
theorem dX4_extend_29 : decode cX4_extend 29 = .ok (.laload, 1) := by decide +kernel
theorem dX4_extend_30 : decode cX4_extend 30 = .ok (.lload_n 3, 1) := by decide +kernel
theorem dX4_extend_31 : decode cX4_extend 31 = .ok (.invokestatic 42, 3) := by decide +kernel
theorem dX4_extend_34 : decode cX4_extend 34 = .ok (.lastore, 1) := by decide +kernel
theorem dX4_extend_35 : decode cX4_extend 35 = .ok (.aload_n 0, 1) := by decide +kernel
theorem dX4_extend_36 : decode cX4_extend 36 = .ok (.dup, 1) := by decide +kernel
theorem dX4_extend_37 : decode cX4_extend 37 = .ok (.getfield 69, 3) := by decide +kernel
theorem dX4_extend_40 : decode cX4_extend 40 = .ok (.iconst 1, 1) := by decide +kernel
theorem dX4_extend_41 : decode cX4_extend 41 = .ok (.iadd, 1) := by decide +kernel
theorem dX4_extend_42 : decode cX4_extend 42 = .ok (.putfield 69, 3) := by decide +kernel
theorem dX4_extend_45 : decode cX4_extend 45 = .ok (.aload_n 0, 1) := by decide +kernel
theorem dX4_extend_46 : decode cX4_extend 46 = .ok (.getfield 15, 3) := by decide +kernel
theorem dX4_extend_49 : decode cX4_extend 49 = .ok (.iload_n 1, 1) := by decide +kernel
theorem dX4_extend_50 : decode cX4_extend 50 = .ok (.aaload, 1) := by decide +kernel
theorem dX4_extend_51 : decode cX4_extend 51 = .ok (.iload_n 2, 1) := by decide +kernel
theorem dX4_extend_52 : decode cX4_extend 52 = .ok (.laload, 1) := by decide +kernel
theorem dX4_extend_53 : decode cX4_extend 53 = .ok (.lreturn, 1) := by decide +kernel
theorem dX4_primary_0 : decode cX4_primary 0 = .ok (.iload_n 1, 1) := by decide +kernel
theorem dX4_primary_1 : decode cX4_primary 1 = .ok (.iconst 3, 1) := by decide +kernel
theorem dX4_primary_2 : decode cX4_primary 2 = .ok (.invokestatic 62, 3) := by decide +kernel
theorem dX4_primary_5 : decode cX4_primary 5 = .ok (.aload_n 0, 1) := by decide +kernel
theorem dX4_primary_6 : decode cX4_primary 6 = .ok (.invokevirtual 66, 3) := by decide +kernel
theorem dX4_primary_9 : decode cX4_primary 9 = .ok (.aload_n 0, 1) := by decide +kernel
theorem dX4_primary_10 : decode cX4_primary 10 = .ok (.invokevirtual 73, 3) := by decide +kernel
theorem dX4_primary_13 : decode cX4_primary 13 = .ok (.istore 4, 2) := by decide +kernel
theorem dX4_primary_15 : decode cX4_primary 15 = .ok (.aload_n 0, 1) := by decide +kernel
theorem dX4_primary_16 : decode cX4_primary 16 = .ok (.getfield 20, 3) := by decide +kernel
theorem dX4_primary_19 : decode cX4_primary 19 = .ok (.iload 4, 2) := by decide +kernel
theorem dX4_primary_21 : decode cX4_primary 21 = .ok (.aaload, 1) := by decide +kernel
theorem dX4_primary_22 : decode cX4_primary 22 = .ok (.aload_n 0, 1) := by decide +kernel
theorem dX4_primary_23 : decode cX4_primary 23 = .ok (.getfield 9, 3) := by decide +kernel
theorem dX4_primary_26 : decode cX4_primary 26 = .ok (.iload_n 1, 1) := by decide +kernel
theorem dX4_primary_27 : decode cX4_primary 27 = .ok (.laload, 1) := by decide +kernel
theorem dX4_primary_28 : decode cX4_primary 28 = .ok (.lload_n 2, 1) := by decide +kernel
theorem dX4_primary_29 : decode cX4_primary 29 = .ok (.invokestatic 42, 3) := by decide +kernel
theorem dX4_primary_32 : decode cX4_primary 32 = .ok (.iconst 0, 1) := by decide +kernel
theorem dX4_primary_33 : decode cX4_primary 33 = .ok (.lconst 0, 1) := by decide +kernel
theorem dX4_primary_34 : decode cX4_primary 34 = .ok (.lconst 0, 1) := by decide +kernel
theorem dX4_primary_35 : decode cX4_primary 35 = .ok (.iconst 1, 1) := by decide +kernel
theorem dX4_primary_36 : decode cX4_primary 36 = .ok (.invokevirtual 77, 3) := by decide +kernel
theorem dX4_primary_39 : decode cX4_primary 39 = .ok (.iload 4, 2) := by decide +kernel
theorem dX4_primary_41 : decode cX4_primary 41 = .ok (.ireturn, 1) := by decide +kernel
theorem dX4_create_0 : decode cX4_create 0 = .ok (.iload_n 1, 1) := by decide +kernel
theorem dX4_create_1 : decode cX4_create 1 = .ok (.iconst 4, 1) := by decide +kernel
theorem dX4_create_2 : decode cX4_create 2 = .ok (.invokestatic 62, 3) := by decide +kernel
theorem dX4_create_5 : decode cX4_create 5 = .ok (.iload_n 2, 1) := by decide +kernel
theorem dX4_create_6 : decode cX4_create 6 = .ok (.bipush 8, 2) := by decide +kernel
theorem dX4_create_8 : decode cX4_create 8 = .ok (.invokestatic 62, 3) := by decide +kernel
theorem dX4_create_11 : decode cX4_create 11 = .ok (.aload_n 0, 1) := by decide +kernel
theorem dX4_create_12 : decode cX4_create 12 = .ok (.invokevirtual 66, 3) := by decide +kernel
theorem dX4_create_15 : decode cX4_create 15 = .ok (.aload_n 0, 1) := by decide +kernel
theorem dX4_create_16 : decode cX4_create 16 = .ok (.iload_n 1, 1) := by decide +kernel
theorem dX4_create_17 : decode cX4_create 17 = .ok (.invokevirtual 81, 3) := by decide +kernel
theorem dX4_create_20 : decode cX4_create 20 = .ok (.astore 8, 2) := by decide +kernel
theorem dX4_create_22 : decode cX4_create 22 = .ok (.aload 8, 2) := by decide +kernel
theorem dX4_create_24 : decode cX4_create 24 = .ok (.invokestatic 85, 3) := by decide +kernel
theorem dX4_create_27 : decode cX4_create 27 = .ok (.aload_n 0, 1) := by decide +kernel
theorem dX4_create_28 : decode cX4_create 28 = .ok (.getfield 26, 3) := by decide +kernel
theorem dX4_create_31 : decode cX4_create 31 = .ok (.iload_n 2, 1) := by decide +kernel
theorem dX4_create_32 : decode cX4_create 32 = .ok (.aaload, 1) := by decide +kernel
theorem dX4_create_33 : decode cX4_create 33 = .ok (.aload 8, 2) := by decide +kernel
theorem dX4_create_35 : decode cX4_create 35 = .ok (.getfield 89, 3) := by decide +kernel
theorem dX4_create_38 : decode cX4_create 38 = .ok (.lload_n 3, 1) := by decide +kernel
theorem dX4_create_39 : decode cX4_create 39 = .ok (.iload 5, 2) := by decide +kernel
theorem dX4_create_41 : decode cX4_create 41 = .ok (.lload 6, 2) := by decide +kernel
theorem dX4_create_43 : decode cX4_create 43 = .ok (.invokevirtual 93, 3) := by decide +kernel
theorem dX4_create_46 : decode cX4_create 46 = .ok (.return_, 1) := by decide +kernel
theorem dX4_load_0 : decode cX4_load 0 = .ok (.iload_n 1, 1) := by decide +kernel
theorem dX4_load_1 : decode cX4_load 1 = .ok (.iconst 4, 1) := by decide +kernel
theorem dX4_load_2 : decode cX4_load 2 = .ok (.invokestatic 62, 3) := by decide +kernel
theorem dX4_load_5 : decode cX4_load 5 = .ok (.iload_n 2, 1) := by decide +kernel
theorem dX4_load_6 : decode cX4_load 6 = .ok (.bipush 8, 2) := by decide +kernel
theorem dX4_load_8 : decode cX4_load 8 = .ok (.invokestatic 62, 3) := by decide +kernel
theorem dX4_load_11 : decode cX4_load 11 = .ok (.aload_n 0, 1) := by decide +kernel
theorem dX4_load_12 : decode cX4_load 12 = .ok (.invokevirtual 66, 3) := by decide +kernel
theorem dX4_load_15 : decode cX4_load 15 = .ok (.aload_n 0, 1) := by decide +kernel
theorem dX4_load_16 : decode cX4_load 16 = .ok (.iload_n 1, 1) := by decide +kernel
theorem dX4_load_17 : decode cX4_load 17 = .ok (.invokevirtual 81, 3) := by decide +kernel
theorem dX4_load_20 : decode cX4_load 20 = .ok (.astore_n 3, 1) := by decide +kernel
theorem dX4_load_21 : decode cX4_load 21 = .ok (.aload_n 0, 1) := by decide +kernel
theorem dX4_load_22 : decode cX4_load 22 = .ok (.iload_n 2, 1) := by decide +kernel
theorem dX4_load_23 : decode cX4_load 23 = .ok (.invokevirtual 97, 3) := by decide +kernel
theorem dX4_load_26 : decode cX4_load 26 = .ok (.astore 4, 2) := by decide +kernel
theorem dX4_load_28 : decode cX4_load 28 = .ok (.aload_n 3, 1) := by decide +kernel
theorem dX4_load_29 : decode cX4_load 29 = .ok (.invokestatic 85, 3) := by decide +kernel
theorem dX4_load_32 : decode cX4_load 32 = .ok (.aload 4, 2) := by decide +kernel
theorem dX4_load_34 : decode cX4_load 34 = .ok (.aload_n 3, 1) := by decide +kernel
theorem dX4_load_35 : decode cX4_load 35 = .ok (.getfield 89, 3) := by decide +kernel
theorem dX4_load_38 : decode cX4_load 38 = .ok (.invokestatic 101, 3) := by decide +kernel
theorem dX4_load_41 : decode cX4_load 41 = .ok (.aload_n 0, 1) := by decide +kernel
theorem dX4_load_42 : decode cX4_load 42 = .ok (.invokevirtual 73, 3) := by decide +kernel
theorem dX4_load_45 : decode cX4_load 45 = .ok (.istore 5, 2) := by decide +kernel
theorem dX4_load_47 : decode cX4_load 47 = .ok (.aload 4, 2) := by decide +kernel
theorem dX4_load_49 : decode cX4_load 49 = .ok (.aload_n 3, 1) := by decide +kernel
theorem dX4_load_50 : decode cX4_load 50 = .ok (.getfield 89, 3) := by decide +kernel
theorem dX4_load_53 : decode cX4_load 53 = .ok (.invokevirtual 105, 3) := by decide +kernel
theorem dX4_load_56 : decode cX4_load 56 = .ok (.lstore 6, 2) := by decide +kernel
theorem dX4_load_58 : decode cX4_load 58 = .ok (.aload_n 0, 1) := by decide +kernel
theorem dX4_load_59 : decode cX4_load 59 = .ok (.getfield 20, 3) := by decide +kernel
theorem dX4_load_62 : decode cX4_load 62 = .ok (.iload 5, 2) := by decide +kernel
theorem dX4_load_64 : decode cX4_load 64 = .ok (.aaload, 1) := by decide +kernel
theorem dX4_load_65 : decode cX4_load 65 = .ok (.aload_n 3, 1) := by decide +kernel
theorem dX4_load_66 : decode cX4_load 66 = .ok (.getfield 89, 3) := by decide +kernel
theorem dX4_load_69 : decode cX4_load 69 = .ok (.aload 4, 2) := by decide +kernel
theorem dX4_load_71 : decode cX4_load 71 = .ok (.getfield 109, 3) := by decide +kernel
theorem dX4_load_74 : decode cX4_load 74 = .ok (.iconst 3, 1) := by decide +kernel
theorem dX4_load_75 : decode cX4_load 75 = .ok (.laload, 1) := by decide +kernel
theorem dX4_load_76 : decode cX4_load 76 = .ok (.invokestatic 42, 3) := by decide +kernel
theorem dX4_load_79 : decode cX4_load 79 = .ok (.aload 4, 2) := by decide +kernel
theorem dX4_load_81 : decode cX4_load 81 = .ok (.aload_n 3, 1) := by decide +kernel
theorem dX4_load_82 : decode cX4_load 82 = .ok (.getfield 89, 3) := by decide +kernel
theorem dX4_load_85 : decode cX4_load 85 = .ok (.invokevirtual 112, 3) := by decide +kernel
theorem dX4_load_88 : decode cX4_load 88 = .ok (.aload 4, 2) := by decide +kernel
theorem dX4_load_90 : decode cX4_load 90 = .ok (.getfield 109, 3) := by decide +kernel
theorem dX4_load_93 : decode cX4_load 93 = .ok (.iconst 2, 1) := by decide +kernel
theorem dX4_load_94 : decode cX4_load 94 = .ok (.laload, 1) := by decide +kernel
theorem dX4_load_95 : decode cX4_load 95 = .ok (.lload 6, 2) := by decide +kernel
theorem dX4_load_97 : decode cX4_load 97 = .ok (.lload 6, 2) := by decide +kernel
theorem dX4_load_99 : decode cX4_load 99 = .ok (.lconst 1, 1) := by decide +kernel
theorem dX4_load_100 : decode cX4_load 100 = .ok (.land, 1) := by decide +kernel
theorem dX4_load_101 : decode cX4_load 101 = .ok (.lconst 0, 1) := by decide +kernel
theorem dX4_load_102 : decode cX4_load 102 = .ok (.lcmp, 1) := by decide +kernel
theorem dX4_load_103 : decode cX4_load 103 = .ok (.ifCond .ne 7, 3) := by decide +kernel
theorem dX4_load_106 : decode cX4_load 106 = .ok (.iconst 1, 1) := by decide +kernel
theorem dX4_load_107 : decode cX4_load 107 = .ok (.goto 4, 3) := by decide +kernel
theorem dX4_load_110 : decode cX4_load 110 = .ok (.iconst 0, 1) := by decide +kernel
theorem dX4_load_111 : decode cX4_load 111 = .ok (.invokevirtual 77, 3) := by decide +kernel
theorem dX4_load_114 : decode cX4_load 114 = .ok (.iload 5, 2) := by decide +kernel
theorem dX4_load_116 : decode cX4_load 116 = .ok (.ireturn, 1) := by decide +kernel
theorem dX4_tamper_0 : decode cX4_tamper 0 = .ok (.iload_n 1, 1) := by decide +kernel
theorem dX4_tamper_1 : decode cX4_tamper 1 = .ok (.bipush 8, 2) := by decide +kernel
theorem dX4_tamper_3 : decode cX4_tamper 3 = .ok (.invokestatic 62, 3) := by decide +kernel
theorem dX4_tamper_6 : decode cX4_tamper 6 = .ok (.iload_n 2, 1) := by decide +kernel
theorem dX4_tamper_7 : decode cX4_tamper 7 = .ok (.iconst 4, 1) := by decide +kernel
theorem dX4_tamper_8 : decode cX4_tamper 8 = .ok (.invokestatic 62, 3) := by decide +kernel
theorem dX4_tamper_11 : decode cX4_tamper 11 = .ok (.aload_n 0, 1) := by decide +kernel
theorem dX4_tamper_12 : decode cX4_tamper 12 = .ok (.iload_n 1, 1) := by decide +kernel
theorem dX4_tamper_13 : decode cX4_tamper 13 = .ok (.invokevirtual 97, 3) := by decide +kernel
theorem dX4_tamper_16 : decode cX4_tamper 16 = .ok (.astore 5, 2) := by decide +kernel
theorem dX4_tamper_18 : decode cX4_tamper 18 = .ok (.aload 5, 2) := by decide +kernel
theorem dX4_tamper_20 : decode cX4_tamper 20 = .ok (.getfield 109, 3) := by decide +kernel
theorem dX4_tamper_23 : decode cX4_tamper 23 = .ok (.iload_n 2, 1) := by decide +kernel
theorem dX4_tamper_24 : decode cX4_tamper 24 = .ok (.aload 5, 2) := by decide +kernel
theorem dX4_tamper_26 : decode cX4_tamper 26 = .ok (.getfield 109, 3) := by decide +kernel
theorem dX4_tamper_29 : decode cX4_tamper 29 = .ok (.iload_n 2, 1) := by decide +kernel
theorem dX4_tamper_30 : decode cX4_tamper 30 = .ok (.laload, 1) := by decide +kernel
theorem dX4_tamper_31 : decode cX4_tamper 31 = .ok (.lload_n 3, 1) := by decide +kernel
theorem dX4_tamper_32 : decode cX4_tamper 32 = .ok (.lxor, 1) := by decide +kernel
theorem dX4_tamper_33 : decode cX4_tamper 33 = .ok (.lastore, 1) := by decide +kernel
theorem dX4_tamper_34 : decode cX4_tamper 34 = .ok (.return_, 1) := by decide +kernel
theorem dX4_flush_0 : decode cX4_flush 0 = .ok (.iload_n 1, 1) := by decide +kernel
theorem dX4_flush_1 : decode cX4_flush 1 = .ok (.iconst 4, 1) := by decide +kernel
theorem dX4_flush_2 : decode cX4_flush 2 = .ok (.invokestatic 62, 3) := by decide +kernel
theorem dX4_flush_5 : decode cX4_flush 5 = .ok (.aload_n 0, 1) := by decide +kernel
theorem dX4_flush_6 : decode cX4_flush 6 = .ok (.invokevirtual 66, 3) := by decide +kernel
theorem dX4_flush_9 : decode cX4_flush 9 = .ok (.aload_n 0, 1) := by decide +kernel
theorem dX4_flush_10 : decode cX4_flush 10 = .ok (.iload_n 1, 1) := by decide +kernel
theorem dX4_flush_11 : decode cX4_flush 11 = .ok (.invokevirtual 81, 3) := by decide +kernel
theorem dX4_flush_14 : decode cX4_flush 14 = .ok (.iconst 0, 1) := by decide +kernel
theorem dX4_flush_15 : decode cX4_flush 15 = .ok (.putfield 116, 3) := by decide +kernel
theorem dX4_flush_18 : decode cX4_flush 18 = .ok (.return_, 1) := by decide +kernel
theorem dX4_open_0 : decode cX4_open 0 = .ok (.iload_n 1, 1) := by decide +kernel
theorem dX4_open_1 : decode cX4_open 1 = .ok (.iconst 4, 1) := by decide +kernel
theorem dX4_open_2 : decode cX4_open 2 = .ok (.invokestatic 62, 3) := by decide +kernel
theorem dX4_open_5 : decode cX4_open 5 = .ok (.aload_n 0, 1) := by decide +kernel
theorem dX4_open_6 : decode cX4_open 6 = .ok (.invokevirtual 66, 3) := by decide +kernel
theorem dX4_open_9 : decode cX4_open 9 = .ok (.aload_n 0, 1) := by decide +kernel
theorem dX4_open_10 : decode cX4_open 10 = .ok (.iload_n 1, 1) := by decide +kernel
theorem dX4_open_11 : decode cX4_open 11 = .ok (.invokevirtual 81, 3) := by decide +kernel
theorem dX4_open_14 : decode cX4_open 14 = .ok (.astore_n 3, 1) := by decide +kernel
theorem dX4_open_15 : decode cX4_open 15 = .ok (.aload_n 0, 1) := by decide +kernel
theorem dX4_open_16 : decode cX4_open 16 = .ok (.aload_n 3, 1) := by decide +kernel
theorem dX4_open_17 : decode cX4_open 17 = .ok (.iload_n 2, 1) := by decide +kernel
theorem dX4_open_18 : decode cX4_open 18 = .ok (.invokevirtual 120, 3) := by decide +kernel
theorem dX4_open_21 : decode cX4_open 21 = .ok (.aload_n 3, 1) := by decide +kernel
theorem dX4_open_22 : decode cX4_open 22 = .ok (.getfield 124, 3) := by decide +kernel
theorem dX4_open_25 : decode cX4_open 25 = .ok (.lreturn, 1) := by decide +kernel
theorem dX4_unseal_0 : decode cX4_unseal 0 = .ok (.iload_n 1, 1) := by decide +kernel
theorem dX4_unseal_1 : decode cX4_unseal 1 = .ok (.iconst 4, 1) := by decide +kernel
theorem dX4_unseal_2 : decode cX4_unseal 2 = .ok (.invokestatic 62, 3) := by decide +kernel
theorem dX4_unseal_5 : decode cX4_unseal 5 = .ok (.iload_n 2, 1) := by decide +kernel
theorem dX4_unseal_6 : decode cX4_unseal 6 = .ok (.iconst 3, 1) := by decide +kernel
theorem dX4_unseal_7 : decode cX4_unseal 7 = .ok (.invokestatic 62, 3) := by decide +kernel
theorem dX4_unseal_10 : decode cX4_unseal 10 = .ok (.aload_n 0, 1) := by decide +kernel
theorem dX4_unseal_11 : decode cX4_unseal 11 = .ok (.invokevirtual 66, 3) := by decide +kernel
theorem dX4_unseal_14 : decode cX4_unseal 14 = .ok (.aload_n 0, 1) := by decide +kernel
theorem dX4_unseal_15 : decode cX4_unseal 15 = .ok (.iload_n 1, 1) := by decide +kernel
theorem dX4_unseal_16 : decode cX4_unseal 16 = .ok (.invokevirtual 81, 3) := by decide +kernel
theorem dX4_unseal_19 : decode cX4_unseal 19 = .ok (.astore_n 3, 1) := by decide +kernel
theorem dX4_unseal_20 : decode cX4_unseal 20 = .ok (.aload_n 0, 1) := by decide +kernel
theorem dX4_unseal_21 : decode cX4_unseal 21 = .ok (.aload_n 3, 1) := by decide +kernel
theorem dX4_unseal_22 : decode cX4_unseal 22 = .ok (.getfield 127, 3) := by decide +kernel
theorem dX4_unseal_25 : decode cX4_unseal 25 = .ok (.aload_n 0, 1) := by decide +kernel
theorem dX4_unseal_26 : decode cX4_unseal 26 = .ok (.getfield 32, 3) := by decide +kernel
theorem dX4_unseal_29 : decode cX4_unseal 29 = .ok (.iload_n 2, 1) := by decide +kernel
theorem dX4_unseal_30 : decode cX4_unseal 30 = .ok (.aaload, 1) := by decide +kernel
theorem dX4_unseal_31 : decode cX4_unseal 31 = .ok (.invokevirtual 130, 3) := by decide +kernel
theorem dX4_unseal_34 : decode cX4_unseal 34 = .ok (.aload_n 0, 1) := by decide +kernel
theorem dX4_unseal_35 : decode cX4_unseal 35 = .ok (.getfield 32, 3) := by decide +kernel
theorem dX4_unseal_38 : decode cX4_unseal 38 = .ok (.iload_n 2, 1) := by decide +kernel
theorem dX4_unseal_39 : decode cX4_unseal 39 = .ok (.aaload, 1) := by decide +kernel
theorem dX4_unseal_40 : decode cX4_unseal 40 = .ok (.invokevirtual 134, 3) := by decide +kernel
theorem dX4_unseal_43 : decode cX4_unseal 43 = .ok (.aload_n 3, 1) := by decide +kernel
theorem dX4_unseal_44 : decode cX4_unseal 44 = .ok (.getfield 124, 3) := by decide +kernel
theorem dX4_unseal_47 : decode cX4_unseal 47 = .ok (.lreturn, 1) := by decide +kernel
theorem dX4_session_0 : decode cX4_session 0 = .ok (.iload_n 1, 1) := by decide +kernel
theorem dX4_session_1 : decode cX4_session 1 = .ok (.iconst 3, 1) := by decide +kernel
theorem dX4_session_2 : decode cX4_session 2 = .ok (.invokestatic 62, 3) := by decide +kernel
theorem dX4_session_5 : decode cX4_session 5 = .ok (.aload_n 0, 1) := by decide +kernel
theorem dX4_session_6 : decode cX4_session 6 = .ok (.invokevirtual 66, 3) := by decide +kernel
theorem dX4_session_9 : decode cX4_session 9 = .ok (.aload_n 0, 1) := by decide +kernel
theorem dX4_session_10 : decode cX4_session 10 = .ok (.getfield 32, 3) := by decide +kernel
theorem dX4_session_13 : decode cX4_session 13 = .ok (.iload_n 1, 1) := by decide +kernel
theorem dX4_session_14 : decode cX4_session 14 = .ok (.aaload, 1) := by decide +kernel
theorem dX4_session_15 : decode cX4_session 15 = .ok (.invokevirtual 134, 3) := by decide +kernel
theorem dX4_session_18 : decode cX4_session 18 = .ok (.return_, 1) := by decide +kernel
theorem dX4_pcr_0 : decode cX4_pcr 0 = .ok (.iload_n 1, 1) := by decide +kernel
theorem dX4_pcr_1 : decode cX4_pcr 1 = .ok (.iconst 3, 1) := by decide +kernel
theorem dX4_pcr_2 : decode cX4_pcr 2 = .ok (.invokestatic 62, 3) := by decide +kernel
theorem dX4_pcr_5 : decode cX4_pcr 5 = .ok (.iload_n 2, 1) := by decide +kernel
theorem dX4_pcr_6 : decode cX4_pcr 6 = .ok (.iconst 2, 1) := by decide +kernel
theorem dX4_pcr_7 : decode cX4_pcr 7 = .ok (.invokestatic 62, 3) := by decide +kernel
theorem dX4_pcr_10 : decode cX4_pcr 10 = .ok (.iload_n 3, 1) := by decide +kernel
theorem dX4_pcr_11 : decode cX4_pcr 11 = .ok (.iconst 1, 1) := by decide +kernel
theorem dX4_pcr_12 : decode cX4_pcr 12 = .ok (.sipush 255, 3) := by decide +kernel
theorem dX4_pcr_15 : decode cX4_pcr 15 = .ok (.invokestatic 58, 3) := by decide +kernel
theorem dX4_pcr_18 : decode cX4_pcr 18 = .ok (.aload_n 0, 1) := by decide +kernel
theorem dX4_pcr_19 : decode cX4_pcr 19 = .ok (.invokevirtual 66, 3) := by decide +kernel
theorem dX4_pcr_22 : decode cX4_pcr 22 = .ok (.aload_n 0, 1) := by decide +kernel
theorem dX4_pcr_23 : decode cX4_pcr 23 = .ok (.getfield 32, 3) := by decide +kernel
theorem dX4_pcr_26 : decode cX4_pcr 26 = .ok (.iload_n 1, 1) := by decide +kernel
theorem dX4_pcr_27 : decode cX4_pcr 27 = .ok (.aaload, 1) := by decide +kernel
theorem dX4_pcr_28 : decode cX4_pcr 28 = .ok (.astore 4, 2) := by decide +kernel
theorem dX4_pcr_30 : decode cX4_pcr 30 = .ok (.aload 4, 2) := by decide +kernel
theorem dX4_pcr_32 : decode cX4_pcr 32 = .ok (.aload 4, 2) := by decide +kernel
theorem dX4_pcr_34 : decode cX4_pcr 34 = .ok (.getfield 137, 3) := by decide +kernel
theorem dX4_pcr_37 : decode cX4_pcr 37 = .ok (.ldc2_w 140, 3) := by decide +kernel
theorem dX4_pcr_40 : decode cX4_pcr 40 = .ok (.invokestatic 42, 3) := by decide +kernel
theorem dX4_pcr_43 : decode cX4_pcr 43 = .ok (.aload_n 0, 1) := by decide +kernel
theorem dX4_pcr_44 : decode cX4_pcr 44 = .ok (.iload_n 2, 1) := by decide +kernel
theorem dX4_pcr_45 : decode cX4_pcr 45 = .ok (.iload_n 3, 1) := by decide +kernel
theorem dX4_pcr_46 : decode cX4_pcr 46 = .ok (.invokevirtual 142, 3) := by decide +kernel
theorem dX4_pcr_49 : decode cX4_pcr 49 = .ok (.invokestatic 42, 3) := by decide +kernel
theorem dX4_pcr_52 : decode cX4_pcr 52 = .ok (.putfield 137, 3) := by decide +kernel
theorem dX4_pcr_55 : decode cX4_pcr 55 = .ok (.aload 4, 2) := by decide +kernel
theorem dX4_pcr_57 : decode cX4_pcr 57 = .ok (.iconst 1, 1) := by decide +kernel
theorem dX4_pcr_58 : decode cX4_pcr 58 = .ok (.putfield 146, 3) := by decide +kernel
theorem dX4_pcr_61 : decode cX4_pcr 61 = .ok (.aload 4, 2) := by decide +kernel
theorem dX4_pcr_63 : decode cX4_pcr 63 = .ok (.aload_n 0, 1) := by decide +kernel
theorem dX4_pcr_64 : decode cX4_pcr 64 = .ok (.getfield 69, 3) := by decide +kernel
theorem dX4_pcr_67 : decode cX4_pcr 67 = .ok (.putfield 149, 3) := by decide +kernel
theorem dX4_pcr_70 : decode cX4_pcr 70 = .ok (.aload 4, 2) := by decide +kernel
theorem dX4_pcr_72 : decode cX4_pcr 72 = .ok (.getfield 137, 3) := by decide +kernel
theorem dX4_pcr_75 : decode cX4_pcr 75 = .ok (.lreturn, 1) := by decide +kernel
theorem dX4_either_0 : decode cX4_either 0 = .ok (.iload_n 1, 1) := by decide +kernel
theorem dX4_either_1 : decode cX4_either 1 = .ok (.iconst 3, 1) := by decide +kernel
theorem dX4_either_2 : decode cX4_either 2 = .ok (.invokestatic 62, 3) := by decide +kernel
theorem dX4_either_5 : decode cX4_either 5 = .ok (.aload_n 0, 1) := by decide +kernel
theorem dX4_either_6 : decode cX4_either 6 = .ok (.invokevirtual 66, 3) := by decide +kernel
theorem dX4_either_9 : decode cX4_either 9 = .ok (.aload_n 0, 1) := by decide +kernel
theorem dX4_either_10 : decode cX4_either 10 = .ok (.getfield 32, 3) := by decide +kernel
theorem dX4_either_13 : decode cX4_either 13 = .ok (.iload_n 1, 1) := by decide +kernel
theorem dX4_either_14 : decode cX4_either 14 = .ok (.aaload, 1) := by decide +kernel
theorem dX4_either_15 : decode cX4_either 15 = .ok (.astore 6, 2) := by decide +kernel
theorem dX4_either_17 : decode cX4_either 17 = .ok (.aload 6, 2) := by decide +kernel
theorem dX4_either_19 : decode cX4_either 19 = .ok (.getfield 137, 3) := by decide +kernel
theorem dX4_either_22 : decode cX4_either 22 = .ok (.lload_n 2, 1) := by decide +kernel
theorem dX4_either_23 : decode cX4_either 23 = .ok (.lcmp, 1) := by decide +kernel
theorem dX4_either_24 : decode cX4_either 24 = .ok (.ifCond .eq 24, 3) := by decide +kernel
theorem dX4_either_27 : decode cX4_either 27 = .ok (.aload 6, 2) := by decide +kernel
theorem dX4_either_29 : decode cX4_either 29 = .ok (.getfield 137, 3) := by decide +kernel
theorem dX4_either_32 : decode cX4_either 32 = .ok (.lload 4, 2) := by decide +kernel
theorem dX4_either_34 : decode cX4_either 34 = .ok (.lcmp, 1) := by decide +kernel
theorem dX4_either_35 : decode cX4_either 35 = .ok (.ifCond .eq 13, 3) := by decide +kernel
theorem dX4_either_38 : decode cX4_either 38 = .ok (.new 152, 3) := by decide +kernel
theorem dX4_either_41 : decode cX4_either 41 = .ok (.dup, 1) := by decide +kernel
theorem dX4_either_42 : decode cX4_either 42 = .ok (.ldc 154, 2) := by decide +kernel
theorem dX4_either_44 : decode cX4_either 44 = .ok (.invokespecial 156, 3) := by decide +kernel
theorem dX4_either_47 : decode cX4_either 47 = .ok (.athrow, 1) := by decide +kernel
theorem dX4_either_48 : decode cX4_either 48 = .ok (.aload 6, 2) := by decide +kernel
theorem dX4_either_50 : decode cX4_either 50 = .ok (.ldc2_w 159, 3) := by decide +kernel
theorem dX4_either_53 : decode cX4_either 53 = .ok (.lload_n 2, 1) := by decide +kernel
theorem dX4_either_54 : decode cX4_either 54 = .ok (.lload 4, 2) := by decide +kernel
theorem dX4_either_56 : decode cX4_either 56 = .ok (.invokestatic 42, 3) := by decide +kernel
theorem dX4_either_59 : decode cX4_either 59 = .ok (.invokestatic 42, 3) := by decide +kernel
theorem dX4_either_62 : decode cX4_either 62 = .ok (.putfield 137, 3) := by decide +kernel
theorem dX4_either_65 : decode cX4_either 65 = .ok (.aload 6, 2) := by decide +kernel
theorem dX4_either_67 : decode cX4_either 67 = .ok (.getfield 137, 3) := by decide +kernel
theorem dX4_either_70 : decode cX4_either 70 = .ok (.lreturn, 1) := by decide +kernel
theorem dX4_with_0 : decode cX4_with 0 = .ok (.iload_n 1, 1) := by decide +kernel
theorem dX4_with_1 : decode cX4_with 1 = .ok (.iconst 3, 1) := by decide +kernel
theorem dX4_with_2 : decode cX4_with 2 = .ok (.invokestatic 62, 3) := by decide +kernel
theorem dX4_with_5 : decode cX4_with 5 = .ok (.iload_n 2, 1) := by decide +kernel
theorem dX4_with_6 : decode cX4_with 6 = .ok (.iconst 4, 1) := by decide +kernel
theorem dX4_with_7 : decode cX4_with 7 = .ok (.invokestatic 62, 3) := by decide +kernel
theorem dX4_with_10 : decode cX4_with 10 = .ok (.aload_n 0, 1) := by decide +kernel
theorem dX4_with_11 : decode cX4_with 11 = .ok (.invokevirtual 66, 3) := by decide +kernel
theorem dX4_with_14 : decode cX4_with 14 = .ok (.aload_n 0, 1) := by decide +kernel
theorem dX4_with_15 : decode cX4_with 15 = .ok (.iload_n 2, 1) := by decide +kernel
theorem dX4_with_16 : decode cX4_with 16 = .ok (.invokevirtual 81, 3) := by decide +kernel
theorem dX4_with_19 : decode cX4_with 19 = .ok (.astore 4, 2) := by decide +kernel
theorem dX4_with_21 : decode cX4_with 21 = .ok (.aload_n 0, 1) := by decide +kernel
theorem dX4_with_22 : decode cX4_with 22 = .ok (.aload 4, 2) := by decide +kernel
theorem dX4_with_24 : decode cX4_with 24 = .ok (.iload_n 3, 1) := by decide +kernel
theorem dX4_with_25 : decode cX4_with 25 = .ok (.invokevirtual 120, 3) := by decide +kernel
theorem dX4_with_28 : decode cX4_with 28 = .ok (.aload_n 0, 1) := by decide +kernel
theorem dX4_with_29 : decode cX4_with 29 = .ok (.getfield 32, 3) := by decide +kernel
theorem dX4_with_32 : decode cX4_with 32 = .ok (.iload_n 1, 1) := by decide +kernel
theorem dX4_with_33 : decode cX4_with 33 = .ok (.aaload, 1) := by decide +kernel
theorem dX4_with_34 : decode cX4_with 34 = .ok (.astore 5, 2) := by decide +kernel
theorem dX4_with_36 : decode cX4_with 36 = .ok (.aload 5, 2) := by decide +kernel
theorem dX4_with_38 : decode cX4_with 38 = .ok (.aload 5, 2) := by decide +kernel
theorem dX4_with_40 : decode cX4_with 40 = .ok (.getfield 137, 3) := by decide +kernel
theorem dX4_with_43 : decode cX4_with 43 = .ok (.ldc2_w 161, 3) := by decide +kernel
theorem dX4_with_46 : decode cX4_with 46 = .ok (.invokestatic 42, 3) := by decide +kernel
theorem dX4_with_49 : decode cX4_with 49 = .ok (.aload 4, 2) := by decide +kernel
theorem dX4_with_51 : decode cX4_with 51 = .ok (.invokevirtual 163, 3) := by decide +kernel
theorem dX4_with_54 : decode cX4_with 54 = .ok (.invokestatic 42, 3) := by decide +kernel
theorem dX4_with_57 : decode cX4_with 57 = .ok (.putfield 137, 3) := by decide +kernel
theorem dX4_with_60 : decode cX4_with 60 = .ok (.aload 5, 2) := by decide +kernel
theorem dX4_with_62 : decode cX4_with 62 = .ok (.getfield 137, 3) := by decide +kernel
theorem dX4_with_65 : decode cX4_with 65 = .ok (.lreturn, 1) := by decide +kernel
theorem dX4_define_0 : decode cX4_define 0 = .ok (.iload_n 1, 1) := by decide +kernel
theorem dX4_define_1 : decode cX4_define 1 = .ok (.iconst 4, 1) := by decide +kernel
theorem dX4_define_2 : decode cX4_define 2 = .ok (.invokestatic 62, 3) := by decide +kernel
theorem dX4_define_5 : decode cX4_define 5 = .ok (.aload_n 0, 1) := by decide +kernel
theorem dX4_define_6 : decode cX4_define 6 = .ok (.invokevirtual 66, 3) := by decide +kernel
theorem dX4_define_9 : decode cX4_define 9 = .ok (.aload_n 0, 1) := by decide +kernel
theorem dX4_define_10 : decode cX4_define 10 = .ok (.getfield 38, 3) := by decide +kernel
theorem dX4_define_13 : decode cX4_define 13 = .ok (.iload_n 1, 1) := by decide +kernel
theorem dX4_define_14 : decode cX4_define 14 = .ok (.aaload, 1) := by decide +kernel
theorem dX4_define_15 : decode cX4_define 15 = .ok (.getfield 167, 3) := by decide +kernel
theorem dX4_define_18 : decode cX4_define 18 = .ok (.ifCond .eq 13, 3) := by decide +kernel
theorem dX4_define_21 : decode cX4_define 21 = .ok (.new 170, 3) := by decide +kernel
theorem dX4_define_24 : decode cX4_define 24 = .ok (.dup, 1) := by decide +kernel
theorem dX4_define_25 : decode cX4_define 25 = .ok (.ldc 172, 2) := by decide +kernel
theorem dX4_define_27 : decode cX4_define 27 = .ok (.invokespecial 174, 3) := by decide +kernel
theorem dX4_define_30 : decode cX4_define 30 = .ok (.athrow, 1) := by decide +kernel
theorem dX4_define_31 : decode cX4_define 31 = .ok (.aload_n 0, 1) := by decide +kernel
theorem dX4_define_32 : decode cX4_define 32 = .ok (.iconst 2, 1) := by decide +kernel
theorem dX4_define_33 : decode cX4_define 33 = .ok (.invokevirtual 175, 3) := by decide +kernel
theorem dX4_define_36 : decode cX4_define 36 = .ok (.aload_n 0, 1) := by decide +kernel
theorem dX4_define_37 : decode cX4_define 37 = .ok (.getfield 38, 3) := by decide +kernel
theorem dX4_define_40 : decode cX4_define 40 = .ok (.iload_n 1, 1) := by decide +kernel
theorem dX4_define_41 : decode cX4_define 41 = .ok (.aaload, 1) := by decide +kernel
theorem dX4_define_42 : decode cX4_define 42 = .ok (.iload_n 2, 1) := by decide +kernel
theorem dX4_define_43 : decode cX4_define 43 = .ok (.lload_n 3, 1) := by decide +kernel
theorem dX4_define_44 : decode cX4_define 44 = .ok (.invokevirtual 178, 3) := by decide +kernel
theorem dX4_define_47 : decode cX4_define 47 = .ok (.return_, 1) := by decide +kernel
theorem dX4_remove_0 : decode cX4_remove 0 = .ok (.iload_n 1, 1) := by decide +kernel
theorem dX4_remove_1 : decode cX4_remove 1 = .ok (.iconst 4, 1) := by decide +kernel
theorem dX4_remove_2 : decode cX4_remove 2 = .ok (.invokestatic 62, 3) := by decide +kernel
theorem dX4_remove_5 : decode cX4_remove 5 = .ok (.aload_n 0, 1) := by decide +kernel
theorem dX4_remove_6 : decode cX4_remove 6 = .ok (.invokevirtual 66, 3) := by decide +kernel
theorem dX4_remove_9 : decode cX4_remove 9 = .ok (.aload_n 0, 1) := by decide +kernel
theorem dX4_remove_10 : decode cX4_remove 10 = .ok (.iload_n 1, 1) := by decide +kernel
theorem dX4_remove_11 : decode cX4_remove 11 = .ok (.invokevirtual 182, 3) := by decide +kernel
theorem dX4_remove_14 : decode cX4_remove 14 = .ok (.astore_n 2, 1) := by decide +kernel
theorem dX4_remove_15 : decode cX4_remove 15 = .ok (.aload_n 0, 1) := by decide +kernel
theorem dX4_remove_16 : decode cX4_remove 16 = .ok (.iconst 2, 1) := by decide +kernel
theorem dX4_remove_17 : decode cX4_remove 17 = .ok (.invokevirtual 175, 3) := by decide +kernel
theorem dX4_remove_20 : decode cX4_remove 20 = .ok (.aload_n 2, 1) := by decide +kernel
theorem dX4_remove_21 : decode cX4_remove 21 = .ok (.iconst 0, 1) := by decide +kernel
theorem dX4_remove_22 : decode cX4_remove 22 = .ok (.putfield 167, 3) := by decide +kernel
theorem dX4_remove_25 : decode cX4_remove 25 = .ok (.return_, 1) := by decide +kernel
theorem dX4_write_0 : decode cX4_write 0 = .ok (.iload_n 1, 1) := by decide +kernel
theorem dX4_write_1 : decode cX4_write 1 = .ok (.iconst 4, 1) := by decide +kernel
theorem dX4_write_2 : decode cX4_write 2 = .ok (.invokestatic 62, 3) := by decide +kernel
theorem dX4_write_5 : decode cX4_write 5 = .ok (.iload_n 2, 1) := by decide +kernel
theorem dX4_write_6 : decode cX4_write 6 = .ok (.iconst 3, 1) := by decide +kernel
theorem dX4_write_7 : decode cX4_write 7 = .ok (.invokestatic 62, 3) := by decide +kernel
theorem dX4_write_10 : decode cX4_write 10 = .ok (.aload_n 0, 1) := by decide +kernel
theorem dX4_write_11 : decode cX4_write 11 = .ok (.invokevirtual 66, 3) := by decide +kernel
theorem dX4_write_14 : decode cX4_write 14 = .ok (.aload_n 0, 1) := by decide +kernel
theorem dX4_write_15 : decode cX4_write 15 = .ok (.iload_n 1, 1) := by decide +kernel
theorem dX4_write_16 : decode cX4_write 16 = .ok (.invokevirtual 182, 3) := by decide +kernel
theorem dX4_write_19 : decode cX4_write 19 = .ok (.astore 5, 2) := by decide +kernel
theorem dX4_write_21 : decode cX4_write 21 = .ok (.aload 5, 2) := by decide +kernel
theorem dX4_write_23 : decode cX4_write 23 = .ok (.getfield 186, 3) := by decide +kernel
theorem dX4_write_26 : decode cX4_write 26 = .ok (.lconst 0, 1) := by decide +kernel
theorem dX4_write_27 : decode cX4_write 27 = .ok (.lcmp, 1) := by decide +kernel
theorem dX4_write_28 : decode cX4_write 28 = .ok (.ifCond .eq 18, 3) := by decide +kernel
theorem dX4_write_31 : decode cX4_write 31 = .ok (.aload_n 0, 1) := by decide +kernel
theorem dX4_write_32 : decode cX4_write 32 = .ok (.aload 5, 2) := by decide +kernel
theorem dX4_write_34 : decode cX4_write 34 = .ok (.getfield 186, 3) := by decide +kernel
theorem dX4_write_37 : decode cX4_write 37 = .ok (.aload_n 0, 1) := by decide +kernel
theorem dX4_write_38 : decode cX4_write 38 = .ok (.getfield 32, 3) := by decide +kernel
theorem dX4_write_41 : decode cX4_write 41 = .ok (.iload_n 2, 1) := by decide +kernel
theorem dX4_write_42 : decode cX4_write 42 = .ok (.aaload, 1) := by decide +kernel
theorem dX4_write_43 : decode cX4_write 43 = .ok (.invokevirtual 130, 3) := by decide +kernel
theorem dX4_write_46 : decode cX4_write 46 = .ok (.aload_n 0, 1) := by decide +kernel
theorem dX4_write_47 : decode cX4_write 47 = .ok (.iconst 3, 1) := by decide +kernel
theorem dX4_write_48 : decode cX4_write 48 = .ok (.invokevirtual 175, 3) := by decide +kernel
theorem dX4_write_51 : decode cX4_write 51 = .ok (.aload 5, 2) := by decide +kernel
theorem dX4_write_53 : decode cX4_write 53 = .ok (.getfield 186, 3) := by decide +kernel
theorem dX4_write_56 : decode cX4_write 56 = .ok (.lconst 0, 1) := by decide +kernel
theorem dX4_write_57 : decode cX4_write 57 = .ok (.lcmp, 1) := by decide +kernel
theorem dX4_write_58 : decode cX4_write 58 = .ok (.ifCond .eq 12, 3) := by decide +kernel
theorem dX4_write_61 : decode cX4_write 61 = .ok (.aload_n 0, 1) := by decide +kernel
theorem dX4_write_62 : decode cX4_write 62 = .ok (.getfield 32, 3) := by decide +kernel
theorem dX4_write_65 : decode cX4_write 65 = .ok (.iload_n 2, 1) := by decide +kernel
theorem dX4_write_66 : decode cX4_write 66 = .ok (.aaload, 1) := by decide +kernel
theorem dX4_write_67 : decode cX4_write 67 = .ok (.invokevirtual 134, 3) := by decide +kernel
theorem dX4_write_70 : decode cX4_write 70 = .ok (.aload 5, 2) := by decide +kernel
theorem dX4_write_72 : decode cX4_write 72 = .ok (.aload 5, 2) := by decide +kernel
theorem dX4_write_74 : decode cX4_write 74 = .ok (.getfield 187, 3) := by decide +kernel
theorem dX4_write_77 : decode cX4_write 77 = .ok (.ifCond .eq 10, 3) := by decide +kernel
theorem dX4_write_80 : decode cX4_write 80 = .ok (.aload_n 0, 1) := by decide +kernel
theorem dX4_write_81 : decode cX4_write 81 = .ok (.invokevirtual 190, 3) := by decide +kernel
theorem dX4_write_84 : decode cX4_write 84 = .ok (.goto 4, 3) := by decide +kernel
theorem dX4_write_87 : decode cX4_write 87 = .ok (.lload_n 3, 1) := by decide +kernel
theorem dX4_write_88 : decode cX4_write 88 = .ok (.putfield 193, 3) := by decide +kernel
theorem dX4_write_91 : decode cX4_write 91 = .ok (.aload 5, 2) := by decide +kernel
theorem dX4_write_93 : decode cX4_write 93 = .ok (.iconst 1, 1) := by decide +kernel
theorem dX4_write_94 : decode cX4_write 94 = .ok (.putfield 194, 3) := by decide +kernel
theorem dX4_write_97 : decode cX4_write 97 = .ok (.aload 5, 2) := by decide +kernel
theorem dX4_write_99 : decode cX4_write 99 = .ok (.getfield 193, 3) := by decide +kernel
theorem dX4_write_102 : decode cX4_write 102 = .ok (.lreturn, 1) := by decide +kernel
theorem dX4_read_0 : decode cX4_read 0 = .ok (.iload_n 1, 1) := by decide +kernel
theorem dX4_read_1 : decode cX4_read 1 = .ok (.iconst 4, 1) := by decide +kernel
theorem dX4_read_2 : decode cX4_read 2 = .ok (.invokestatic 62, 3) := by decide +kernel
theorem dX4_read_5 : decode cX4_read 5 = .ok (.aload_n 0, 1) := by decide +kernel
theorem dX4_read_6 : decode cX4_read 6 = .ok (.invokevirtual 66, 3) := by decide +kernel
theorem dX4_read_9 : decode cX4_read 9 = .ok (.aload_n 0, 1) := by decide +kernel
theorem dX4_read_10 : decode cX4_read 10 = .ok (.iload_n 1, 1) := by decide +kernel
theorem dX4_read_11 : decode cX4_read 11 = .ok (.invokevirtual 182, 3) := by decide +kernel
theorem dX4_read_14 : decode cX4_read 14 = .ok (.astore_n 2, 1) := by decide +kernel
theorem dX4_read_15 : decode cX4_read 15 = .ok (.aload_n 2, 1) := by decide +kernel
theorem dX4_read_16 : decode cX4_read 16 = .ok (.getfield 194, 3) := by decide +kernel
theorem dX4_read_19 : decode cX4_read 19 = .ok (.ifCond .ne 13, 3) := by decide +kernel
theorem dX4_read_22 : decode cX4_read 22 = .ok (.new 197, 3) := by decide +kernel
theorem dX4_read_25 : decode cX4_read 25 = .ok (.dup, 1) := by decide +kernel
theorem dX4_read_26 : decode cX4_read 26 = .ok (.ldc 199, 2) := by decide +kernel
theorem dX4_read_28 : decode cX4_read 28 = .ok (.invokespecial 201, 3) := by decide +kernel
theorem dX4_read_31 : decode cX4_read 31 = .ok (.athrow, 1) := by decide +kernel
theorem dX4_read_32 : decode cX4_read 32 = .ok (.aload_n 2, 1) := by decide +kernel
theorem dX4_read_33 : decode cX4_read 33 = .ok (.getfield 193, 3) := by decide +kernel
theorem dX4_read_36 : decode cX4_read 36 = .ok (.lreturn, 1) := by decide +kernel
theorem dX4_clock_0 : decode cX4_clock 0 = .ok (.iload_n 1, 1) := by decide +kernel
theorem dX4_clock_1 : decode cX4_clock 1 = .ok (.iconst 0, 1) := by decide +kernel
theorem dX4_clock_2 : decode cX4_clock 2 = .ok (.bipush 100, 2) := by decide +kernel
theorem dX4_clock_4 : decode cX4_clock 4 = .ok (.invokestatic 58, 3) := by decide +kernel
theorem dX4_clock_7 : decode cX4_clock 7 = .ok (.iload_n 2, 1) := by decide +kernel
theorem dX4_clock_8 : decode cX4_clock 8 = .ok (.iconst 0, 1) := by decide +kernel
theorem dX4_clock_9 : decode cX4_clock 9 = .ok (.iconst 2, 1) := by decide +kernel
theorem dX4_clock_10 : decode cX4_clock 10 = .ok (.invokestatic 58, 3) := by decide +kernel
theorem dX4_clock_13 : decode cX4_clock 13 = .ok (.aload_n 0, 1) := by decide +kernel
theorem dX4_clock_14 : decode cX4_clock 14 = .ok (.invokevirtual 66, 3) := by decide +kernel
theorem dX4_clock_17 : decode cX4_clock 17 = .ok (.aload_n 0, 1) := by decide +kernel
theorem dX4_clock_18 : decode cX4_clock 18 = .ok (.aload_n 0, 1) := by decide +kernel
theorem dX4_clock_19 : decode cX4_clock 19 = .ok (.getfield 202, 3) := by decide +kernel
theorem dX4_clock_22 : decode cX4_clock 22 = .ok (.iload_n 1, 1) := by decide +kernel
theorem dX4_clock_23 : decode cX4_clock 23 = .ok (.i2d, 1) := by decide +kernel
theorem dX4_clock_24 : decode cX4_clock 24 = .ok (.aload_n 0, 1) := by decide +kernel
theorem dX4_clock_25 : decode cX4_clock 25 = .ok (.getfield 50, 3) := by decide +kernel
theorem dX4_clock_28 : decode cX4_clock 28 = .ok (.dmul, 1) := by decide +kernel
theorem dX4_clock_29 : decode cX4_clock 29 = .ok (.dadd, 1) := by decide +kernel
theorem dX4_clock_30 : decode cX4_clock 30 = .ok (.putfield 202, 3) := by decide +kernel
theorem dX4_clock_33 : decode cX4_clock 33 = .ok (.aload_n 0, 1) := by decide +kernel
theorem dX4_clock_34 : decode cX4_clock 34 = .ok (.invokevirtual 205, 3) := by decide +kernel
theorem dX4_clock_37 : decode cX4_clock 37 = .ok (.iload_n 2, 1) := by decide +kernel
theorem dX4_clock_38 : decode cX4_clock 38 = .ok (.iconst 1, 1) := by decide +kernel
theorem dX4_clock_39 : decode cX4_clock 39 = .ok (.if_icmp .ne 18, 3) := by decide +kernel
theorem dX4_clock_42 : decode cX4_clock 42 = .ok (.aload_n 0, 1) := by decide +kernel
theorem dX4_clock_43 : decode cX4_clock 43 = .ok (.aload_n 0, 1) := by decide +kernel
theorem dX4_clock_44 : decode cX4_clock 44 = .ok (.getfield 50, 3) := by decide +kernel
theorem dX4_clock_47 : decode cX4_clock 47 = .ok (.ldc2_w 208, 3) := by decide +kernel
theorem dX4_clock_50 : decode cX4_clock 50 = .ok (.dmul, 1) := by decide +kernel
theorem dX4_clock_51 : decode cX4_clock 51 = .ok (.invokevirtual 210, 3) := by decide +kernel
theorem dX4_clock_54 : decode cX4_clock 54 = .ok (.goto 20, 3) := by decide +kernel
theorem dX4_clock_57 : decode cX4_clock 57 = .ok (.iload_n 2, 1) := by decide +kernel
theorem dX4_clock_58 : decode cX4_clock 58 = .ok (.iconst 2, 1) := by decide +kernel
theorem dX4_clock_59 : decode cX4_clock 59 = .ok (.if_icmp .ne 15, 3) := by decide +kernel
theorem dX4_clock_62 : decode cX4_clock 62 = .ok (.aload_n 0, 1) := by decide +kernel
theorem dX4_clock_63 : decode cX4_clock 63 = .ok (.aload_n 0, 1) := by decide +kernel
theorem dX4_clock_64 : decode cX4_clock 64 = .ok (.getfield 50, 3) := by decide +kernel
theorem dX4_clock_67 : decode cX4_clock 67 = .ok (.ldc2_w 214, 3) := by decide +kernel
theorem dX4_clock_70 : decode cX4_clock 70 = .ok (.dmul, 1) := by decide +kernel
theorem dX4_clock_71 : decode cX4_clock 71 = .ok (.invokevirtual 210, 3) := by decide +kernel
theorem dX4_clock_74 : decode cX4_clock 74 = .ok (.aload_n 0, 1) := by decide +kernel
theorem dX4_clock_75 : decode cX4_clock 75 = .ok (.getfield 202, 3) := by decide +kernel
theorem dX4_clock_78 : decode cX4_clock 78 = .ok (.dreturn, 1) := by decide +kernel
theorem dX4_clear_0 : decode cX4_clear 0 = .ok (.aload_n 0, 1) := by decide +kernel
theorem dX4_clear_1 : decode cX4_clear 1 = .ok (.invokevirtual 66, 3) := by decide +kernel
theorem dX4_clear_4 : decode cX4_clear 4 = .ok (.aload_n 0, 1) := by decide +kernel
theorem dX4_clear_5 : decode cX4_clear 5 = .ok (.getfield 9, 3) := by decide +kernel
theorem dX4_clear_8 : decode cX4_clear 8 = .ok (.iconst 0, 1) := by decide +kernel
theorem dX4_clear_9 : decode cX4_clear 9 = .ok (.aload_n 0, 1) := by decide +kernel
theorem dX4_clear_10 : decode cX4_clear 10 = .ok (.getfield 9, 3) := by decide +kernel
theorem dX4_clear_13 : decode cX4_clear 13 = .ok (.iconst 0, 1) := by decide +kernel
theorem dX4_clear_14 : decode cX4_clear 14 = .ok (.laload, 1) := by decide +kernel
theorem dX4_clear_15 : decode cX4_clear 15 = .ok (.ldc2_w 216, 3) := by decide +kernel
theorem dX4_clear_18 : decode cX4_clear 18 = .ok (.invokestatic 42, 3) := by decide +kernel
theorem dX4_clear_21 : decode cX4_clear 21 = .ok (.lastore, 1) := by decide +kernel
theorem dX4_clear_22 : decode cX4_clear 22 = .ok (.aload_n 0, 1) := by decide +kernel
theorem dX4_clear_23 : decode cX4_clear 23 = .ok (.invokevirtual 218, 3) := by decide +kernel
theorem dX4_clear_26 : decode cX4_clear 26 = .ok (.iconst 0, 1) := by decide +kernel
theorem dX4_clear_27 : decode cX4_clear 27 = .ok (.istore_n 1, 1) := by decide +kernel
theorem dX4_clear_28 : decode cX4_clear 28 = .ok (.iload_n 1, 1) := by decide +kernel
theorem dX4_clear_29 : decode cX4_clear 29 = .ok (.iconst 4, 1) := by decide +kernel
theorem dX4_clear_30 : decode cX4_clear 30 = .ok (.if_icmp .ge 19, 3) := by decide +kernel
theorem dX4_clear_33 : decode cX4_clear 33 = .ok (.aload_n 0, 1) := by decide +kernel
theorem dX4_clear_34 : decode cX4_clear 34 = .ok (.getfield 38, 3) := by decide +kernel
theorem dX4_clear_37 : decode cX4_clear 37 = .ok (.iload_n 1, 1) := by decide +kernel
theorem dX4_clear_38 : decode cX4_clear 38 = .ok (.aaload, 1) := by decide +kernel
theorem dX4_clear_39 : decode cX4_clear 39 = .ok (.iconst 0, 1) := by decide +kernel
theorem dX4_clear_40 : decode cX4_clear 40 = .ok (.putfield 167, 3) := by decide +kernel
theorem dX4_clear_43 : decode cX4_clear 43 = .ok (.iinc 1 1, 3) := by decide +kernel
theorem dX4_clear_46 : decode cX4_clear 46 = .ok (.goto (-18), 3) := by decide +kernel
theorem dX4_clear_49 : decode cX4_clear 49 = .ok (.aload_n 0, 1) := by decide +kernel
theorem dX4_clear_50 : decode cX4_clear 50 = .ok (.iconst 0, 1) := by decide +kernel
theorem dX4_clear_51 : decode cX4_clear 51 = .ok (.putfield 221, 3) := by decide +kernel
theorem dX4_clear_54 : decode cX4_clear 54 = .ok (.return_, 1) := by decide +kernel
theorem dX4_told_0 : decode cX4_told 0 = .ok (.iload_n 1, 1) := by decide +kernel
theorem dX4_told_1 : decode cX4_told 1 = .ok (.getstatic 224, 3) := by decide +kernel
theorem dX4_told_4 : decode cX4_told 4 = .ok (.arraylength, 1) := by decide +kernel
theorem dX4_told_5 : decode cX4_told 5 = .ok (.invokestatic 62, 3) := by decide +kernel
theorem dX4_told_8 : decode cX4_told 8 = .ok (.iload_n 2, 1) := by decide +kernel
theorem dX4_told_9 : decode cX4_told 9 = .ok (.getstatic 224, 3) := by decide +kernel
theorem dX4_told_12 : decode cX4_told 12 = .ok (.iload_n 1, 1) := by decide +kernel
theorem dX4_told_13 : decode cX4_told 13 = .ok (.iaload, 1) := by decide +kernel
theorem dX4_told_14 : decode cX4_told 14 = .ok (.invokestatic 62, 3) := by decide +kernel
theorem dX4_told_17 : decode cX4_told 17 = .ok (.iload_n 1, 1) := by decide +kernel
theorem dX4_told_18 : decode cX4_told 18 = .ok (.tableswitch 60 2 4 #[26, 35, 50], 26) := by decide +kernel
theorem dX4_told_44 : decode cX4_told 44 = .ok (.aload_n 0, 1) := by decide +kernel
theorem dX4_told_45 : decode cX4_told 45 = .ok (.iload_n 2, 1) := by decide +kernel
theorem dX4_told_46 : decode cX4_told 46 = .ok (.invokevirtual 81, 3) := by decide +kernel
theorem dX4_told_49 : decode cX4_told 49 = .ok (.invokevirtual 163, 3) := by decide +kernel
theorem dX4_told_52 : decode cX4_told 52 = .ok (.lreturn, 1) := by decide +kernel
theorem dX4_told_53 : decode cX4_told 53 = .ok (.aload_n 0, 1) := by decide +kernel
theorem dX4_told_54 : decode cX4_told 54 = .ok (.iload_n 2, 1) := by decide +kernel
theorem dX4_told_55 : decode cX4_told 55 = .ok (.iconst 4, 1) := by decide +kernel
theorem dX4_told_56 : decode cX4_told 56 = .ok (.idiv, 1) := by decide +kernel
theorem dX4_told_57 : decode cX4_told 57 = .ok (.invokevirtual 97, 3) := by decide +kernel
theorem dX4_told_60 : decode cX4_told 60 = .ok (.getfield 109, 3) := by decide +kernel
theorem dX4_told_63 : decode cX4_told 63 = .ok (.iload_n 2, 1) := by decide +kernel
theorem dX4_told_64 : decode cX4_told 64 = .ok (.iconst 4, 1) := by decide +kernel
theorem dX4_told_65 : decode cX4_told 65 = .ok (.irem, 1) := by decide +kernel
theorem dX4_told_66 : decode cX4_told 66 = .ok (.laload, 1) := by decide +kernel
theorem dX4_told_67 : decode cX4_told 67 = .ok (.lreturn, 1) := by decide +kernel
theorem dX4_told_68 : decode cX4_told 68 = .ok (.aload_n 0, 1) := by decide +kernel
theorem dX4_told_69 : decode cX4_told 69 = .ok (.getfield 32, 3) := by decide +kernel
theorem dX4_told_72 : decode cX4_told 72 = .ok (.iload_n 2, 1) := by decide +kernel
theorem dX4_told_73 : decode cX4_told 73 = .ok (.aaload, 1) := by decide +kernel
theorem dX4_told_74 : decode cX4_told 74 = .ok (.getfield 137, 3) := by decide +kernel
theorem dX4_told_77 : decode cX4_told 77 = .ok (.lreturn, 1) := by decide +kernel
theorem dX4_told_78 : decode cX4_told 78 = .ok (.aload_n 0, 1) := by decide +kernel
theorem dX4_told_79 : decode cX4_told 79 = .ok (.getfield 15, 3) := by decide +kernel
theorem dX4_told_82 : decode cX4_told 82 = .ok (.iload_n 1, 1) := by decide +kernel
theorem dX4_told_83 : decode cX4_told 83 = .ok (.aaload, 1) := by decide +kernel
theorem dX4_told_84 : decode cX4_told 84 = .ok (.iload_n 2, 1) := by decide +kernel
theorem dX4_told_85 : decode cX4_told 85 = .ok (.laload, 1) := by decide +kernel
theorem dX4_told_86 : decode cX4_told 86 = .ok (.lreturn, 1) := by decide +kernel
theorem dX4_count_0 : decode cX4_count 0 = .ok (.iload_n 1, 1) := by decide +kernel
theorem dX4_count_1 : decode cX4_count 1 = .ok (.tableswitch 95 0 7 #[47, 52, 57, 62, 67, 80, 85, 90], 47) := by decide +kernel
theorem dX4_count_48 : decode cX4_count 48 = .ok (.aload_n 0, 1) := by decide +kernel
theorem dX4_count_49 : decode cX4_count 49 = .ok (.invokevirtual 228, 3) := by decide +kernel
theorem dX4_count_52 : decode cX4_count 52 = .ok (.ireturn, 1) := by decide +kernel
theorem dX4_count_53 : decode cX4_count 53 = .ok (.aload_n 0, 1) := by decide +kernel
theorem dX4_count_54 : decode cX4_count 54 = .ok (.getfield 221, 3) := by decide +kernel
theorem dX4_count_57 : decode cX4_count 57 = .ok (.ireturn, 1) := by decide +kernel
theorem dX4_count_58 : decode cX4_count 58 = .ok (.aload_n 0, 1) := by decide +kernel
theorem dX4_count_59 : decode cX4_count 59 = .ok (.getfield 69, 3) := by decide +kernel
theorem dX4_count_62 : decode cX4_count 62 = .ok (.ireturn, 1) := by decide +kernel
theorem dX4_count_63 : decode cX4_count 63 = .ok (.aload_n 0, 1) := by decide +kernel
theorem dX4_count_64 : decode cX4_count 64 = .ok (.getfield 231, 3) := by decide +kernel
theorem dX4_count_67 : decode cX4_count 67 = .ok (.ireturn, 1) := by decide +kernel
theorem dX4_count_68 : decode cX4_count 68 = .ok (.aload_n 0, 1) := by decide +kernel
theorem dX4_count_69 : decode cX4_count 69 = .ok (.getfield 234, 3) := by decide +kernel
theorem dX4_count_72 : decode cX4_count 72 = .ok (.ifCond .eq 7, 3) := by decide +kernel
theorem dX4_count_75 : decode cX4_count 75 = .ok (.iconst 1, 1) := by decide +kernel
theorem dX4_count_76 : decode cX4_count 76 = .ok (.goto 4, 3) := by decide +kernel
theorem dX4_count_79 : decode cX4_count 79 = .ok (.iconst 0, 1) := by decide +kernel
theorem dX4_count_80 : decode cX4_count 80 = .ok (.ireturn, 1) := by decide +kernel
theorem dX4_count_81 : decode cX4_count 81 = .ok (.aload_n 0, 1) := by decide +kernel
theorem dX4_count_82 : decode cX4_count 82 = .ok (.invokevirtual 237, 3) := by decide +kernel
theorem dX4_count_85 : decode cX4_count 85 = .ok (.ireturn, 1) := by decide +kernel
theorem dX4_count_86 : decode cX4_count 86 = .ok (.aload_n 0, 1) := by decide +kernel
theorem dX4_count_87 : decode cX4_count 87 = .ok (.invokevirtual 240, 3) := by decide +kernel
theorem dX4_count_90 : decode cX4_count 90 = .ok (.ireturn, 1) := by decide +kernel
theorem dX4_count_91 : decode cX4_count 91 = .ok (.aload_n 0, 1) := by decide +kernel
theorem dX4_count_92 : decode cX4_count 92 = .ok (.getfield 243, 3) := by decide +kernel
theorem dX4_count_95 : decode cX4_count 95 = .ok (.ireturn, 1) := by decide +kernel
theorem dX4_count_96 : decode cX4_count 96 = .ok (.iconst (-1), 1) := by decide +kernel
theorem dX4_count_97 : decode cX4_count 97 = .ok (.ireturn, 1) := by decide +kernel
theorem dX4_rate_0 : decode cX4_rate 0 = .ok (.aload_n 0, 1) := by decide +kernel
theorem dX4_rate_1 : decode cX4_rate 1 = .ok (.getfield 50, 3) := by decide +kernel
theorem dX4_rate_4 : decode cX4_rate 4 = .ok (.dreturn, 1) := by decide +kernel
theorem dX4_hash_0 : decode cX4_hash 0 = .ok (.lload_n 0, 1) := by decide +kernel
theorem dX4_hash_1 : decode cX4_hash 1 = .ok (.ldc2_w 246, 3) := by decide +kernel
theorem dX4_hash_4 : decode cX4_hash 4 = .ok (.lmul, 1) := by decide +kernel
theorem dX4_hash_5 : decode cX4_hash 5 = .ok (.lload_n 2, 1) := by decide +kernel
theorem dX4_hash_6 : decode cX4_hash 6 = .ok (.ladd, 1) := by decide +kernel
theorem dX4_hash_7 : decode cX4_hash 7 = .ok (.ldc2_w 248, 3) := by decide +kernel
theorem dX4_hash_10 : decode cX4_hash 10 = .ok (.lmul, 1) := by decide +kernel
theorem dX4_hash_11 : decode cX4_hash 11 = .ok (.lstore 4, 2) := by decide +kernel
theorem dX4_hash_13 : decode cX4_hash 13 = .ok (.lload 4, 2) := by decide +kernel
theorem dX4_hash_15 : decode cX4_hash 15 = .ok (.lload 4, 2) := by decide +kernel
theorem dX4_hash_17 : decode cX4_hash 17 = .ok (.bipush 29, 2) := by decide +kernel
theorem dX4_hash_19 : decode cX4_hash 19 = .ok (.lushr, 1) := by decide +kernel
theorem dX4_hash_20 : decode cX4_hash 20 = .ok (.lxor, 1) := by decide +kernel
theorem dX4_hash_21 : decode cX4_hash 21 = .ok (.ldc2_w 250, 3) := by decide +kernel
theorem dX4_hash_24 : decode cX4_hash 24 = .ok (.lmul, 1) := by decide +kernel
theorem dX4_hash_25 : decode cX4_hash 25 = .ok (.lstore 4, 2) := by decide +kernel
theorem dX4_hash_27 : decode cX4_hash 27 = .ok (.lload 4, 2) := by decide +kernel
theorem dX4_hash_29 : decode cX4_hash 29 = .ok (.lload 4, 2) := by decide +kernel
theorem dX4_hash_31 : decode cX4_hash 31 = .ok (.bipush 32, 2) := by decide +kernel
theorem dX4_hash_33 : decode cX4_hash 33 = .ok (.lushr, 1) := by decide +kernel
theorem dX4_hash_34 : decode cX4_hash 34 = .ok (.lxor, 1) := by decide +kernel
theorem dX4_hash_35 : decode cX4_hash 35 = .ok (.lreturn, 1) := by decide +kernel
theorem dX4_refuseOutside_0 : decode cX4_refuseOutside 0 = .ok (.iload_n 0, 1) := by decide +kernel
theorem dX4_refuseOutside_1 : decode cX4_refuseOutside 1 = .ok (.iload_n 1, 1) := by decide +kernel
theorem dX4_refuseOutside_2 : decode cX4_refuseOutside 2 = .ok (.if_icmp .lt 8, 3) := by decide +kernel
theorem dX4_refuseOutside_5 : decode cX4_refuseOutside 5 = .ok (.iload_n 0, 1) := by decide +kernel
theorem dX4_refuseOutside_6 : decode cX4_refuseOutside 6 = .ok (.iload_n 2, 1) := by decide +kernel
theorem dX4_refuseOutside_7 : decode cX4_refuseOutside 7 = .ok (.if_icmp .le 13, 3) := by decide +kernel
theorem dX4_refuseOutside_10 : decode cX4_refuseOutside 10 = .ok (.new 252, 3) := by decide +kernel
theorem dX4_refuseOutside_13 : decode cX4_refuseOutside 13 = .ok (.dup, 1) := by decide +kernel
theorem dX4_refuseOutside_14 : decode cX4_refuseOutside 14 = .ok (.ldc 254, 2) := by decide +kernel
theorem dX4_refuseOutside_16 : decode cX4_refuseOutside 16 = .ok (.invokespecial 256, 3) := by decide +kernel
theorem dX4_refuseOutside_19 : decode cX4_refuseOutside 19 = .ok (.athrow, 1) := by decide +kernel
theorem dX4_refuseOutside_20 : decode cX4_refuseOutside 20 = .ok (.return_, 1) := by decide +kernel
theorem dX4_refuseUnlessBelow_0 : decode cX4_refuseUnlessBelow 0 = .ok (.iload_n 0, 1) := by decide +kernel
theorem dX4_refuseUnlessBelow_1 : decode cX4_refuseUnlessBelow 1 = .ok (.iconst 0, 1) := by decide +kernel
theorem dX4_refuseUnlessBelow_2 : decode cX4_refuseUnlessBelow 2 = .ok (.iload_n 1, 1) := by decide +kernel
theorem dX4_refuseUnlessBelow_3 : decode cX4_refuseUnlessBelow 3 = .ok (.iconst 1, 1) := by decide +kernel
theorem dX4_refuseUnlessBelow_4 : decode cX4_refuseUnlessBelow 4 = .ok (.isub, 1) := by decide +kernel
theorem dX4_refuseUnlessBelow_5 : decode cX4_refuseUnlessBelow 5 = .ok (.invokestatic 58, 3) := by decide +kernel
theorem dX4_refuseUnlessBelow_8 : decode cX4_refuseUnlessBelow 8 = .ok (.return_, 1) := by decide +kernel
theorem dX4_refuseWhenLost_0 : decode cX4_refuseWhenLost 0 = .ok (.aload_n 0, 1) := by decide +kernel
theorem dX4_refuseWhenLost_1 : decode cX4_refuseWhenLost 1 = .ok (.getfield 234, 3) := by decide +kernel
theorem dX4_refuseWhenLost_4 : decode cX4_refuseWhenLost 4 = .ok (.ifCond .eq 14, 3) := by decide +kernel
theorem dX4_refuseWhenLost_7 : decode cX4_refuseWhenLost 7 = .ok (.new 170, 3) := by decide +kernel
theorem dX4_refuseWhenLost_10 : decode cX4_refuseWhenLost 10 = .ok (.dup, 1) := by decide +kernel
theorem dX4_refuseWhenLost_11 : decode cX4_refuseWhenLost 11 = .ok (.ldc_w 257, 3) := by decide +kernel
theorem dX4_refuseWhenLost_14 : decode cX4_refuseWhenLost 14 = .ok (.invokespecial 174, 3) := by decide +kernel
theorem dX4_refuseWhenLost_17 : decode cX4_refuseWhenLost 17 = .ok (.athrow, 1) := by decide +kernel
theorem dX4_refuseWhenLost_18 : decode cX4_refuseWhenLost 18 = .ok (.return_, 1) := by decide +kernel
theorem dX4_refuseUnlessParent_0 : decode cX4_refuseUnlessParent 0 = .ok (.aload_n 0, 1) := by decide +kernel
theorem dX4_refuseUnlessParent_1 : decode cX4_refuseUnlessParent 1 = .ok (.getfield 259, 3) := by decide +kernel
theorem dX4_refuseUnlessParent_4 : decode cX4_refuseUnlessParent 4 = .ok (.ifCond .ne 14, 3) := by decide +kernel
theorem dX4_refuseUnlessParent_7 : decode cX4_refuseUnlessParent 7 = .ok (.new 152, 3) := by decide +kernel
theorem dX4_refuseUnlessParent_10 : decode cX4_refuseUnlessParent 10 = .ok (.dup, 1) := by decide +kernel
theorem dX4_refuseUnlessParent_11 : decode cX4_refuseUnlessParent 11 = .ok (.ldc_w 262, 3) := by decide +kernel
theorem dX4_refuseUnlessParent_14 : decode cX4_refuseUnlessParent 14 = .ok (.invokespecial 156, 3) := by decide +kernel
theorem dX4_refuseUnlessParent_17 : decode cX4_refuseUnlessParent 17 = .ok (.athrow, 1) := by decide +kernel
theorem dX4_refuseUnlessParent_18 : decode cX4_refuseUnlessParent 18 = .ok (.return_, 1) := by decide +kernel
theorem dX4_refuseTampered_0 : decode cX4_refuseTampered 0 = .ok (.aload_n 0, 1) := by decide +kernel
theorem dX4_refuseTampered_1 : decode cX4_refuseTampered 1 = .ok (.getfield 109, 3) := by decide +kernel
theorem dX4_refuseTampered_4 : decode cX4_refuseTampered 4 = .ok (.iconst 3, 1) := by decide +kernel
theorem dX4_refuseTampered_5 : decode cX4_refuseTampered 5 = .ok (.laload, 1) := by decide +kernel
theorem dX4_refuseTampered_6 : decode cX4_refuseTampered 6 = .ok (.aload_n 0, 1) := by decide +kernel
theorem dX4_refuseTampered_7 : decode cX4_refuseTampered 7 = .ok (.lload_n 1, 1) := by decide +kernel
theorem dX4_refuseTampered_8 : decode cX4_refuseTampered 8 = .ok (.invokevirtual 264, 3) := by decide +kernel
theorem dX4_refuseTampered_11 : decode cX4_refuseTampered 11 = .ok (.lcmp, 1) := by decide +kernel
theorem dX4_refuseTampered_12 : decode cX4_refuseTampered 12 = .ok (.ifCond .eq 14, 3) := by decide +kernel
theorem dX4_refuseTampered_15 : decode cX4_refuseTampered 15 = .ok (.new 267, 3) := by decide +kernel
theorem dX4_refuseTampered_18 : decode cX4_refuseTampered 18 = .ok (.dup, 1) := by decide +kernel
theorem dX4_refuseTampered_19 : decode cX4_refuseTampered 19 = .ok (.ldc_w 269, 3) := by decide +kernel
theorem dX4_refuseTampered_22 : decode cX4_refuseTampered 22 = .ok (.invokespecial 271, 3) := by decide +kernel
theorem dX4_refuseTampered_25 : decode cX4_refuseTampered 25 = .ok (.athrow, 1) := by decide +kernel
theorem dX4_refuseTampered_26 : decode cX4_refuseTampered 26 = .ok (.return_, 1) := by decide +kernel
theorem dX4_heldKey_0 : decode cX4_heldKey 0 = .ok (.aload_n 0, 1) := by decide +kernel
theorem dX4_heldKey_1 : decode cX4_heldKey 1 = .ok (.getfield 20, 3) := by decide +kernel
theorem dX4_heldKey_4 : decode cX4_heldKey 4 = .ok (.iload_n 1, 1) := by decide +kernel
theorem dX4_heldKey_5 : decode cX4_heldKey 5 = .ok (.aaload, 1) := by decide +kernel
theorem dX4_heldKey_6 : decode cX4_heldKey 6 = .ok (.getfield 116, 3) := by decide +kernel
theorem dX4_heldKey_9 : decode cX4_heldKey 9 = .ok (.ifCond .ne 14, 3) := by decide +kernel
theorem dX4_heldKey_12 : decode cX4_heldKey 12 = .ok (.new 197, 3) := by decide +kernel
theorem dX4_heldKey_15 : decode cX4_heldKey 15 = .ok (.dup, 1) := by decide +kernel
theorem dX4_heldKey_16 : decode cX4_heldKey 16 = .ok (.ldc_w 272, 3) := by decide +kernel
theorem dX4_heldKey_19 : decode cX4_heldKey 19 = .ok (.invokespecial 201, 3) := by decide +kernel
theorem dX4_heldKey_22 : decode cX4_heldKey 22 = .ok (.athrow, 1) := by decide +kernel
theorem dX4_heldKey_23 : decode cX4_heldKey 23 = .ok (.aload_n 0, 1) := by decide +kernel
theorem dX4_heldKey_24 : decode cX4_heldKey 24 = .ok (.getfield 20, 3) := by decide +kernel
theorem dX4_heldKey_27 : decode cX4_heldKey 27 = .ok (.iload_n 1, 1) := by decide +kernel
theorem dX4_heldKey_28 : decode cX4_heldKey 28 = .ok (.aaload, 1) := by decide +kernel
theorem dX4_heldKey_29 : decode cX4_heldKey 29 = .ok (.areturn, 1) := by decide +kernel
theorem dX4_madeBlob_0 : decode cX4_madeBlob 0 = .ok (.aload_n 0, 1) := by decide +kernel
theorem dX4_madeBlob_1 : decode cX4_madeBlob 1 = .ok (.getfield 26, 3) := by decide +kernel
theorem dX4_madeBlob_4 : decode cX4_madeBlob 4 = .ok (.iload_n 1, 1) := by decide +kernel
theorem dX4_madeBlob_5 : decode cX4_madeBlob 5 = .ok (.aaload, 1) := by decide +kernel
theorem dX4_madeBlob_6 : decode cX4_madeBlob 6 = .ok (.getfield 274, 3) := by decide +kernel
theorem dX4_madeBlob_9 : decode cX4_madeBlob 9 = .ok (.ifCond .ne 14, 3) := by decide +kernel
theorem dX4_madeBlob_12 : decode cX4_madeBlob 12 = .ok (.new 197, 3) := by decide +kernel
theorem dX4_madeBlob_15 : decode cX4_madeBlob 15 = .ok (.dup, 1) := by decide +kernel
theorem dX4_madeBlob_16 : decode cX4_madeBlob 16 = .ok (.ldc_w 277, 3) := by decide +kernel
theorem dX4_madeBlob_19 : decode cX4_madeBlob 19 = .ok (.invokespecial 201, 3) := by decide +kernel
theorem dX4_madeBlob_22 : decode cX4_madeBlob 22 = .ok (.athrow, 1) := by decide +kernel
theorem dX4_madeBlob_23 : decode cX4_madeBlob 23 = .ok (.aload_n 0, 1) := by decide +kernel
theorem dX4_madeBlob_24 : decode cX4_madeBlob 24 = .ok (.getfield 26, 3) := by decide +kernel
theorem dX4_madeBlob_27 : decode cX4_madeBlob 27 = .ok (.iload_n 1, 1) := by decide +kernel
theorem dX4_madeBlob_28 : decode cX4_madeBlob 28 = .ok (.aaload, 1) := by decide +kernel
theorem dX4_madeBlob_29 : decode cX4_madeBlob 29 = .ok (.areturn, 1) := by decide +kernel
theorem dX4_definedIndex_0 : decode cX4_definedIndex 0 = .ok (.aload_n 0, 1) := by decide +kernel
theorem dX4_definedIndex_1 : decode cX4_definedIndex 1 = .ok (.getfield 38, 3) := by decide +kernel
theorem dX4_definedIndex_4 : decode cX4_definedIndex 4 = .ok (.iload_n 1, 1) := by decide +kernel
theorem dX4_definedIndex_5 : decode cX4_definedIndex 5 = .ok (.aaload, 1) := by decide +kernel
theorem dX4_definedIndex_6 : decode cX4_definedIndex 6 = .ok (.getfield 167, 3) := by decide +kernel
theorem dX4_definedIndex_9 : decode cX4_definedIndex 9 = .ok (.ifCond .ne 14, 3) := by decide +kernel
theorem dX4_definedIndex_12 : decode cX4_definedIndex 12 = .ok (.new 197, 3) := by decide +kernel
theorem dX4_definedIndex_15 : decode cX4_definedIndex 15 = .ok (.dup, 1) := by decide +kernel
theorem dX4_definedIndex_16 : decode cX4_definedIndex 16 = .ok (.ldc_w 279, 3) := by decide +kernel
theorem dX4_definedIndex_19 : decode cX4_definedIndex 19 = .ok (.invokespecial 201, 3) := by decide +kernel
theorem dX4_definedIndex_22 : decode cX4_definedIndex 22 = .ok (.athrow, 1) := by decide +kernel
theorem dX4_definedIndex_23 : decode cX4_definedIndex 23 = .ok (.aload_n 0, 1) := by decide +kernel
theorem dX4_definedIndex_24 : decode cX4_definedIndex 24 = .ok (.getfield 38, 3) := by decide +kernel
theorem dX4_definedIndex_27 : decode cX4_definedIndex 27 = .ok (.iload_n 1, 1) := by decide +kernel
theorem dX4_definedIndex_28 : decode cX4_definedIndex 28 = .ok (.aaload, 1) := by decide +kernel
theorem dX4_definedIndex_29 : decode cX4_definedIndex 29 = .ok (.areturn, 1) := by decide +kernel
theorem dX4_leastFreeHandle_0 : decode cX4_leastFreeHandle 0 = .ok (.iconst 0, 1) := by decide +kernel
theorem dX4_leastFreeHandle_1 : decode cX4_leastFreeHandle 1 = .ok (.istore_n 1, 1) := by decide +kernel
theorem dX4_leastFreeHandle_2 : decode cX4_leastFreeHandle 2 = .ok (.iload_n 1, 1) := by decide +kernel
theorem dX4_leastFreeHandle_3 : decode cX4_leastFreeHandle 3 = .ok (.iconst 4, 1) := by decide +kernel
theorem dX4_leastFreeHandle_4 : decode cX4_leastFreeHandle 4 = .ok (.if_icmp .ge 23, 3) := by decide +kernel
theorem dX4_leastFreeHandle_7 : decode cX4_leastFreeHandle 7 = .ok (.aload_n 0, 1) := by decide +kernel
theorem dX4_leastFreeHandle_8 : decode cX4_leastFreeHandle 8 = .ok (.getfield 20, 3) := by decide +kernel
theorem dX4_leastFreeHandle_11 : decode cX4_leastFreeHandle 11 = .ok (.iload_n 1, 1) := by decide +kernel
theorem dX4_leastFreeHandle_12 : decode cX4_leastFreeHandle 12 = .ok (.aaload, 1) := by decide +kernel
theorem dX4_leastFreeHandle_13 : decode cX4_leastFreeHandle 13 = .ok (.getfield 116, 3) := by decide +kernel
theorem dX4_leastFreeHandle_16 : decode cX4_leastFreeHandle 16 = .ok (.ifCond .ne 5, 3) := by decide +kernel
theorem dX4_leastFreeHandle_19 : decode cX4_leastFreeHandle 19 = .ok (.iload_n 1, 1) := by decide +kernel
theorem dX4_leastFreeHandle_20 : decode cX4_leastFreeHandle 20 = .ok (.ireturn, 1) := by decide +kernel
theorem dX4_leastFreeHandle_21 : decode cX4_leastFreeHandle 21 = .ok (.iinc 1 1, 3) := by decide +kernel
theorem dX4_leastFreeHandle_24 : decode cX4_leastFreeHandle 24 = .ok (.goto (-22), 3) := by decide +kernel
theorem dX4_leastFreeHandle_27 : decode cX4_leastFreeHandle 27 = .ok (.new 170, 3) := by decide +kernel
theorem dX4_leastFreeHandle_30 : decode cX4_leastFreeHandle 30 = .ok (.dup, 1) := by decide +kernel
theorem dX4_leastFreeHandle_31 : decode cX4_leastFreeHandle 31 = .ok (.ldc_w 281, 3) := by decide +kernel
theorem dX4_leastFreeHandle_34 : decode cX4_leastFreeHandle 34 = .ok (.invokespecial 174, 3) := by decide +kernel
theorem dX4_leastFreeHandle_37 : decode cX4_leastFreeHandle 37 = .ok (.athrow, 1) := by decide +kernel
theorem dX4_powerComes_0 : decode cX4_powerComes 0 = .ok (.aload_n 0, 1) := by decide +kernel
theorem dX4_powerComes_1 : decode cX4_powerComes 1 = .ok (.iload_n 1, 1) := by decide +kernel
theorem dX4_powerComes_2 : decode cX4_powerComes 2 = .ok (.putfield 231, 3) := by decide +kernel
theorem dX4_powerComes_5 : decode cX4_powerComes 5 = .ok (.aload_n 0, 1) := by decide +kernel
theorem dX4_powerComes_6 : decode cX4_powerComes 6 = .ok (.iconst 0, 1) := by decide +kernel
theorem dX4_powerComes_7 : decode cX4_powerComes 7 = .ok (.putfield 234, 3) := by decide +kernel
theorem dX4_powerComes_10 : decode cX4_powerComes 10 = .ok (.aload_n 0, 1) := by decide +kernel
theorem dX4_powerComes_11 : decode cX4_powerComes 11 = .ok (.invokevirtual 283, 3) := by decide +kernel
theorem dX4_powerComes_14 : decode cX4_powerComes 14 = .ok (.aload_n 0, 1) := by decide +kernel
theorem dX4_powerComes_15 : decode cX4_powerComes 15 = .ok (.invokevirtual 218, 3) := by decide +kernel
theorem dX4_powerComes_18 : decode cX4_powerComes 18 = .ok (.iconst 0, 1) := by decide +kernel
theorem dX4_powerComes_19 : decode cX4_powerComes 19 = .ok (.istore_n 2, 1) := by decide +kernel
theorem dX4_powerComes_20 : decode cX4_powerComes 20 = .ok (.iload_n 2, 1) := by decide +kernel
theorem dX4_powerComes_21 : decode cX4_powerComes 21 = .ok (.iconst 3, 1) := by decide +kernel
theorem dX4_powerComes_22 : decode cX4_powerComes 22 = .ok (.if_icmp .ge 18, 3) := by decide +kernel
theorem dX4_powerComes_25 : decode cX4_powerComes 25 = .ok (.aload_n 0, 1) := by decide +kernel
theorem dX4_powerComes_26 : decode cX4_powerComes 26 = .ok (.getfield 32, 3) := by decide +kernel
theorem dX4_powerComes_29 : decode cX4_powerComes 29 = .ok (.iload_n 2, 1) := by decide +kernel
theorem dX4_powerComes_30 : decode cX4_powerComes 30 = .ok (.aaload, 1) := by decide +kernel
theorem dX4_powerComes_31 : decode cX4_powerComes 31 = .ok (.invokevirtual 134, 3) := by decide +kernel
theorem dX4_powerComes_34 : decode cX4_powerComes 34 = .ok (.iinc 2 1, 3) := by decide +kernel
theorem dX4_powerComes_37 : decode cX4_powerComes 37 = .ok (.goto (-17), 3) := by decide +kernel
theorem dX4_powerComes_40 : decode cX4_powerComes 40 = .ok (.aload_n 0, 1) := by decide +kernel
theorem dX4_powerComes_41 : decode cX4_powerComes 41 = .ok (.getfield 9, 3) := by decide +kernel
theorem dX4_powerComes_44 : decode cX4_powerComes 44 = .ok (.iconst 2, 1) := by decide +kernel
theorem dX4_powerComes_45 : decode cX4_powerComes 45 = .ok (.aload_n 0, 1) := by decide +kernel
theorem dX4_powerComes_46 : decode cX4_powerComes 46 = .ok (.getfield 9, 3) := by decide +kernel
theorem dX4_powerComes_49 : decode cX4_powerComes 49 = .ok (.iconst 2, 1) := by decide +kernel
theorem dX4_powerComes_50 : decode cX4_powerComes 50 = .ok (.laload, 1) := by decide +kernel
theorem dX4_powerComes_51 : decode cX4_powerComes 51 = .ok (.ldc2_w 286, 3) := by decide +kernel
theorem dX4_powerComes_54 : decode cX4_powerComes 54 = .ok (.invokestatic 42, 3) := by decide +kernel
theorem dX4_powerComes_57 : decode cX4_powerComes 57 = .ok (.lastore, 1) := by decide +kernel
theorem dX4_powerComes_58 : decode cX4_powerComes 58 = .ok (.aload_n 0, 1) := by decide +kernel
theorem dX4_powerComes_59 : decode cX4_powerComes 59 = .ok (.aload_n 0, 1) := by decide +kernel
theorem dX4_powerComes_60 : decode cX4_powerComes 60 = .ok (.getfield 202, 3) := by decide +kernel
theorem dX4_powerComes_63 : decode cX4_powerComes 63 = .ok (.putfield 288, 3) := by decide +kernel
theorem dX4_powerComes_66 : decode cX4_powerComes 66 = .ok (.return_, 1) := by decide +kernel
theorem dX4_forgetPcrs_0 : decode cX4_forgetPcrs 0 = .ok (.iconst 0, 1) := by decide +kernel
theorem dX4_forgetPcrs_1 : decode cX4_forgetPcrs 1 = .ok (.istore_n 1, 1) := by decide +kernel
theorem dX4_forgetPcrs_2 : decode cX4_forgetPcrs 2 = .ok (.iload_n 1, 1) := by decide +kernel
theorem dX4_forgetPcrs_3 : decode cX4_forgetPcrs 3 = .ok (.iconst 2, 1) := by decide +kernel
theorem dX4_forgetPcrs_4 : decode cX4_forgetPcrs 4 = .ok (.if_icmp .ge 32, 3) := by decide +kernel
theorem dX4_forgetPcrs_7 : decode cX4_forgetPcrs 7 = .ok (.iconst 0, 1) := by decide +kernel
theorem dX4_forgetPcrs_8 : decode cX4_forgetPcrs 8 = .ok (.istore_n 2, 1) := by decide +kernel
theorem dX4_forgetPcrs_9 : decode cX4_forgetPcrs 9 = .ok (.iload_n 2, 1) := by decide +kernel
theorem dX4_forgetPcrs_10 : decode cX4_forgetPcrs 10 = .ok (.bipush 8, 2) := by decide +kernel
theorem dX4_forgetPcrs_12 : decode cX4_forgetPcrs 12 = .ok (.if_icmp .ge 18, 3) := by decide +kernel
theorem dX4_forgetPcrs_15 : decode cX4_forgetPcrs 15 = .ok (.aload_n 0, 1) := by decide +kernel
theorem dX4_forgetPcrs_16 : decode cX4_forgetPcrs 16 = .ok (.getfield 15, 3) := by decide +kernel
theorem dX4_forgetPcrs_19 : decode cX4_forgetPcrs 19 = .ok (.iload_n 1, 1) := by decide +kernel
theorem dX4_forgetPcrs_20 : decode cX4_forgetPcrs 20 = .ok (.aaload, 1) := by decide +kernel
theorem dX4_forgetPcrs_21 : decode cX4_forgetPcrs 21 = .ok (.iload_n 2, 1) := by decide +kernel
theorem dX4_forgetPcrs_22 : decode cX4_forgetPcrs 22 = .ok (.lconst 0, 1) := by decide +kernel
theorem dX4_forgetPcrs_23 : decode cX4_forgetPcrs 23 = .ok (.lastore, 1) := by decide +kernel
theorem dX4_forgetPcrs_24 : decode cX4_forgetPcrs 24 = .ok (.iinc 2 1, 3) := by decide +kernel
theorem dX4_forgetPcrs_27 : decode cX4_forgetPcrs 27 = .ok (.goto (-18), 3) := by decide +kernel
theorem dX4_forgetPcrs_30 : decode cX4_forgetPcrs 30 = .ok (.iinc 1 1, 3) := by decide +kernel
theorem dX4_forgetPcrs_33 : decode cX4_forgetPcrs 33 = .ok (.goto (-31), 3) := by decide +kernel
theorem dX4_forgetPcrs_36 : decode cX4_forgetPcrs 36 = .ok (.aload_n 0, 1) := by decide +kernel
theorem dX4_forgetPcrs_37 : decode cX4_forgetPcrs 37 = .ok (.iconst 0, 1) := by decide +kernel
theorem dX4_forgetPcrs_38 : decode cX4_forgetPcrs 38 = .ok (.putfield 69, 3) := by decide +kernel
theorem dX4_forgetPcrs_41 : decode cX4_forgetPcrs 41 = .ok (.return_, 1) := by decide +kernel
theorem dX4_freeHandles_0 : decode cX4_freeHandles 0 = .ok (.iconst 0, 1) := by decide +kernel
theorem dX4_freeHandles_1 : decode cX4_freeHandles 1 = .ok (.istore_n 1, 1) := by decide +kernel
theorem dX4_freeHandles_2 : decode cX4_freeHandles 2 = .ok (.iload_n 1, 1) := by decide +kernel
theorem dX4_freeHandles_3 : decode cX4_freeHandles 3 = .ok (.iconst 4, 1) := by decide +kernel
theorem dX4_freeHandles_4 : decode cX4_freeHandles 4 = .ok (.if_icmp .ge 19, 3) := by decide +kernel
theorem dX4_freeHandles_7 : decode cX4_freeHandles 7 = .ok (.aload_n 0, 1) := by decide +kernel
theorem dX4_freeHandles_8 : decode cX4_freeHandles 8 = .ok (.getfield 20, 3) := by decide +kernel
theorem dX4_freeHandles_11 : decode cX4_freeHandles 11 = .ok (.iload_n 1, 1) := by decide +kernel
theorem dX4_freeHandles_12 : decode cX4_freeHandles 12 = .ok (.aaload, 1) := by decide +kernel
theorem dX4_freeHandles_13 : decode cX4_freeHandles 13 = .ok (.iconst 0, 1) := by decide +kernel
theorem dX4_freeHandles_14 : decode cX4_freeHandles 14 = .ok (.putfield 116, 3) := by decide +kernel
theorem dX4_freeHandles_17 : decode cX4_freeHandles 17 = .ok (.iinc 1 1, 3) := by decide +kernel
theorem dX4_freeHandles_20 : decode cX4_freeHandles 20 = .ok (.goto (-18), 3) := by decide +kernel
theorem dX4_freeHandles_23 : decode cX4_freeHandles 23 = .ok (.return_, 1) := by decide +kernel
theorem dX4_useParts_0 : decode cX4_useParts 0 = .ok (.aload_n 0, 1) := by decide +kernel
theorem dX4_useParts_1 : decode cX4_useParts 1 = .ok (.getfield 231, 3) := by decide +kernel
theorem dX4_useParts_4 : decode cX4_useParts 4 = .ok (.iconst (-1), 1) := by decide +kernel
theorem dX4_useParts_5 : decode cX4_useParts 5 = .ok (.if_icmp .ne 4, 3) := by decide +kernel
theorem dX4_useParts_8 : decode cX4_useParts 8 = .ok (.return_, 1) := by decide +kernel
theorem dX4_useParts_9 : decode cX4_useParts 9 = .ok (.aload_n 0, 1) := by decide +kernel
theorem dX4_useParts_10 : decode cX4_useParts 10 = .ok (.getfield 231, 3) := by decide +kernel
theorem dX4_useParts_13 : decode cX4_useParts 13 = .ok (.iload_n 1, 1) := by decide +kernel
theorem dX4_useParts_14 : decode cX4_useParts 14 = .ok (.if_icmp .ge 34, 3) := by decide +kernel
theorem dX4_useParts_17 : decode cX4_useParts 17 = .ok (.aload_n 0, 1) := by decide +kernel
theorem dX4_useParts_18 : decode cX4_useParts 18 = .ok (.iconst 0, 1) := by decide +kernel
theorem dX4_useParts_19 : decode cX4_useParts 19 = .ok (.putfield 231, 3) := by decide +kernel
theorem dX4_useParts_22 : decode cX4_useParts 22 = .ok (.aload_n 0, 1) := by decide +kernel
theorem dX4_useParts_23 : decode cX4_useParts 23 = .ok (.iconst 1, 1) := by decide +kernel
theorem dX4_useParts_24 : decode cX4_useParts 24 = .ok (.putfield 234, 3) := by decide +kernel
theorem dX4_useParts_27 : decode cX4_useParts 27 = .ok (.aload_n 0, 1) := by decide +kernel
theorem dX4_useParts_28 : decode cX4_useParts 28 = .ok (.dup, 1) := by decide +kernel
theorem dX4_useParts_29 : decode cX4_useParts 29 = .ok (.getfield 243, 3) := by decide +kernel
theorem dX4_useParts_32 : decode cX4_useParts 32 = .ok (.iconst 1, 1) := by decide +kernel
theorem dX4_useParts_33 : decode cX4_useParts 33 = .ok (.iadd, 1) := by decide +kernel
theorem dX4_useParts_34 : decode cX4_useParts 34 = .ok (.putfield 243, 3) := by decide +kernel
theorem dX4_useParts_37 : decode cX4_useParts 37 = .ok (.new 170, 3) := by decide +kernel
theorem dX4_useParts_40 : decode cX4_useParts 40 = .ok (.dup, 1) := by decide +kernel
theorem dX4_useParts_41 : decode cX4_useParts 41 = .ok (.ldc_w 291, 3) := by decide +kernel
theorem dX4_useParts_44 : decode cX4_useParts 44 = .ok (.invokespecial 174, 3) := by decide +kernel
theorem dX4_useParts_47 : decode cX4_useParts 47 = .ok (.athrow, 1) := by decide +kernel
theorem dX4_useParts_48 : decode cX4_useParts 48 = .ok (.aload_n 0, 1) := by decide +kernel
theorem dX4_useParts_49 : decode cX4_useParts 49 = .ok (.aload_n 0, 1) := by decide +kernel
theorem dX4_useParts_50 : decode cX4_useParts 50 = .ok (.getfield 231, 3) := by decide +kernel
theorem dX4_useParts_53 : decode cX4_useParts 53 = .ok (.iload_n 1, 1) := by decide +kernel
theorem dX4_useParts_54 : decode cX4_useParts 54 = .ok (.isub, 1) := by decide +kernel
theorem dX4_useParts_55 : decode cX4_useParts 55 = .ok (.putfield 231, 3) := by decide +kernel
theorem dX4_useParts_58 : decode cX4_useParts 58 = .ok (.return_, 1) := by decide +kernel
theorem dX4_nextCounted_0 : decode cX4_nextCounted 0 = .ok (.aload_n 0, 1) := by decide +kernel
theorem dX4_nextCounted_1 : decode cX4_nextCounted 1 = .ok (.dup, 1) := by decide +kernel
theorem dX4_nextCounted_2 : decode cX4_nextCounted 2 = .ok (.getfield 293, 3) := by decide +kernel
theorem dX4_nextCounted_5 : decode cX4_nextCounted 5 = .ok (.lconst 1, 1) := by decide +kernel
theorem dX4_nextCounted_6 : decode cX4_nextCounted 6 = .ok (.ladd, 1) := by decide +kernel
theorem dX4_nextCounted_7 : decode cX4_nextCounted 7 = .ok (.putfield 293, 3) := by decide +kernel
theorem dX4_nextCounted_10 : decode cX4_nextCounted 10 = .ok (.aload_n 0, 1) := by decide +kernel
theorem dX4_nextCounted_11 : decode cX4_nextCounted 11 = .ok (.getfield 293, 3) := by decide +kernel
theorem dX4_nextCounted_14 : decode cX4_nextCounted 14 = .ok (.lreturn, 1) := by decide +kernel
theorem dX4_allowByWord_0 : decode cX4_allowByWord 0 = .ok (.aload_n 1, 1) := by decide +kernel
theorem dX4_allowByWord_1 : decode cX4_allowByWord 1 = .ok (.getfield 296, 3) := by decide +kernel
theorem dX4_allowByWord_4 : decode cX4_allowByWord 4 = .ok (.ifCond .ne 4, 3) := by decide +kernel
theorem dX4_allowByWord_7 : decode cX4_allowByWord 7 = .ok (.return_, 1) := by decide +kernel
theorem dX4_allowByWord_8 : decode cX4_allowByWord 8 = .ok (.aload_n 0, 1) := by decide +kernel
theorem dX4_allowByWord_9 : decode cX4_allowByWord 9 = .ok (.getfield 221, 3) := by decide +kernel
theorem dX4_allowByWord_12 : decode cX4_allowByWord 12 = .ok (.iconst 3, 1) := by decide +kernel
theorem dX4_allowByWord_13 : decode cX4_allowByWord 13 = .ok (.if_icmp .lt 14, 3) := by decide +kernel
theorem dX4_allowByWord_16 : decode cX4_allowByWord 16 = .ok (.new 170, 3) := by decide +kernel
theorem dX4_allowByWord_19 : decode cX4_allowByWord 19 = .ok (.dup, 1) := by decide +kernel
theorem dX4_allowByWord_20 : decode cX4_allowByWord 20 = .ok (.ldc_w 299, 3) := by decide +kernel
theorem dX4_allowByWord_23 : decode cX4_allowByWord 23 = .ok (.invokespecial 174, 3) := by decide +kernel
theorem dX4_allowByWord_26 : decode cX4_allowByWord 26 = .ok (.athrow, 1) := by decide +kernel
theorem dX4_allowByWord_27 : decode cX4_allowByWord 27 = .ok (.aload_n 1, 1) := by decide +kernel
theorem dX4_allowByWord_28 : decode cX4_allowByWord 28 = .ok (.getfield 296, 3) := by decide +kernel
theorem dX4_allowByWord_31 : decode cX4_allowByWord 31 = .ok (.iload_n 2, 1) := by decide +kernel
theorem dX4_allowByWord_32 : decode cX4_allowByWord 32 = .ok (.if_icmp .eq 32, 3) := by decide +kernel
theorem dX4_allowByWord_35 : decode cX4_allowByWord 35 = .ok (.aload_n 0, 1) := by decide +kernel
theorem dX4_allowByWord_36 : decode cX4_allowByWord 36 = .ok (.dup, 1) := by decide +kernel
theorem dX4_allowByWord_37 : decode cX4_allowByWord 37 = .ok (.getfield 221, 3) := by decide +kernel
theorem dX4_allowByWord_40 : decode cX4_allowByWord 40 = .ok (.iconst 1, 1) := by decide +kernel
theorem dX4_allowByWord_41 : decode cX4_allowByWord 41 = .ok (.iadd, 1) := by decide +kernel
theorem dX4_allowByWord_42 : decode cX4_allowByWord 42 = .ok (.putfield 221, 3) := by decide +kernel
theorem dX4_allowByWord_45 : decode cX4_allowByWord 45 = .ok (.aload_n 0, 1) := by decide +kernel
theorem dX4_allowByWord_46 : decode cX4_allowByWord 46 = .ok (.aload_n 0, 1) := by decide +kernel
theorem dX4_allowByWord_47 : decode cX4_allowByWord 47 = .ok (.getfield 202, 3) := by decide +kernel
theorem dX4_allowByWord_50 : decode cX4_allowByWord 50 = .ok (.putfield 288, 3) := by decide +kernel
theorem dX4_allowByWord_53 : decode cX4_allowByWord 53 = .ok (.new 152, 3) := by decide +kernel
theorem dX4_allowByWord_56 : decode cX4_allowByWord 56 = .ok (.dup, 1) := by decide +kernel
theorem dX4_allowByWord_57 : decode cX4_allowByWord 57 = .ok (.ldc_w 301, 3) := by decide +kernel
theorem dX4_allowByWord_60 : decode cX4_allowByWord 60 = .ok (.invokespecial 156, 3) := by decide +kernel
theorem dX4_allowByWord_63 : decode cX4_allowByWord 63 = .ok (.athrow, 1) := by decide +kernel
theorem dX4_allowByWord_64 : decode cX4_allowByWord 64 = .ok (.return_, 1) := by decide +kernel
theorem dX4_allowBySession_0 : decode cX4_allowBySession 0 = .ok (.lload_n 1, 1) := by decide +kernel
theorem dX4_allowBySession_1 : decode cX4_allowBySession 1 = .ok (.lconst 0, 1) := by decide +kernel
theorem dX4_allowBySession_2 : decode cX4_allowBySession 2 = .ok (.lcmp, 1) := by decide +kernel
theorem dX4_allowBySession_3 : decode cX4_allowBySession 3 = .ok (.ifCond .eq 12, 3) := by decide +kernel
theorem dX4_allowBySession_6 : decode cX4_allowBySession 6 = .ok (.aload_n 3, 1) := by decide +kernel
theorem dX4_allowBySession_7 : decode cX4_allowBySession 7 = .ok (.getfield 137, 3) := by decide +kernel
theorem dX4_allowBySession_10 : decode cX4_allowBySession 10 = .ok (.lload_n 1, 1) := by decide +kernel
theorem dX4_allowBySession_11 : decode cX4_allowBySession 11 = .ok (.lcmp, 1) := by decide +kernel
theorem dX4_allowBySession_12 : decode cX4_allowBySession 12 = .ok (.ifCond .eq 14, 3) := by decide +kernel
theorem dX4_allowBySession_15 : decode cX4_allowBySession 15 = .ok (.new 152, 3) := by decide +kernel
theorem dX4_allowBySession_18 : decode cX4_allowBySession 18 = .ok (.dup, 1) := by decide +kernel
theorem dX4_allowBySession_19 : decode cX4_allowBySession 19 = .ok (.ldc_w 303, 3) := by decide +kernel
theorem dX4_allowBySession_22 : decode cX4_allowBySession 22 = .ok (.invokespecial 156, 3) := by decide +kernel
theorem dX4_allowBySession_25 : decode cX4_allowBySession 25 = .ok (.athrow, 1) := by decide +kernel
theorem dX4_allowBySession_26 : decode cX4_allowBySession 26 = .ok (.aload_n 3, 1) := by decide +kernel
theorem dX4_allowBySession_27 : decode cX4_allowBySession 27 = .ok (.getfield 146, 3) := by decide +kernel
theorem dX4_allowBySession_30 : decode cX4_allowBySession 30 = .ok (.ifCond .eq 25, 3) := by decide +kernel
theorem dX4_allowBySession_33 : decode cX4_allowBySession 33 = .ok (.aload_n 3, 1) := by decide +kernel
theorem dX4_allowBySession_34 : decode cX4_allowBySession 34 = .ok (.getfield 149, 3) := by decide +kernel
theorem dX4_allowBySession_37 : decode cX4_allowBySession 37 = .ok (.aload_n 0, 1) := by decide +kernel
theorem dX4_allowBySession_38 : decode cX4_allowBySession 38 = .ok (.getfield 69, 3) := by decide +kernel
theorem dX4_allowBySession_41 : decode cX4_allowBySession 41 = .ok (.if_icmp .eq 14, 3) := by decide +kernel
theorem dX4_allowBySession_44 : decode cX4_allowBySession 44 = .ok (.new 170, 3) := by decide +kernel
theorem dX4_allowBySession_47 : decode cX4_allowBySession 47 = .ok (.dup, 1) := by decide +kernel
theorem dX4_allowBySession_48 : decode cX4_allowBySession 48 = .ok (.ldc_w 305, 3) := by decide +kernel
theorem dX4_allowBySession_51 : decode cX4_allowBySession 51 = .ok (.invokespecial 174, 3) := by decide +kernel
theorem dX4_allowBySession_54 : decode cX4_allowBySession 54 = .ok (.athrow, 1) := by decide +kernel
theorem dX4_allowBySession_55 : decode cX4_allowBySession 55 = .ok (.return_, 1) := by decide +kernel
theorem dX4_hashOfPcrs_0 : decode cX4_hashOfPcrs 0 = .ok (.lconst 0, 1) := by decide +kernel
theorem dX4_hashOfPcrs_1 : decode cX4_hashOfPcrs 1 = .ok (.lstore_n 3, 1) := by decide +kernel
theorem dX4_hashOfPcrs_2 : decode cX4_hashOfPcrs 2 = .ok (.iconst 0, 1) := by decide +kernel
theorem dX4_hashOfPcrs_3 : decode cX4_hashOfPcrs 3 = .ok (.istore 5, 2) := by decide +kernel
theorem dX4_hashOfPcrs_5 : decode cX4_hashOfPcrs 5 = .ok (.iload 5, 2) := by decide +kernel
theorem dX4_hashOfPcrs_7 : decode cX4_hashOfPcrs 7 = .ok (.bipush 8, 2) := by decide +kernel
theorem dX4_hashOfPcrs_9 : decode cX4_hashOfPcrs 9 = .ok (.if_icmp .ge 33, 3) := by decide +kernel
theorem dX4_hashOfPcrs_12 : decode cX4_hashOfPcrs 12 = .ok (.iload_n 2, 1) := by decide +kernel
theorem dX4_hashOfPcrs_13 : decode cX4_hashOfPcrs 13 = .ok (.iload 5, 2) := by decide +kernel
theorem dX4_hashOfPcrs_15 : decode cX4_hashOfPcrs 15 = .ok (.ishr, 1) := by decide +kernel
theorem dX4_hashOfPcrs_16 : decode cX4_hashOfPcrs 16 = .ok (.iconst 1, 1) := by decide +kernel
theorem dX4_hashOfPcrs_17 : decode cX4_hashOfPcrs 17 = .ok (.iand, 1) := by decide +kernel
theorem dX4_hashOfPcrs_18 : decode cX4_hashOfPcrs 18 = .ok (.iconst 1, 1) := by decide +kernel
theorem dX4_hashOfPcrs_19 : decode cX4_hashOfPcrs 19 = .ok (.if_icmp .ne 17, 3) := by decide +kernel
theorem dX4_hashOfPcrs_22 : decode cX4_hashOfPcrs 22 = .ok (.lload_n 3, 1) := by decide +kernel
theorem dX4_hashOfPcrs_23 : decode cX4_hashOfPcrs 23 = .ok (.aload_n 0, 1) := by decide +kernel
theorem dX4_hashOfPcrs_24 : decode cX4_hashOfPcrs 24 = .ok (.getfield 15, 3) := by decide +kernel
theorem dX4_hashOfPcrs_27 : decode cX4_hashOfPcrs 27 = .ok (.iload_n 1, 1) := by decide +kernel
theorem dX4_hashOfPcrs_28 : decode cX4_hashOfPcrs 28 = .ok (.aaload, 1) := by decide +kernel
theorem dX4_hashOfPcrs_29 : decode cX4_hashOfPcrs 29 = .ok (.iload 5, 2) := by decide +kernel
theorem dX4_hashOfPcrs_31 : decode cX4_hashOfPcrs 31 = .ok (.laload, 1) := by decide +kernel
theorem dX4_hashOfPcrs_32 : decode cX4_hashOfPcrs 32 = .ok (.invokestatic 42, 3) := by decide +kernel
theorem dX4_hashOfPcrs_35 : decode cX4_hashOfPcrs 35 = .ok (.lstore_n 3, 1) := by decide +kernel
theorem dX4_hashOfPcrs_36 : decode cX4_hashOfPcrs 36 = .ok (.iinc 5 1, 3) := by decide +kernel
theorem dX4_hashOfPcrs_39 : decode cX4_hashOfPcrs 39 = .ok (.goto (-34), 3) := by decide +kernel
theorem dX4_hashOfPcrs_42 : decode cX4_hashOfPcrs 42 = .ok (.lload_n 3, 1) := by decide +kernel
theorem dX4_hashOfPcrs_43 : decode cX4_hashOfPcrs 43 = .ok (.lreturn, 1) := by decide +kernel
theorem dX4_forgiveGuesses_0 : decode cX4_forgiveGuesses 0 = .ok (.aload_n 0, 1) := by decide +kernel
theorem dX4_forgiveGuesses_1 : decode cX4_forgiveGuesses 1 = .ok (.getfield 221, 3) := by decide +kernel
theorem dX4_forgiveGuesses_4 : decode cX4_forgiveGuesses 4 = .ok (.ifCond .le 44, 3) := by decide +kernel
theorem dX4_forgiveGuesses_7 : decode cX4_forgiveGuesses 7 = .ok (.aload_n 0, 1) := by decide +kernel
theorem dX4_forgiveGuesses_8 : decode cX4_forgiveGuesses 8 = .ok (.getfield 202, 3) := by decide +kernel
theorem dX4_forgiveGuesses_11 : decode cX4_forgiveGuesses 11 = .ok (.aload_n 0, 1) := by decide +kernel
theorem dX4_forgiveGuesses_12 : decode cX4_forgiveGuesses 12 = .ok (.getfield 288, 3) := by decide +kernel
theorem dX4_forgiveGuesses_15 : decode cX4_forgiveGuesses 15 = .ok (.ldc2_w 307, 3) := by decide +kernel
theorem dX4_forgiveGuesses_18 : decode cX4_forgiveGuesses 18 = .ok (.dadd, 1) := by decide +kernel
theorem dX4_forgiveGuesses_19 : decode cX4_forgiveGuesses 19 = .ok (.dcmp .l, 1) := by decide +kernel
theorem dX4_forgiveGuesses_20 : decode cX4_forgiveGuesses 20 = .ok (.ifCond .lt 28, 3) := by decide +kernel
theorem dX4_forgiveGuesses_23 : decode cX4_forgiveGuesses 23 = .ok (.aload_n 0, 1) := by decide +kernel
theorem dX4_forgiveGuesses_24 : decode cX4_forgiveGuesses 24 = .ok (.dup, 1) := by decide +kernel
theorem dX4_forgiveGuesses_25 : decode cX4_forgiveGuesses 25 = .ok (.getfield 221, 3) := by decide +kernel
theorem dX4_forgiveGuesses_28 : decode cX4_forgiveGuesses 28 = .ok (.iconst 1, 1) := by decide +kernel
theorem dX4_forgiveGuesses_29 : decode cX4_forgiveGuesses 29 = .ok (.isub, 1) := by decide +kernel
theorem dX4_forgiveGuesses_30 : decode cX4_forgiveGuesses 30 = .ok (.putfield 221, 3) := by decide +kernel
theorem dX4_forgiveGuesses_33 : decode cX4_forgiveGuesses 33 = .ok (.aload_n 0, 1) := by decide +kernel
theorem dX4_forgiveGuesses_34 : decode cX4_forgiveGuesses 34 = .ok (.aload_n 0, 1) := by decide +kernel
theorem dX4_forgiveGuesses_35 : decode cX4_forgiveGuesses 35 = .ok (.getfield 288, 3) := by decide +kernel
theorem dX4_forgiveGuesses_38 : decode cX4_forgiveGuesses 38 = .ok (.ldc2_w 307, 3) := by decide +kernel
theorem dX4_forgiveGuesses_41 : decode cX4_forgiveGuesses 41 = .ok (.dadd, 1) := by decide +kernel
theorem dX4_forgiveGuesses_42 : decode cX4_forgiveGuesses 42 = .ok (.putfield 288, 3) := by decide +kernel
theorem dX4_forgiveGuesses_45 : decode cX4_forgiveGuesses 45 = .ok (.goto (-45), 3) := by decide +kernel
theorem dX4_forgiveGuesses_48 : decode cX4_forgiveGuesses 48 = .ok (.return_, 1) := by decide +kernel
theorem dX4_setPace_0 : decode cX4_setPace 0 = .ok (.dload_n 1, 1) := by decide +kernel
theorem dX4_setPace_1 : decode cX4_setPace 1 = .ok (.ldc2_w 309, 3) := by decide +kernel
theorem dX4_setPace_4 : decode cX4_setPace 4 = .ok (.dcmp .l, 1) := by decide +kernel
theorem dX4_setPace_5 : decode cX4_setPace 5 = .ok (.ifCond .lt 16, 3) := by decide +kernel
theorem dX4_setPace_8 : decode cX4_setPace 8 = .ok (.dload_n 1, 1) := by decide +kernel
theorem dX4_setPace_9 : decode cX4_setPace 9 = .ok (.ldc2_w 311, 3) := by decide +kernel
theorem dX4_setPace_12 : decode cX4_setPace 12 = .ok (.dcmp .g, 1) := by decide +kernel
theorem dX4_setPace_13 : decode cX4_setPace 13 = .ok (.ifCond .gt 8, 3) := by decide +kernel
theorem dX4_setPace_16 : decode cX4_setPace 16 = .ok (.aload_n 0, 1) := by decide +kernel
theorem dX4_setPace_17 : decode cX4_setPace 17 = .ok (.dload_n 1, 1) := by decide +kernel
theorem dX4_setPace_18 : decode cX4_setPace 18 = .ok (.putfield 50, 3) := by decide +kernel
theorem dX4_setPace_21 : decode cX4_setPace 21 = .ok (.return_, 1) := by decide +kernel
theorem dX4_heldKeys_0 : decode cX4_heldKeys 0 = .ok (.iconst 0, 1) := by decide +kernel
theorem dX4_heldKeys_1 : decode cX4_heldKeys 1 = .ok (.istore_n 1, 1) := by decide +kernel
theorem dX4_heldKeys_2 : decode cX4_heldKeys 2 = .ok (.iconst 0, 1) := by decide +kernel
theorem dX4_heldKeys_3 : decode cX4_heldKeys 3 = .ok (.istore_n 2, 1) := by decide +kernel
theorem dX4_heldKeys_4 : decode cX4_heldKeys 4 = .ok (.iload_n 2, 1) := by decide +kernel
theorem dX4_heldKeys_5 : decode cX4_heldKeys 5 = .ok (.iconst 4, 1) := by decide +kernel
theorem dX4_heldKeys_6 : decode cX4_heldKeys 6 = .ok (.if_icmp .ge 24, 3) := by decide +kernel
theorem dX4_heldKeys_9 : decode cX4_heldKeys 9 = .ok (.aload_n 0, 1) := by decide +kernel
theorem dX4_heldKeys_10 : decode cX4_heldKeys 10 = .ok (.getfield 20, 3) := by decide +kernel
theorem dX4_heldKeys_13 : decode cX4_heldKeys 13 = .ok (.iload_n 2, 1) := by decide +kernel
theorem dX4_heldKeys_14 : decode cX4_heldKeys 14 = .ok (.aaload, 1) := by decide +kernel
theorem dX4_heldKeys_15 : decode cX4_heldKeys 15 = .ok (.getfield 116, 3) := by decide +kernel
theorem dX4_heldKeys_18 : decode cX4_heldKeys 18 = .ok (.ifCond .eq 6, 3) := by decide +kernel
theorem dX4_heldKeys_21 : decode cX4_heldKeys 21 = .ok (.iinc 1 1, 3) := by decide +kernel
theorem dX4_heldKeys_24 : decode cX4_heldKeys 24 = .ok (.iinc 2 1, 3) := by decide +kernel
theorem dX4_heldKeys_27 : decode cX4_heldKeys 27 = .ok (.goto (-23), 3) := by decide +kernel
theorem dX4_heldKeys_30 : decode cX4_heldKeys 30 = .ok (.iload_n 1, 1) := by decide +kernel
theorem dX4_heldKeys_31 : decode cX4_heldKeys 31 = .ok (.ireturn, 1) := by decide +kernel
theorem dX4_definedIndices_0 : decode cX4_definedIndices 0 = .ok (.iconst 0, 1) := by decide +kernel
theorem dX4_definedIndices_1 : decode cX4_definedIndices 1 = .ok (.istore_n 1, 1) := by decide +kernel
theorem dX4_definedIndices_2 : decode cX4_definedIndices 2 = .ok (.iconst 0, 1) := by decide +kernel
theorem dX4_definedIndices_3 : decode cX4_definedIndices 3 = .ok (.istore_n 2, 1) := by decide +kernel
theorem dX4_definedIndices_4 : decode cX4_definedIndices 4 = .ok (.iload_n 2, 1) := by decide +kernel
theorem dX4_definedIndices_5 : decode cX4_definedIndices 5 = .ok (.iconst 4, 1) := by decide +kernel
theorem dX4_definedIndices_6 : decode cX4_definedIndices 6 = .ok (.if_icmp .ge 24, 3) := by decide +kernel
theorem dX4_definedIndices_9 : decode cX4_definedIndices 9 = .ok (.aload_n 0, 1) := by decide +kernel
theorem dX4_definedIndices_10 : decode cX4_definedIndices 10 = .ok (.getfield 38, 3) := by decide +kernel
theorem dX4_definedIndices_13 : decode cX4_definedIndices 13 = .ok (.iload_n 2, 1) := by decide +kernel
theorem dX4_definedIndices_14 : decode cX4_definedIndices 14 = .ok (.aaload, 1) := by decide +kernel
theorem dX4_definedIndices_15 : decode cX4_definedIndices 15 = .ok (.getfield 167, 3) := by decide +kernel
theorem dX4_definedIndices_18 : decode cX4_definedIndices 18 = .ok (.ifCond .eq 6, 3) := by decide +kernel
theorem dX4_definedIndices_21 : decode cX4_definedIndices 21 = .ok (.iinc 1 1, 3) := by decide +kernel
theorem dX4_definedIndices_24 : decode cX4_definedIndices 24 = .ok (.iinc 2 1, 3) := by decide +kernel
theorem dX4_definedIndices_27 : decode cX4_definedIndices 27 = .ok (.goto (-23), 3) := by decide +kernel
theorem dX4_definedIndices_30 : decode cX4_definedIndices 30 = .ok (.iload_n 1, 1) := by decide +kernel
theorem dX4_definedIndices_31 : decode cX4_definedIndices 31 = .ok (.ireturn, 1) := by decide +kernel
theorem dX4_madeBlobs_0 : decode cX4_madeBlobs 0 = .ok (.iconst 0, 1) := by decide +kernel
theorem dX4_madeBlobs_1 : decode cX4_madeBlobs 1 = .ok (.istore_n 1, 1) := by decide +kernel
theorem dX4_madeBlobs_2 : decode cX4_madeBlobs 2 = .ok (.iconst 0, 1) := by decide +kernel
theorem dX4_madeBlobs_3 : decode cX4_madeBlobs 3 = .ok (.istore_n 2, 1) := by decide +kernel
theorem dX4_madeBlobs_4 : decode cX4_madeBlobs 4 = .ok (.iload_n 2, 1) := by decide +kernel
theorem dX4_madeBlobs_5 : decode cX4_madeBlobs 5 = .ok (.bipush 8, 2) := by decide +kernel
theorem dX4_madeBlobs_7 : decode cX4_madeBlobs 7 = .ok (.if_icmp .ge 24, 3) := by decide +kernel
theorem dX4_madeBlobs_10 : decode cX4_madeBlobs 10 = .ok (.aload_n 0, 1) := by decide +kernel
theorem dX4_madeBlobs_11 : decode cX4_madeBlobs 11 = .ok (.getfield 26, 3) := by decide +kernel
theorem dX4_madeBlobs_14 : decode cX4_madeBlobs 14 = .ok (.iload_n 2, 1) := by decide +kernel
theorem dX4_madeBlobs_15 : decode cX4_madeBlobs 15 = .ok (.aaload, 1) := by decide +kernel
theorem dX4_madeBlobs_16 : decode cX4_madeBlobs 16 = .ok (.getfield 274, 3) := by decide +kernel
theorem dX4_madeBlobs_19 : decode cX4_madeBlobs 19 = .ok (.ifCond .eq 6, 3) := by decide +kernel
theorem dX4_madeBlobs_22 : decode cX4_madeBlobs 22 = .ok (.iinc 1 1, 3) := by decide +kernel
theorem dX4_madeBlobs_25 : decode cX4_madeBlobs 25 = .ok (.iinc 2 1, 3) := by decide +kernel
theorem dX4_madeBlobs_28 : decode cX4_madeBlobs 28 = .ok (.goto (-24), 3) := by decide +kernel
theorem dX4_madeBlobs_31 : decode cX4_madeBlobs 31 = .ok (.iload_n 1, 1) := by decide +kernel
theorem dX4_madeBlobs_32 : decode cX4_madeBlobs 32 = .ok (.ireturn, 1) := by decide +kernel
theorem dX2_init_0 : decode cX2_init 0 = .ok (.aload_n 0, 1) := by decide +kernel
theorem dX2_init_1 : decode cX2_init 1 = .ok (.invokespecial 1, 3) := by decide +kernel
theorem dX2_init_4 : decode cX2_init 4 = .ok (.return_, 1) := by decide +kernel
theorem dX2_hold_0 : decode cX2_hold 0 = .ok (.aload_n 0, 1) := by decide +kernel
theorem dX2_hold_1 : decode cX2_hold 1 = .ok (.iconst 1, 1) := by decide +kernel
theorem dX2_hold_2 : decode cX2_hold 2 = .ok (.putfield 7, 3) := by decide +kernel
theorem dX2_hold_5 : decode cX2_hold 5 = .ok (.aload_n 0, 1) := by decide +kernel
theorem dX2_hold_6 : decode cX2_hold 6 = .ok (.lload_n 1, 1) := by decide +kernel
theorem dX2_hold_7 : decode cX2_hold 7 = .ok (.putfield 13, 3) := by decide +kernel
theorem dX2_hold_10 : decode cX2_hold 10 = .ok (.aload_n 0, 1) := by decide +kernel
theorem dX2_hold_11 : decode cX2_hold 11 = .ok (.iload_n 3, 1) := by decide +kernel
theorem dX2_hold_12 : decode cX2_hold 12 = .ok (.putfield 17, 3) := by decide +kernel
theorem dX2_hold_15 : decode cX2_hold 15 = .ok (.aload_n 0, 1) := by decide +kernel
theorem dX2_hold_16 : decode cX2_hold 16 = .ok (.lload 4, 2) := by decide +kernel
theorem dX2_hold_18 : decode cX2_hold 18 = .ok (.putfield 21, 3) := by decide +kernel
theorem dX2_hold_21 : decode cX2_hold 21 = .ok (.aload_n 0, 1) := by decide +kernel
theorem dX2_hold_22 : decode cX2_hold 22 = .ok (.lload 6, 2) := by decide +kernel
theorem dX2_hold_24 : decode cX2_hold 24 = .ok (.putfield 24, 3) := by decide +kernel
theorem dX2_hold_27 : decode cX2_hold 27 = .ok (.aload_n 0, 1) := by decide +kernel
theorem dX2_hold_28 : decode cX2_hold 28 = .ok (.iload 8, 2) := by decide +kernel
theorem dX2_hold_30 : decode cX2_hold 30 = .ok (.putfield 27, 3) := by decide +kernel
theorem dX2_hold_33 : decode cX2_hold 33 = .ok (.return_, 1) := by decide +kernel
theorem dX2_name_0 : decode cX2_name 0 = .ok (.aload_n 0, 1) := by decide +kernel
theorem dX2_name_1 : decode cX2_name 1 = .ok (.getfield 13, 3) := by decide +kernel
theorem dX2_name_4 : decode cX2_name 4 = .ok (.aload_n 0, 1) := by decide +kernel
theorem dX2_name_5 : decode cX2_name 5 = .ok (.getfield 17, 3) := by decide +kernel
theorem dX2_name_8 : decode cX2_name 8 = .ok (.i2l, 1) := by decide +kernel
theorem dX2_name_9 : decode cX2_name 9 = .ok (.invokestatic 30, 3) := by decide +kernel
theorem dX2_name_12 : decode cX2_name 12 = .ok (.aload_n 0, 1) := by decide +kernel
theorem dX2_name_13 : decode cX2_name 13 = .ok (.getfield 21, 3) := by decide +kernel
theorem dX2_name_16 : decode cX2_name 16 = .ok (.aload_n 0, 1) := by decide +kernel
theorem dX2_name_17 : decode cX2_name 17 = .ok (.getfield 24, 3) := by decide +kernel
theorem dX2_name_20 : decode cX2_name 20 = .ok (.invokestatic 30, 3) := by decide +kernel
theorem dX2_name_23 : decode cX2_name 23 = .ok (.invokestatic 30, 3) := by decide +kernel
theorem dX2_name_26 : decode cX2_name 26 = .ok (.lreturn, 1) := by decide +kernel
theorem dX0_init_0 : decode cX0_init 0 = .ok (.aload_n 0, 1) := by decide +kernel
theorem dX0_init_1 : decode cX0_init 1 = .ok (.invokespecial 3, 3) := by decide +kernel
theorem dX0_init_4 : decode cX0_init 4 = .ok (.aload_n 0, 1) := by decide +kernel
theorem dX0_init_5 : decode cX0_init 5 = .ok (.iconst 4, 1) := by decide +kernel
theorem dX0_init_6 : decode cX0_init 6 = .ok (.newarray .long, 2) := by decide +kernel
theorem dX0_init_8 : decode cX0_init 8 = .ok (.putfield 9, 3) := by decide +kernel
theorem dX0_init_11 : decode cX0_init 11 = .ok (.return_, 1) := by decide +kernel
theorem dX0_wrap_0 : decode cX0_wrap 0 = .ok (.aload_n 0, 1) := by decide +kernel
theorem dX0_wrap_1 : decode cX0_wrap 1 = .ok (.iconst 1, 1) := by decide +kernel
theorem dX0_wrap_2 : decode cX0_wrap 2 = .ok (.putfield 15, 3) := by decide +kernel
theorem dX0_wrap_5 : decode cX0_wrap 5 = .ok (.aload_n 0, 1) := by decide +kernel
theorem dX0_wrap_6 : decode cX0_wrap 6 = .ok (.getfield 9, 3) := by decide +kernel
theorem dX0_wrap_9 : decode cX0_wrap 9 = .ok (.iconst 0, 1) := by decide +kernel
theorem dX0_wrap_10 : decode cX0_wrap 10 = .ok (.lload_n 3, 1) := by decide +kernel
theorem dX0_wrap_11 : decode cX0_wrap 11 = .ok (.lload_n 1, 1) := by decide +kernel
theorem dX0_wrap_12 : decode cX0_wrap 12 = .ok (.lconst 1, 1) := by decide +kernel
theorem dX0_wrap_13 : decode cX0_wrap 13 = .ok (.invokestatic 19, 3) := by decide +kernel
theorem dX0_wrap_16 : decode cX0_wrap 16 = .ok (.lxor, 1) := by decide +kernel
theorem dX0_wrap_17 : decode cX0_wrap 17 = .ok (.lastore, 1) := by decide +kernel
theorem dX0_wrap_18 : decode cX0_wrap 18 = .ok (.aload_n 0, 1) := by decide +kernel
theorem dX0_wrap_19 : decode cX0_wrap 19 = .ok (.getfield 9, 3) := by decide +kernel
theorem dX0_wrap_22 : decode cX0_wrap 22 = .ok (.iconst 1, 1) := by decide +kernel
theorem dX0_wrap_23 : decode cX0_wrap 23 = .ok (.iload 5, 2) := by decide +kernel
theorem dX0_wrap_25 : decode cX0_wrap 25 = .ok (.i2l, 1) := by decide +kernel
theorem dX0_wrap_26 : decode cX0_wrap 26 = .ok (.lload_n 1, 1) := by decide +kernel
theorem dX0_wrap_27 : decode cX0_wrap 27 = .ok (.ldc2_w 23, 3) := by decide +kernel
theorem dX0_wrap_30 : decode cX0_wrap 30 = .ok (.invokestatic 19, 3) := by decide +kernel
theorem dX0_wrap_33 : decode cX0_wrap 33 = .ok (.lxor, 1) := by decide +kernel
theorem dX0_wrap_34 : decode cX0_wrap 34 = .ok (.lastore, 1) := by decide +kernel
theorem dX0_wrap_35 : decode cX0_wrap 35 = .ok (.aload_n 0, 1) := by decide +kernel
theorem dX0_wrap_36 : decode cX0_wrap 36 = .ok (.getfield 9, 3) := by decide +kernel
theorem dX0_wrap_39 : decode cX0_wrap 39 = .ok (.iconst 2, 1) := by decide +kernel
theorem dX0_wrap_40 : decode cX0_wrap 40 = .ok (.lload 6, 2) := by decide +kernel
theorem dX0_wrap_42 : decode cX0_wrap 42 = .ok (.lastore, 1) := by decide +kernel
theorem dX0_wrap_43 : decode cX0_wrap 43 = .ok (.aload_n 0, 1) := by decide +kernel
theorem dX0_wrap_44 : decode cX0_wrap 44 = .ok (.getfield 9, 3) := by decide +kernel
theorem dX0_wrap_47 : decode cX0_wrap 47 = .ok (.iconst 3, 1) := by decide +kernel
theorem dX0_wrap_48 : decode cX0_wrap 48 = .ok (.aload_n 0, 1) := by decide +kernel
theorem dX0_wrap_49 : decode cX0_wrap 49 = .ok (.lload_n 1, 1) := by decide +kernel
theorem dX0_wrap_50 : decode cX0_wrap 50 = .ok (.invokevirtual 25, 3) := by decide +kernel
theorem dX0_wrap_53 : decode cX0_wrap 53 = .ok (.lastore, 1) := by decide +kernel
theorem dX0_wrap_54 : decode cX0_wrap 54 = .ok (.return_, 1) := by decide +kernel
theorem dX0_sealUnder_0 : decode cX0_sealUnder 0 = .ok (.lload_n 1, 1) := by decide +kernel
theorem dX0_sealUnder_1 : decode cX0_sealUnder 1 = .ok (.ldc2_w 29, 3) := by decide +kernel
theorem dX0_sealUnder_4 : decode cX0_sealUnder 4 = .ok (.invokestatic 19, 3) := by decide +kernel
theorem dX0_sealUnder_7 : decode cX0_sealUnder 7 = .ok (.aload_n 0, 1) := by decide +kernel
theorem dX0_sealUnder_8 : decode cX0_sealUnder 8 = .ok (.getfield 9, 3) := by decide +kernel
theorem dX0_sealUnder_11 : decode cX0_sealUnder 11 = .ok (.iconst 0, 1) := by decide +kernel
theorem dX0_sealUnder_12 : decode cX0_sealUnder 12 = .ok (.laload, 1) := by decide +kernel
theorem dX0_sealUnder_13 : decode cX0_sealUnder 13 = .ok (.aload_n 0, 1) := by decide +kernel
theorem dX0_sealUnder_14 : decode cX0_sealUnder 14 = .ok (.getfield 9, 3) := by decide +kernel
theorem dX0_sealUnder_17 : decode cX0_sealUnder 17 = .ok (.iconst 1, 1) := by decide +kernel
theorem dX0_sealUnder_18 : decode cX0_sealUnder 18 = .ok (.laload, 1) := by decide +kernel
theorem dX0_sealUnder_19 : decode cX0_sealUnder 19 = .ok (.invokestatic 19, 3) := by decide +kernel
theorem dX0_sealUnder_22 : decode cX0_sealUnder 22 = .ok (.aload_n 0, 1) := by decide +kernel
theorem dX0_sealUnder_23 : decode cX0_sealUnder 23 = .ok (.getfield 9, 3) := by decide +kernel
theorem dX0_sealUnder_26 : decode cX0_sealUnder 26 = .ok (.iconst 2, 1) := by decide +kernel
theorem dX0_sealUnder_27 : decode cX0_sealUnder 27 = .ok (.laload, 1) := by decide +kernel
theorem dX0_sealUnder_28 : decode cX0_sealUnder 28 = .ok (.invokestatic 19, 3) := by decide +kernel
theorem dX0_sealUnder_31 : decode cX0_sealUnder 31 = .ok (.invokestatic 19, 3) := by decide +kernel
theorem dX0_sealUnder_34 : decode cX0_sealUnder 34 = .ok (.lreturn, 1) := by decide +kernel
theorem dX0_secretUnder_0 : decode cX0_secretUnder 0 = .ok (.aload_n 0, 1) := by decide +kernel
theorem dX0_secretUnder_1 : decode cX0_secretUnder 1 = .ok (.getfield 9, 3) := by decide +kernel
theorem dX0_secretUnder_4 : decode cX0_secretUnder 4 = .ok (.iconst 0, 1) := by decide +kernel
theorem dX0_secretUnder_5 : decode cX0_secretUnder 5 = .ok (.laload, 1) := by decide +kernel
theorem dX0_secretUnder_6 : decode cX0_secretUnder 6 = .ok (.lload_n 1, 1) := by decide +kernel
theorem dX0_secretUnder_7 : decode cX0_secretUnder 7 = .ok (.lconst 1, 1) := by decide +kernel
theorem dX0_secretUnder_8 : decode cX0_secretUnder 8 = .ok (.invokestatic 19, 3) := by decide +kernel
theorem dX0_secretUnder_11 : decode cX0_secretUnder 11 = .ok (.lxor, 1) := by decide +kernel
theorem dX0_secretUnder_12 : decode cX0_secretUnder 12 = .ok (.lreturn, 1) := by decide +kernel
theorem dX0_wordUnder_0 : decode cX0_wordUnder 0 = .ok (.aload_n 0, 1) := by decide +kernel
theorem dX0_wordUnder_1 : decode cX0_wordUnder 1 = .ok (.getfield 9, 3) := by decide +kernel
theorem dX0_wordUnder_4 : decode cX0_wordUnder 4 = .ok (.iconst 1, 1) := by decide +kernel
theorem dX0_wordUnder_5 : decode cX0_wordUnder 5 = .ok (.laload, 1) := by decide +kernel
theorem dX0_wordUnder_6 : decode cX0_wordUnder 6 = .ok (.lload_n 1, 1) := by decide +kernel
theorem dX0_wordUnder_7 : decode cX0_wordUnder 7 = .ok (.ldc2_w 23, 3) := by decide +kernel
theorem dX0_wordUnder_10 : decode cX0_wordUnder 10 = .ok (.invokestatic 19, 3) := by decide +kernel
theorem dX0_wordUnder_13 : decode cX0_wordUnder 13 = .ok (.lxor, 1) := by decide +kernel
theorem dX0_wordUnder_14 : decode cX0_wordUnder 14 = .ok (.l2i, 1) := by decide +kernel
theorem dX0_wordUnder_15 : decode cX0_wordUnder 15 = .ok (.ireturn, 1) := by decide +kernel
theorem dX3_init_0 : decode cX3_init 0 = .ok (.aload_n 0, 1) := by decide +kernel
theorem dX3_init_1 : decode cX3_init 1 = .ok (.invokespecial 1, 3) := by decide +kernel
theorem dX3_init_4 : decode cX3_init 4 = .ok (.return_, 1) := by decide +kernel
theorem dX3_beginAnew_0 : decode cX3_beginAnew 0 = .ok (.aload_n 0, 1) := by decide +kernel
theorem dX3_beginAnew_1 : decode cX3_beginAnew 1 = .ok (.lconst 0, 1) := by decide +kernel
theorem dX3_beginAnew_2 : decode cX3_beginAnew 2 = .ok (.putfield 7, 3) := by decide +kernel
theorem dX3_beginAnew_5 : decode cX3_beginAnew 5 = .ok (.aload_n 0, 1) := by decide +kernel
theorem dX3_beginAnew_6 : decode cX3_beginAnew 6 = .ok (.iconst 0, 1) := by decide +kernel
theorem dX3_beginAnew_7 : decode cX3_beginAnew 7 = .ok (.putfield 13, 3) := by decide +kernel
theorem dX3_beginAnew_10 : decode cX3_beginAnew 10 = .ok (.aload_n 0, 1) := by decide +kernel
theorem dX3_beginAnew_11 : decode cX3_beginAnew 11 = .ok (.iconst 0, 1) := by decide +kernel
theorem dX3_beginAnew_12 : decode cX3_beginAnew 12 = .ok (.putfield 17, 3) := by decide +kernel
theorem dX3_beginAnew_15 : decode cX3_beginAnew 15 = .ok (.return_, 1) := by decide +kernel
theorem dX1_init_0 : decode cX1_init 0 = .ok (.aload_n 0, 1) := by decide +kernel
theorem dX1_init_1 : decode cX1_init 1 = .ok (.invokespecial 1, 3) := by decide +kernel
theorem dX1_init_4 : decode cX1_init 4 = .ok (.return_, 1) := by decide +kernel
theorem dX1_begin_0 : decode cX1_begin 0 = .ok (.aload_n 0, 1) := by decide +kernel
theorem dX1_begin_1 : decode cX1_begin 1 = .ok (.iconst 1, 1) := by decide +kernel
theorem dX1_begin_2 : decode cX1_begin 2 = .ok (.putfield 7, 3) := by decide +kernel
theorem dX1_begin_5 : decode cX1_begin 5 = .ok (.aload_n 0, 1) := by decide +kernel
theorem dX1_begin_6 : decode cX1_begin 6 = .ok (.iload_n 1, 1) := by decide +kernel
theorem dX1_begin_7 : decode cX1_begin 7 = .ok (.putfield 13, 3) := by decide +kernel
theorem dX1_begin_10 : decode cX1_begin 10 = .ok (.aload_n 0, 1) := by decide +kernel
theorem dX1_begin_11 : decode cX1_begin 11 = .ok (.lload_n 2, 1) := by decide +kernel
theorem dX1_begin_12 : decode cX1_begin 12 = .ok (.putfield 16, 3) := by decide +kernel
theorem dX1_begin_15 : decode cX1_begin 15 = .ok (.aload_n 0, 1) := by decide +kernel
theorem dX1_begin_16 : decode cX1_begin 16 = .ok (.iconst 0, 1) := by decide +kernel
theorem dX1_begin_17 : decode cX1_begin 17 = .ok (.putfield 20, 3) := by decide +kernel
theorem dX1_begin_20 : decode cX1_begin 20 = .ok (.aload_n 0, 1) := by decide +kernel
theorem dX1_begin_21 : decode cX1_begin 21 = .ok (.lconst 0, 1) := by decide +kernel
theorem dX1_begin_22 : decode cX1_begin 22 = .ok (.putfield 23, 3) := by decide +kernel
theorem dX1_begin_25 : decode cX1_begin 25 = .ok (.return_, 1) := by decide +kernel
