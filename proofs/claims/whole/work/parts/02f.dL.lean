theorem dL_cell_0 : decode cL_cell 0 = .ok (.iload_n 1, 1) := by decide +kernel
theorem dL_cell_1 : decode cL_cell 1 = .ok (.aload_n 0, 1) := by decide +kernel
theorem dL_cell_2 : decode cL_cell 2 = .ok (.arraylength, 1) := by decide +kernel
theorem dL_cell_3 : decode cL_cell 3 = .ok (.if_icmp .ge 9, 3) := by decide +kernel
theorem dL_cell_6 : decode cL_cell 6 = .ok (.aload_n 0, 1) := by decide +kernel
theorem dL_cell_7 : decode cL_cell 7 = .ok (.iload_n 1, 1) := by decide +kernel
theorem dL_cell_8 : decode cL_cell 8 = .ok (.iaload, 1) := by decide +kernel
theorem dL_cell_9 : decode cL_cell 9 = .ok (.goto 4, 3) := by decide +kernel
theorem dL_cell_12 : decode cL_cell 12 = .ok (.iconst 0, 1) := by decide +kernel
theorem dL_cell_13 : decode cL_cell 13 = .ok (.ireturn, 1) := by decide +kernel
theorem dL_power_0 : decode cL_power 0 = .ok (.aload_n 0, 1) := by decide +kernel
theorem dL_power_1 : decode cL_power 1 = .ok (.iload_n 1, 1) := by decide +kernel
theorem dL_power_2 : decode cL_power 2 = .ok (.invokevirtual 7, 3) := by decide +kernel
theorem dL_power_5 : decode cL_power 5 = .ok (.goto 6, 3) := by decide +kernel
theorem dL_power_8 : decode cL_power 8 = .ok (.astore_n 2, 1) := by decide +kernel
theorem dL_power_9 : decode cL_power 9 = .ok (.iconst 1, 1) := by decide +kernel
theorem dL_power_10 : decode cL_power 10 = .ok (.ireturn, 1) := by decide +kernel
theorem dL_power_11 : decode cL_power 11 = .ok (.iconst 0, 1) := by decide +kernel
theorem dL_power_12 : decode cL_power 12 = .ok (.ireturn, 1) := by decide +kernel
theorem dL_extend_0 : decode cL_extend 0 = .ok (.aload 5, 2) := by decide +kernel
theorem dL_extend_2 : decode cL_extend 2 = .ok (.iconst 0, 1) := by decide +kernel
theorem dL_extend_3 : decode cL_extend 3 = .ok (.aload_n 0, 1) := by decide +kernel
theorem dL_extend_4 : decode cL_extend 4 = .ok (.iload_n 1, 1) := by decide +kernel
theorem dL_extend_5 : decode cL_extend 5 = .ok (.iload_n 2, 1) := by decide +kernel
theorem dL_extend_6 : decode cL_extend 6 = .ok (.lload_n 3, 1) := by decide +kernel
theorem dL_extend_7 : decode cL_extend 7 = .ok (.invokevirtual 15, 3) := by decide +kernel
theorem dL_extend_10 : decode cL_extend 10 = .ok (.lastore, 1) := by decide +kernel
theorem dL_extend_11 : decode cL_extend 11 = .ok (.goto 11, 3) := by decide +kernel
theorem dL_extend_14 : decode cL_extend 14 = .ok (.astore 6, 2) := by decide +kernel
theorem dL_extend_16 : decode cL_extend 16 = .ok (.iconst 1, 1) := by decide +kernel
theorem dL_extend_17 : decode cL_extend 17 = .ok (.ireturn, 1) := by decide +kernel
theorem dL_extend_18 : decode cL_extend 18 = .ok (.astore 6, 2) := by decide +kernel
theorem dL_extend_20 : decode cL_extend 20 = .ok (.iconst 2, 1) := by decide +kernel
theorem dL_extend_21 : decode cL_extend 21 = .ok (.ireturn, 1) := by decide +kernel
theorem dL_extend_22 : decode cL_extend 22 = .ok (.iconst 0, 1) := by decide +kernel
theorem dL_extend_23 : decode cL_extend 23 = .ok (.ireturn, 1) := by decide +kernel
theorem dL_primary_0 : decode cL_primary 0 = .ok (.aload 4, 2) := by decide +kernel
theorem dL_primary_2 : decode cL_primary 2 = .ok (.iconst 0, 1) := by decide +kernel
theorem dL_primary_3 : decode cL_primary 3 = .ok (.aload_n 0, 1) := by decide +kernel
theorem dL_primary_4 : decode cL_primary 4 = .ok (.iload_n 1, 1) := by decide +kernel
theorem dL_primary_5 : decode cL_primary 5 = .ok (.lload_n 2, 1) := by decide +kernel
theorem dL_primary_6 : decode cL_primary 6 = .ok (.invokevirtual 21, 3) := by decide +kernel
theorem dL_primary_9 : decode cL_primary 9 = .ok (.i2l, 1) := by decide +kernel
theorem dL_primary_10 : decode cL_primary 10 = .ok (.lastore, 1) := by decide +kernel
theorem dL_primary_11 : decode cL_primary 11 = .ok (.goto 11, 3) := by decide +kernel
theorem dL_primary_14 : decode cL_primary 14 = .ok (.astore 5, 2) := by decide +kernel
theorem dL_primary_16 : decode cL_primary 16 = .ok (.iconst 1, 1) := by decide +kernel
theorem dL_primary_17 : decode cL_primary 17 = .ok (.ireturn, 1) := by decide +kernel
theorem dL_primary_18 : decode cL_primary 18 = .ok (.astore 5, 2) := by decide +kernel
theorem dL_primary_20 : decode cL_primary 20 = .ok (.iconst 2, 1) := by decide +kernel
theorem dL_primary_21 : decode cL_primary 21 = .ok (.ireturn, 1) := by decide +kernel
theorem dL_primary_22 : decode cL_primary 22 = .ok (.iconst 0, 1) := by decide +kernel
theorem dL_primary_23 : decode cL_primary 23 = .ok (.ireturn, 1) := by decide +kernel
theorem dL_create_0 : decode cL_create 0 = .ok (.aload_n 0, 1) := by decide +kernel
theorem dL_create_1 : decode cL_create 1 = .ok (.iload_n 1, 1) := by decide +kernel
theorem dL_create_2 : decode cL_create 2 = .ok (.iload_n 2, 1) := by decide +kernel
theorem dL_create_3 : decode cL_create 3 = .ok (.lload_n 3, 1) := by decide +kernel
theorem dL_create_4 : decode cL_create 4 = .ok (.iload 5, 2) := by decide +kernel
theorem dL_create_6 : decode cL_create 6 = .ok (.lload 6, 2) := by decide +kernel
theorem dL_create_8 : decode cL_create 8 = .ok (.invokevirtual 25, 3) := by decide +kernel
theorem dL_create_11 : decode cL_create 11 = .ok (.goto 19, 3) := by decide +kernel
theorem dL_create_14 : decode cL_create 14 = .ok (.astore 8, 2) := by decide +kernel
theorem dL_create_16 : decode cL_create 16 = .ok (.iconst 1, 1) := by decide +kernel
theorem dL_create_17 : decode cL_create 17 = .ok (.ireturn, 1) := by decide +kernel
theorem dL_create_18 : decode cL_create 18 = .ok (.astore 8, 2) := by decide +kernel
theorem dL_create_20 : decode cL_create 20 = .ok (.iconst 2, 1) := by decide +kernel
theorem dL_create_21 : decode cL_create 21 = .ok (.ireturn, 1) := by decide +kernel
theorem dL_create_22 : decode cL_create 22 = .ok (.astore 8, 2) := by decide +kernel
theorem dL_create_24 : decode cL_create 24 = .ok (.iconst 3, 1) := by decide +kernel
theorem dL_create_25 : decode cL_create 25 = .ok (.ireturn, 1) := by decide +kernel
theorem dL_create_26 : decode cL_create 26 = .ok (.astore 8, 2) := by decide +kernel
theorem dL_create_28 : decode cL_create 28 = .ok (.iconst 4, 1) := by decide +kernel
theorem dL_create_29 : decode cL_create 29 = .ok (.ireturn, 1) := by decide +kernel
theorem dL_create_30 : decode cL_create 30 = .ok (.iconst 0, 1) := by decide +kernel
theorem dL_create_31 : decode cL_create 31 = .ok (.ireturn, 1) := by decide +kernel
theorem dL_load_0 : decode cL_load 0 = .ok (.aload_n 3, 1) := by decide +kernel
theorem dL_load_1 : decode cL_load 1 = .ok (.iconst 0, 1) := by decide +kernel
theorem dL_load_2 : decode cL_load 2 = .ok (.aload_n 0, 1) := by decide +kernel
theorem dL_load_3 : decode cL_load 3 = .ok (.iload_n 1, 1) := by decide +kernel
theorem dL_load_4 : decode cL_load 4 = .ok (.iload_n 2, 1) := by decide +kernel
theorem dL_load_5 : decode cL_load 5 = .ok (.invokevirtual 33, 3) := by decide +kernel
theorem dL_load_8 : decode cL_load 8 = .ok (.i2l, 1) := by decide +kernel
theorem dL_load_9 : decode cL_load 9 = .ok (.lastore, 1) := by decide +kernel
theorem dL_load_10 : decode cL_load 10 = .ok (.goto 23, 3) := by decide +kernel
theorem dL_load_13 : decode cL_load 13 = .ok (.astore 4, 2) := by decide +kernel
theorem dL_load_15 : decode cL_load 15 = .ok (.iconst 1, 1) := by decide +kernel
theorem dL_load_16 : decode cL_load 16 = .ok (.ireturn, 1) := by decide +kernel
theorem dL_load_17 : decode cL_load 17 = .ok (.astore 4, 2) := by decide +kernel
theorem dL_load_19 : decode cL_load 19 = .ok (.iconst 2, 1) := by decide +kernel
theorem dL_load_20 : decode cL_load 20 = .ok (.ireturn, 1) := by decide +kernel
theorem dL_load_21 : decode cL_load 21 = .ok (.astore 4, 2) := by decide +kernel
theorem dL_load_23 : decode cL_load 23 = .ok (.iconst 3, 1) := by decide +kernel
theorem dL_load_24 : decode cL_load 24 = .ok (.ireturn, 1) := by decide +kernel
theorem dL_load_25 : decode cL_load 25 = .ok (.astore 4, 2) := by decide +kernel
theorem dL_load_27 : decode cL_load 27 = .ok (.iconst 4, 1) := by decide +kernel
theorem dL_load_28 : decode cL_load 28 = .ok (.ireturn, 1) := by decide +kernel
theorem dL_load_29 : decode cL_load 29 = .ok (.astore 4, 2) := by decide +kernel
theorem dL_load_31 : decode cL_load 31 = .ok (.iconst 5, 1) := by decide +kernel
theorem dL_load_32 : decode cL_load 32 = .ok (.ireturn, 1) := by decide +kernel
theorem dL_load_33 : decode cL_load 33 = .ok (.iconst 0, 1) := by decide +kernel
theorem dL_load_34 : decode cL_load 34 = .ok (.ireturn, 1) := by decide +kernel
theorem dL_tamper_0 : decode cL_tamper 0 = .ok (.aload_n 0, 1) := by decide +kernel
theorem dL_tamper_1 : decode cL_tamper 1 = .ok (.iload_n 1, 1) := by decide +kernel
theorem dL_tamper_2 : decode cL_tamper 2 = .ok (.iload_n 2, 1) := by decide +kernel
theorem dL_tamper_3 : decode cL_tamper 3 = .ok (.lload_n 3, 1) := by decide +kernel
theorem dL_tamper_4 : decode cL_tamper 4 = .ok (.invokevirtual 39, 3) := by decide +kernel
theorem dL_tamper_7 : decode cL_tamper 7 = .ok (.goto 11, 3) := by decide +kernel
theorem dL_tamper_10 : decode cL_tamper 10 = .ok (.astore 5, 2) := by decide +kernel
theorem dL_tamper_12 : decode cL_tamper 12 = .ok (.iconst 1, 1) := by decide +kernel
theorem dL_tamper_13 : decode cL_tamper 13 = .ok (.ireturn, 1) := by decide +kernel
theorem dL_tamper_14 : decode cL_tamper 14 = .ok (.astore 5, 2) := by decide +kernel
theorem dL_tamper_16 : decode cL_tamper 16 = .ok (.iconst 2, 1) := by decide +kernel
theorem dL_tamper_17 : decode cL_tamper 17 = .ok (.ireturn, 1) := by decide +kernel
theorem dL_tamper_18 : decode cL_tamper 18 = .ok (.iconst 0, 1) := by decide +kernel
theorem dL_tamper_19 : decode cL_tamper 19 = .ok (.ireturn, 1) := by decide +kernel
theorem dL_flush_0 : decode cL_flush 0 = .ok (.aload_n 0, 1) := by decide +kernel
theorem dL_flush_1 : decode cL_flush 1 = .ok (.iload_n 1, 1) := by decide +kernel
theorem dL_flush_2 : decode cL_flush 2 = .ok (.invokevirtual 43, 3) := by decide +kernel
theorem dL_flush_5 : decode cL_flush 5 = .ok (.goto 12, 3) := by decide +kernel
theorem dL_flush_8 : decode cL_flush 8 = .ok (.astore_n 2, 1) := by decide +kernel
theorem dL_flush_9 : decode cL_flush 9 = .ok (.iconst 1, 1) := by decide +kernel
theorem dL_flush_10 : decode cL_flush 10 = .ok (.ireturn, 1) := by decide +kernel
theorem dL_flush_11 : decode cL_flush 11 = .ok (.astore_n 2, 1) := by decide +kernel
theorem dL_flush_12 : decode cL_flush 12 = .ok (.iconst 2, 1) := by decide +kernel
theorem dL_flush_13 : decode cL_flush 13 = .ok (.ireturn, 1) := by decide +kernel
theorem dL_flush_14 : decode cL_flush 14 = .ok (.astore_n 2, 1) := by decide +kernel
theorem dL_flush_15 : decode cL_flush 15 = .ok (.iconst 3, 1) := by decide +kernel
theorem dL_flush_16 : decode cL_flush 16 = .ok (.ireturn, 1) := by decide +kernel
theorem dL_flush_17 : decode cL_flush 17 = .ok (.iconst 0, 1) := by decide +kernel
theorem dL_flush_18 : decode cL_flush 18 = .ok (.ireturn, 1) := by decide +kernel
theorem dL_open_0 : decode cL_open 0 = .ok (.aload_n 3, 1) := by decide +kernel
theorem dL_open_1 : decode cL_open 1 = .ok (.iconst 0, 1) := by decide +kernel
theorem dL_open_2 : decode cL_open 2 = .ok (.aload_n 0, 1) := by decide +kernel
theorem dL_open_3 : decode cL_open 3 = .ok (.iload_n 1, 1) := by decide +kernel
theorem dL_open_4 : decode cL_open 4 = .ok (.iload_n 2, 1) := by decide +kernel
theorem dL_open_5 : decode cL_open 5 = .ok (.invokevirtual 46, 3) := by decide +kernel
theorem dL_open_8 : decode cL_open 8 = .ok (.lastore, 1) := by decide +kernel
theorem dL_open_9 : decode cL_open 9 = .ok (.goto 19, 3) := by decide +kernel
theorem dL_open_12 : decode cL_open 12 = .ok (.astore 4, 2) := by decide +kernel
theorem dL_open_14 : decode cL_open 14 = .ok (.iconst 1, 1) := by decide +kernel
theorem dL_open_15 : decode cL_open 15 = .ok (.ireturn, 1) := by decide +kernel
theorem dL_open_16 : decode cL_open 16 = .ok (.astore 4, 2) := by decide +kernel
theorem dL_open_18 : decode cL_open 18 = .ok (.iconst 2, 1) := by decide +kernel
theorem dL_open_19 : decode cL_open 19 = .ok (.ireturn, 1) := by decide +kernel
theorem dL_open_20 : decode cL_open 20 = .ok (.astore 4, 2) := by decide +kernel
theorem dL_open_22 : decode cL_open 22 = .ok (.iconst 3, 1) := by decide +kernel
theorem dL_open_23 : decode cL_open 23 = .ok (.ireturn, 1) := by decide +kernel
theorem dL_open_24 : decode cL_open 24 = .ok (.astore 4, 2) := by decide +kernel
theorem dL_open_26 : decode cL_open 26 = .ok (.iconst 4, 1) := by decide +kernel
theorem dL_open_27 : decode cL_open 27 = .ok (.ireturn, 1) := by decide +kernel
theorem dL_open_28 : decode cL_open 28 = .ok (.iconst 0, 1) := by decide +kernel
theorem dL_open_29 : decode cL_open 29 = .ok (.ireturn, 1) := by decide +kernel
theorem dL_unseal_0 : decode cL_unseal 0 = .ok (.aload_n 3, 1) := by decide +kernel
theorem dL_unseal_1 : decode cL_unseal 1 = .ok (.iconst 0, 1) := by decide +kernel
theorem dL_unseal_2 : decode cL_unseal 2 = .ok (.aload_n 0, 1) := by decide +kernel
theorem dL_unseal_3 : decode cL_unseal 3 = .ok (.iload_n 1, 1) := by decide +kernel
theorem dL_unseal_4 : decode cL_unseal 4 = .ok (.iload_n 2, 1) := by decide +kernel
theorem dL_unseal_5 : decode cL_unseal 5 = .ok (.invokevirtual 50, 3) := by decide +kernel
theorem dL_unseal_8 : decode cL_unseal 8 = .ok (.lastore, 1) := by decide +kernel
theorem dL_unseal_9 : decode cL_unseal 9 = .ok (.goto 19, 3) := by decide +kernel
theorem dL_unseal_12 : decode cL_unseal 12 = .ok (.astore 4, 2) := by decide +kernel
theorem dL_unseal_14 : decode cL_unseal 14 = .ok (.iconst 1, 1) := by decide +kernel
theorem dL_unseal_15 : decode cL_unseal 15 = .ok (.ireturn, 1) := by decide +kernel
theorem dL_unseal_16 : decode cL_unseal 16 = .ok (.astore 4, 2) := by decide +kernel
theorem dL_unseal_18 : decode cL_unseal 18 = .ok (.iconst 2, 1) := by decide +kernel
theorem dL_unseal_19 : decode cL_unseal 19 = .ok (.ireturn, 1) := by decide +kernel
theorem dL_unseal_20 : decode cL_unseal 20 = .ok (.astore 4, 2) := by decide +kernel
theorem dL_unseal_22 : decode cL_unseal 22 = .ok (.iconst 3, 1) := by decide +kernel
theorem dL_unseal_23 : decode cL_unseal 23 = .ok (.ireturn, 1) := by decide +kernel
theorem dL_unseal_24 : decode cL_unseal 24 = .ok (.astore 4, 2) := by decide +kernel
theorem dL_unseal_26 : decode cL_unseal 26 = .ok (.iconst 4, 1) := by decide +kernel
theorem dL_unseal_27 : decode cL_unseal 27 = .ok (.ireturn, 1) := by decide +kernel
theorem dL_unseal_28 : decode cL_unseal 28 = .ok (.iconst 0, 1) := by decide +kernel
theorem dL_unseal_29 : decode cL_unseal 29 = .ok (.ireturn, 1) := by decide +kernel
theorem dL_session_0 : decode cL_session 0 = .ok (.aload_n 0, 1) := by decide +kernel
theorem dL_session_1 : decode cL_session 1 = .ok (.iload_n 1, 1) := by decide +kernel
theorem dL_session_2 : decode cL_session 2 = .ok (.invokevirtual 53, 3) := by decide +kernel
theorem dL_session_5 : decode cL_session 5 = .ok (.goto 9, 3) := by decide +kernel
theorem dL_session_8 : decode cL_session 8 = .ok (.astore_n 2, 1) := by decide +kernel
theorem dL_session_9 : decode cL_session 9 = .ok (.iconst 1, 1) := by decide +kernel
theorem dL_session_10 : decode cL_session 10 = .ok (.ireturn, 1) := by decide +kernel
theorem dL_session_11 : decode cL_session 11 = .ok (.astore_n 2, 1) := by decide +kernel
theorem dL_session_12 : decode cL_session 12 = .ok (.iconst 2, 1) := by decide +kernel
theorem dL_session_13 : decode cL_session 13 = .ok (.ireturn, 1) := by decide +kernel
theorem dL_session_14 : decode cL_session 14 = .ok (.iconst 0, 1) := by decide +kernel
theorem dL_session_15 : decode cL_session 15 = .ok (.ireturn, 1) := by decide +kernel
theorem dL_pcr_0 : decode cL_pcr 0 = .ok (.aload 4, 2) := by decide +kernel
theorem dL_pcr_2 : decode cL_pcr 2 = .ok (.iconst 0, 1) := by decide +kernel
theorem dL_pcr_3 : decode cL_pcr 3 = .ok (.aload_n 0, 1) := by decide +kernel
theorem dL_pcr_4 : decode cL_pcr 4 = .ok (.iload_n 1, 1) := by decide +kernel
theorem dL_pcr_5 : decode cL_pcr 5 = .ok (.iload_n 2, 1) := by decide +kernel
theorem dL_pcr_6 : decode cL_pcr 6 = .ok (.iload_n 3, 1) := by decide +kernel
theorem dL_pcr_7 : decode cL_pcr 7 = .ok (.invokevirtual 56, 3) := by decide +kernel
theorem dL_pcr_10 : decode cL_pcr 10 = .ok (.lastore, 1) := by decide +kernel
theorem dL_pcr_11 : decode cL_pcr 11 = .ok (.goto 11, 3) := by decide +kernel
theorem dL_pcr_14 : decode cL_pcr 14 = .ok (.astore 5, 2) := by decide +kernel
theorem dL_pcr_16 : decode cL_pcr 16 = .ok (.iconst 1, 1) := by decide +kernel
theorem dL_pcr_17 : decode cL_pcr 17 = .ok (.ireturn, 1) := by decide +kernel
theorem dL_pcr_18 : decode cL_pcr 18 = .ok (.astore 5, 2) := by decide +kernel
theorem dL_pcr_20 : decode cL_pcr 20 = .ok (.iconst 2, 1) := by decide +kernel
theorem dL_pcr_21 : decode cL_pcr 21 = .ok (.ireturn, 1) := by decide +kernel
theorem dL_pcr_22 : decode cL_pcr 22 = .ok (.iconst 0, 1) := by decide +kernel
theorem dL_pcr_23 : decode cL_pcr 23 = .ok (.ireturn, 1) := by decide +kernel
theorem dL_either_0 : decode cL_either 0 = .ok (.aload 6, 2) := by decide +kernel
theorem dL_either_2 : decode cL_either 2 = .ok (.iconst 0, 1) := by decide +kernel
theorem dL_either_3 : decode cL_either 3 = .ok (.aload_n 0, 1) := by decide +kernel
theorem dL_either_4 : decode cL_either 4 = .ok (.iload_n 1, 1) := by decide +kernel
theorem dL_either_5 : decode cL_either 5 = .ok (.lload_n 2, 1) := by decide +kernel
theorem dL_either_6 : decode cL_either 6 = .ok (.lload 4, 2) := by decide +kernel
theorem dL_either_8 : decode cL_either 8 = .ok (.invokevirtual 60, 3) := by decide +kernel
theorem dL_either_11 : decode cL_either 11 = .ok (.lastore, 1) := by decide +kernel
theorem dL_either_12 : decode cL_either 12 = .ok (.goto 15, 3) := by decide +kernel
theorem dL_either_15 : decode cL_either 15 = .ok (.astore 7, 2) := by decide +kernel
theorem dL_either_17 : decode cL_either 17 = .ok (.iconst 1, 1) := by decide +kernel
theorem dL_either_18 : decode cL_either 18 = .ok (.ireturn, 1) := by decide +kernel
theorem dL_either_19 : decode cL_either 19 = .ok (.astore 7, 2) := by decide +kernel
theorem dL_either_21 : decode cL_either 21 = .ok (.iconst 2, 1) := by decide +kernel
theorem dL_either_22 : decode cL_either 22 = .ok (.ireturn, 1) := by decide +kernel
theorem dL_either_23 : decode cL_either 23 = .ok (.astore 7, 2) := by decide +kernel
theorem dL_either_25 : decode cL_either 25 = .ok (.iconst 3, 1) := by decide +kernel
theorem dL_either_26 : decode cL_either 26 = .ok (.ireturn, 1) := by decide +kernel
theorem dL_either_27 : decode cL_either 27 = .ok (.iconst 0, 1) := by decide +kernel
theorem dL_either_28 : decode cL_either 28 = .ok (.ireturn, 1) := by decide +kernel
theorem dL_with_0 : decode cL_with 0 = .ok (.aload 4, 2) := by decide +kernel
theorem dL_with_2 : decode cL_with 2 = .ok (.iconst 0, 1) := by decide +kernel
theorem dL_with_3 : decode cL_with 3 = .ok (.aload_n 0, 1) := by decide +kernel
theorem dL_with_4 : decode cL_with 4 = .ok (.iload_n 1, 1) := by decide +kernel
theorem dL_with_5 : decode cL_with 5 = .ok (.iload_n 2, 1) := by decide +kernel
theorem dL_with_6 : decode cL_with 6 = .ok (.iload_n 3, 1) := by decide +kernel
theorem dL_with_7 : decode cL_with 7 = .ok (.invokevirtual 64, 3) := by decide +kernel
theorem dL_with_10 : decode cL_with 10 = .ok (.lastore, 1) := by decide +kernel
theorem dL_with_11 : decode cL_with 11 = .ok (.goto 19, 3) := by decide +kernel
theorem dL_with_14 : decode cL_with 14 = .ok (.astore 5, 2) := by decide +kernel
theorem dL_with_16 : decode cL_with 16 = .ok (.iconst 1, 1) := by decide +kernel
theorem dL_with_17 : decode cL_with 17 = .ok (.ireturn, 1) := by decide +kernel
theorem dL_with_18 : decode cL_with 18 = .ok (.astore 5, 2) := by decide +kernel
theorem dL_with_20 : decode cL_with 20 = .ok (.iconst 2, 1) := by decide +kernel
theorem dL_with_21 : decode cL_with 21 = .ok (.ireturn, 1) := by decide +kernel
theorem dL_with_22 : decode cL_with 22 = .ok (.astore 5, 2) := by decide +kernel
theorem dL_with_24 : decode cL_with 24 = .ok (.iconst 3, 1) := by decide +kernel
theorem dL_with_25 : decode cL_with 25 = .ok (.ireturn, 1) := by decide +kernel
theorem dL_with_26 : decode cL_with 26 = .ok (.astore 5, 2) := by decide +kernel
theorem dL_with_28 : decode cL_with 28 = .ok (.iconst 4, 1) := by decide +kernel
theorem dL_with_29 : decode cL_with 29 = .ok (.ireturn, 1) := by decide +kernel
theorem dL_with_30 : decode cL_with 30 = .ok (.iconst 0, 1) := by decide +kernel
theorem dL_with_31 : decode cL_with 31 = .ok (.ireturn, 1) := by decide +kernel
theorem dL_define_0 : decode cL_define 0 = .ok (.aload_n 0, 1) := by decide +kernel
theorem dL_define_1 : decode cL_define 1 = .ok (.iload_n 1, 1) := by decide +kernel
theorem dL_define_2 : decode cL_define 2 = .ok (.iload_n 2, 1) := by decide +kernel
theorem dL_define_3 : decode cL_define 3 = .ok (.lload_n 3, 1) := by decide +kernel
theorem dL_define_4 : decode cL_define 4 = .ok (.invokevirtual 67, 3) := by decide +kernel
theorem dL_define_7 : decode cL_define 7 = .ok (.goto 11, 3) := by decide +kernel
theorem dL_define_10 : decode cL_define 10 = .ok (.astore 5, 2) := by decide +kernel
theorem dL_define_12 : decode cL_define 12 = .ok (.iconst 1, 1) := by decide +kernel
theorem dL_define_13 : decode cL_define 13 = .ok (.ireturn, 1) := by decide +kernel
theorem dL_define_14 : decode cL_define 14 = .ok (.astore 5, 2) := by decide +kernel
theorem dL_define_16 : decode cL_define 16 = .ok (.iconst 2, 1) := by decide +kernel
theorem dL_define_17 : decode cL_define 17 = .ok (.ireturn, 1) := by decide +kernel
theorem dL_define_18 : decode cL_define 18 = .ok (.iconst 0, 1) := by decide +kernel
theorem dL_define_19 : decode cL_define 19 = .ok (.ireturn, 1) := by decide +kernel
theorem dL_remove_0 : decode cL_remove 0 = .ok (.aload_n 0, 1) := by decide +kernel
theorem dL_remove_1 : decode cL_remove 1 = .ok (.iload_n 1, 1) := by decide +kernel
theorem dL_remove_2 : decode cL_remove 2 = .ok (.invokevirtual 71, 3) := by decide +kernel
theorem dL_remove_5 : decode cL_remove 5 = .ok (.goto 12, 3) := by decide +kernel
theorem dL_remove_8 : decode cL_remove 8 = .ok (.astore_n 2, 1) := by decide +kernel
theorem dL_remove_9 : decode cL_remove 9 = .ok (.iconst 1, 1) := by decide +kernel
theorem dL_remove_10 : decode cL_remove 10 = .ok (.ireturn, 1) := by decide +kernel
theorem dL_remove_11 : decode cL_remove 11 = .ok (.astore_n 2, 1) := by decide +kernel
theorem dL_remove_12 : decode cL_remove 12 = .ok (.iconst 2, 1) := by decide +kernel
theorem dL_remove_13 : decode cL_remove 13 = .ok (.ireturn, 1) := by decide +kernel
theorem dL_remove_14 : decode cL_remove 14 = .ok (.astore_n 2, 1) := by decide +kernel
theorem dL_remove_15 : decode cL_remove 15 = .ok (.iconst 3, 1) := by decide +kernel
theorem dL_remove_16 : decode cL_remove 16 = .ok (.ireturn, 1) := by decide +kernel
theorem dL_remove_17 : decode cL_remove 17 = .ok (.iconst 0, 1) := by decide +kernel
theorem dL_remove_18 : decode cL_remove 18 = .ok (.ireturn, 1) := by decide +kernel
theorem dL_write_0 : decode cL_write 0 = .ok (.aload 5, 2) := by decide +kernel
theorem dL_write_2 : decode cL_write 2 = .ok (.iconst 0, 1) := by decide +kernel
theorem dL_write_3 : decode cL_write 3 = .ok (.aload_n 0, 1) := by decide +kernel
theorem dL_write_4 : decode cL_write 4 = .ok (.iload_n 1, 1) := by decide +kernel
theorem dL_write_5 : decode cL_write 5 = .ok (.iload_n 2, 1) := by decide +kernel
theorem dL_write_6 : decode cL_write 6 = .ok (.lload_n 3, 1) := by decide +kernel
theorem dL_write_7 : decode cL_write 7 = .ok (.invokevirtual 74, 3) := by decide +kernel
theorem dL_write_10 : decode cL_write 10 = .ok (.lastore, 1) := by decide +kernel
theorem dL_write_11 : decode cL_write 11 = .ok (.goto 19, 3) := by decide +kernel
theorem dL_write_14 : decode cL_write 14 = .ok (.astore 6, 2) := by decide +kernel
theorem dL_write_16 : decode cL_write 16 = .ok (.iconst 1, 1) := by decide +kernel
theorem dL_write_17 : decode cL_write 17 = .ok (.ireturn, 1) := by decide +kernel
theorem dL_write_18 : decode cL_write 18 = .ok (.astore 6, 2) := by decide +kernel
theorem dL_write_20 : decode cL_write 20 = .ok (.iconst 2, 1) := by decide +kernel
theorem dL_write_21 : decode cL_write 21 = .ok (.ireturn, 1) := by decide +kernel
theorem dL_write_22 : decode cL_write 22 = .ok (.astore 6, 2) := by decide +kernel
theorem dL_write_24 : decode cL_write 24 = .ok (.iconst 3, 1) := by decide +kernel
theorem dL_write_25 : decode cL_write 25 = .ok (.ireturn, 1) := by decide +kernel
theorem dL_write_26 : decode cL_write 26 = .ok (.astore 6, 2) := by decide +kernel
theorem dL_write_28 : decode cL_write 28 = .ok (.iconst 4, 1) := by decide +kernel
theorem dL_write_29 : decode cL_write 29 = .ok (.ireturn, 1) := by decide +kernel
theorem dL_write_30 : decode cL_write 30 = .ok (.iconst 0, 1) := by decide +kernel
theorem dL_write_31 : decode cL_write 31 = .ok (.ireturn, 1) := by decide +kernel
theorem dL_read_0 : decode cL_read 0 = .ok (.aload_n 2, 1) := by decide +kernel
theorem dL_read_1 : decode cL_read 1 = .ok (.iconst 0, 1) := by decide +kernel
theorem dL_read_2 : decode cL_read 2 = .ok (.aload_n 0, 1) := by decide +kernel
theorem dL_read_3 : decode cL_read 3 = .ok (.iload_n 1, 1) := by decide +kernel
theorem dL_read_4 : decode cL_read 4 = .ok (.invokevirtual 77, 3) := by decide +kernel
theorem dL_read_7 : decode cL_read 7 = .ok (.lastore, 1) := by decide +kernel
theorem dL_read_8 : decode cL_read 8 = .ok (.goto 12, 3) := by decide +kernel
theorem dL_read_11 : decode cL_read 11 = .ok (.astore_n 3, 1) := by decide +kernel
theorem dL_read_12 : decode cL_read 12 = .ok (.iconst 1, 1) := by decide +kernel
theorem dL_read_13 : decode cL_read 13 = .ok (.ireturn, 1) := by decide +kernel
theorem dL_read_14 : decode cL_read 14 = .ok (.astore_n 3, 1) := by decide +kernel
theorem dL_read_15 : decode cL_read 15 = .ok (.iconst 2, 1) := by decide +kernel
theorem dL_read_16 : decode cL_read 16 = .ok (.ireturn, 1) := by decide +kernel
theorem dL_read_17 : decode cL_read 17 = .ok (.astore_n 3, 1) := by decide +kernel
theorem dL_read_18 : decode cL_read 18 = .ok (.iconst 3, 1) := by decide +kernel
theorem dL_read_19 : decode cL_read 19 = .ok (.ireturn, 1) := by decide +kernel
theorem dL_read_20 : decode cL_read 20 = .ok (.iconst 0, 1) := by decide +kernel
theorem dL_read_21 : decode cL_read 21 = .ok (.ireturn, 1) := by decide +kernel
theorem dL_clock_0 : decode cL_clock 0 = .ok (.aload_n 3, 1) := by decide +kernel
theorem dL_clock_1 : decode cL_clock 1 = .ok (.iconst 0, 1) := by decide +kernel
theorem dL_clock_2 : decode cL_clock 2 = .ok (.aload_n 0, 1) := by decide +kernel
theorem dL_clock_3 : decode cL_clock 3 = .ok (.iload_n 1, 1) := by decide +kernel
theorem dL_clock_4 : decode cL_clock 4 = .ok (.iload_n 2, 1) := by decide +kernel
theorem dL_clock_5 : decode cL_clock 5 = .ok (.invokevirtual 81, 3) := by decide +kernel
theorem dL_clock_8 : decode cL_clock 8 = .ok (.dastore, 1) := by decide +kernel
theorem dL_clock_9 : decode cL_clock 9 = .ok (.goto 11, 3) := by decide +kernel
theorem dL_clock_12 : decode cL_clock 12 = .ok (.astore 4, 2) := by decide +kernel
theorem dL_clock_14 : decode cL_clock 14 = .ok (.iconst 1, 1) := by decide +kernel
theorem dL_clock_15 : decode cL_clock 15 = .ok (.ireturn, 1) := by decide +kernel
theorem dL_clock_16 : decode cL_clock 16 = .ok (.astore 4, 2) := by decide +kernel
theorem dL_clock_18 : decode cL_clock 18 = .ok (.iconst 2, 1) := by decide +kernel
theorem dL_clock_19 : decode cL_clock 19 = .ok (.ireturn, 1) := by decide +kernel
theorem dL_clock_20 : decode cL_clock 20 = .ok (.iconst 0, 1) := by decide +kernel
theorem dL_clock_21 : decode cL_clock 21 = .ok (.ireturn, 1) := by decide +kernel
theorem dL_clear_0 : decode cL_clear 0 = .ok (.aload_n 0, 1) := by decide +kernel
theorem dL_clear_1 : decode cL_clear 1 = .ok (.invokevirtual 85, 3) := by decide +kernel
theorem dL_clear_4 : decode cL_clear 4 = .ok (.goto 6, 3) := by decide +kernel
theorem dL_clear_7 : decode cL_clear 7 = .ok (.astore_n 1, 1) := by decide +kernel
theorem dL_clear_8 : decode cL_clear 8 = .ok (.iconst 1, 1) := by decide +kernel
theorem dL_clear_9 : decode cL_clear 9 = .ok (.ireturn, 1) := by decide +kernel
theorem dL_clear_10 : decode cL_clear 10 = .ok (.iconst 0, 1) := by decide +kernel
theorem dL_clear_11 : decode cL_clear 11 = .ok (.ireturn, 1) := by decide +kernel
theorem dL_told_0 : decode cL_told 0 = .ok (.aload_n 3, 1) := by decide +kernel
theorem dL_told_1 : decode cL_told 1 = .ok (.iconst 0, 1) := by decide +kernel
theorem dL_told_2 : decode cL_told 2 = .ok (.aload_n 0, 1) := by decide +kernel
theorem dL_told_3 : decode cL_told 3 = .ok (.iload_n 1, 1) := by decide +kernel
theorem dL_told_4 : decode cL_told 4 = .ok (.iload_n 2, 1) := by decide +kernel
theorem dL_told_5 : decode cL_told 5 = .ok (.invokevirtual 88, 3) := by decide +kernel
theorem dL_told_8 : decode cL_told 8 = .ok (.lastore, 1) := by decide +kernel
theorem dL_told_9 : decode cL_told 9 = .ok (.goto 11, 3) := by decide +kernel
theorem dL_told_12 : decode cL_told 12 = .ok (.astore 4, 2) := by decide +kernel
theorem dL_told_14 : decode cL_told 14 = .ok (.iconst 1, 1) := by decide +kernel
theorem dL_told_15 : decode cL_told 15 = .ok (.ireturn, 1) := by decide +kernel
theorem dL_told_16 : decode cL_told 16 = .ok (.astore 4, 2) := by decide +kernel
theorem dL_told_18 : decode cL_told 18 = .ok (.iconst 2, 1) := by decide +kernel
theorem dL_told_19 : decode cL_told 19 = .ok (.ireturn, 1) := by decide +kernel
theorem dL_told_20 : decode cL_told 20 = .ok (.iconst 0, 1) := by decide +kernel
theorem dL_told_21 : decode cL_told 21 = .ok (.ireturn, 1) := by decide +kernel
theorem dL_law_0 : decode cL_law 0 = .ok (.new 8, 3) := by decide +kernel
theorem dL_law_3 : decode cL_law 3 = .ok (.dup, 1) := by decide +kernel
theorem dL_law_4 : decode cL_law 4 = .ok (.aload_n 0, 1) := by decide +kernel
theorem dL_law_5 : decode cL_law 5 = .ok (.iconst 0, 1) := by decide +kernel
theorem dL_law_6 : decode cL_law 6 = .ok (.invokestatic 91, 3) := by decide +kernel
theorem dL_law_9 : decode cL_law 9 = .ok (.invokespecial 97, 3) := by decide +kernel
theorem dL_law_12 : decode cL_law 12 = .ok (.astore_n 1, 1) := by decide +kernel
theorem dL_law_13 : decode cL_law 13 = .ok (.new 99, 3) := by decide +kernel
theorem dL_law_16 : decode cL_law 16 = .ok (.dup, 1) := by decide +kernel
theorem dL_law_17 : decode cL_law 17 = .ok (.aload_n 0, 1) := by decide +kernel
theorem dL_law_18 : decode cL_law 18 = .ok (.iconst 0, 1) := by decide +kernel
theorem dL_law_19 : decode cL_law 19 = .ok (.invokestatic 91, 3) := by decide +kernel
theorem dL_law_22 : decode cL_law 22 = .ok (.invokespecial 101, 3) := by decide +kernel
theorem dL_law_25 : decode cL_law 25 = .ok (.astore_n 2, 1) := by decide +kernel
theorem dL_law_26 : decode cL_law 26 = .ok (.iconst 1, 1) := by decide +kernel
theorem dL_law_27 : decode cL_law 27 = .ok (.newarray .long, 2) := by decide +kernel
theorem dL_law_29 : decode cL_law 29 = .ok (.astore_n 3, 1) := by decide +kernel
theorem dL_law_30 : decode cL_law 30 = .ok (.iconst 1, 1) := by decide +kernel
theorem dL_law_31 : decode cL_law 31 = .ok (.newarray .double, 2) := by decide +kernel
theorem dL_law_33 : decode cL_law 33 = .ok (.astore 4, 2) := by decide +kernel
theorem dL_law_35 : decode cL_law 35 = .ok (.iconst 1, 1) := by decide +kernel
theorem dL_law_36 : decode cL_law 36 = .ok (.istore 5, 2) := by decide +kernel
theorem dL_law_38 : decode cL_law 38 = .ok (.iload 5, 2) := by decide +kernel
theorem dL_law_40 : decode cL_law 40 = .ok (.aload_n 0, 1) := by decide +kernel
theorem dL_law_41 : decode cL_law 41 = .ok (.arraylength, 1) := by decide +kernel
theorem dL_law_42 : decode cL_law 42 = .ok (.bipush 8, 2) := by decide +kernel
theorem dL_law_44 : decode cL_law 44 = .ok (.isub, 1) := by decide +kernel
theorem dL_law_45 : decode cL_law 45 = .ok (.if_icmp .gt 1739, 3) := by decide +kernel
theorem dL_law_48 : decode cL_law 48 = .ok (.aload_n 0, 1) := by decide +kernel
theorem dL_law_49 : decode cL_law 49 = .ok (.iload 5, 2) := by decide +kernel
theorem dL_law_51 : decode cL_law 51 = .ok (.iaload, 1) := by decide +kernel
theorem dL_law_52 : decode cL_law 52 = .ok (.bipush 31, 2) := by decide +kernel
theorem dL_law_54 : decode cL_law 54 = .ok (.iand, 1) := by decide +kernel
theorem dL_law_55 : decode cL_law 55 = .ok (.tableswitch 1723 0 21 #[101, 137, 248, 348, 500, 568, 660, 696, 763, 830, 866, 945, 1088, 1167, 1275, 1311, 1422, 1477, 1566, 1590, 1657, 1682], 101) := by decide +kernel
theorem dL_law_156 : decode cL_law 156 = .ok (.aload_n 1, 1) := by decide +kernel
theorem dL_law_157 : decode cL_law 157 = .ok (.aload_n 0, 1) := by decide +kernel
theorem dL_law_158 : decode cL_law 158 = .ok (.iload 5, 2) := by decide +kernel
theorem dL_law_160 : decode cL_law 160 = .ok (.iconst 1, 1) := by decide +kernel
theorem dL_law_161 : decode cL_law 161 = .ok (.iadd, 1) := by decide +kernel
theorem dL_law_162 : decode cL_law 162 = .ok (.iaload, 1) := by decide +kernel
theorem dL_law_163 : decode cL_law 163 = .ok (.invokestatic 102, 3) := by decide +kernel
theorem dL_law_166 : decode cL_law 166 = .ok (.istore 6, 2) := by decide +kernel
theorem dL_law_168 : decode cL_law 168 = .ok (.aload_n 2, 1) := by decide +kernel
theorem dL_law_169 : decode cL_law 169 = .ok (.aload_n 0, 1) := by decide +kernel
theorem dL_law_170 : decode cL_law 170 = .ok (.iload 5, 2) := by decide +kernel
theorem dL_law_172 : decode cL_law 172 = .ok (.iconst 1, 1) := by decide +kernel
theorem dL_law_173 : decode cL_law 173 = .ok (.iadd, 1) := by decide +kernel
theorem dL_law_174 : decode cL_law 174 = .ok (.iaload, 1) := by decide +kernel
theorem dL_law_175 : decode cL_law 175 = .ok (.invokevirtual 105, 3) := by decide +kernel
theorem dL_law_178 : decode cL_law 178 = .ok (.aload_n 2, 1) := by decide +kernel
theorem dL_law_179 : decode cL_law 179 = .ok (.invokevirtual 106, 3) := by decide +kernel
theorem dL_law_182 : decode cL_law 182 = .ok (.iload 6, 2) := by decide +kernel
theorem dL_law_184 : decode cL_law 184 = .ok (.if_icmp .eq 5, 3) := by decide +kernel
theorem dL_law_187 : decode cL_law 187 = .ok (.iconst 0, 1) := by decide +kernel
theorem dL_law_188 : decode cL_law 188 = .ok (.ireturn, 1) := by decide +kernel
theorem dL_law_189 : decode cL_law 189 = .ok (.goto 1589, 3) := by decide +kernel
theorem dL_law_192 : decode cL_law 192 = .ok (.aload_n 1, 1) := by decide +kernel
theorem dL_law_193 : decode cL_law 193 = .ok (.aload_n 0, 1) := by decide +kernel
theorem dL_law_194 : decode cL_law 194 = .ok (.iload 5, 2) := by decide +kernel
theorem dL_law_196 : decode cL_law 196 = .ok (.iconst 1, 1) := by decide +kernel
theorem dL_law_197 : decode cL_law 197 = .ok (.iadd, 1) := by decide +kernel
theorem dL_law_198 : decode cL_law 198 = .ok (.iaload, 1) := by decide +kernel
theorem dL_law_199 : decode cL_law 199 = .ok (.aload_n 0, 1) := by decide +kernel
theorem dL_law_200 : decode cL_law 200 = .ok (.iload 5, 2) := by decide +kernel
theorem dL_law_202 : decode cL_law 202 = .ok (.iconst 2, 1) := by decide +kernel
theorem dL_law_203 : decode cL_law 203 = .ok (.iadd, 1) := by decide +kernel
theorem dL_law_204 : decode cL_law 204 = .ok (.iaload, 1) := by decide +kernel
theorem dL_law_205 : decode cL_law 205 = .ok (.aload_n 0, 1) := by decide +kernel
theorem dL_law_206 : decode cL_law 206 = .ok (.iload 5, 2) := by decide +kernel
theorem dL_law_208 : decode cL_law 208 = .ok (.iconst 3, 1) := by decide +kernel
theorem dL_law_209 : decode cL_law 209 = .ok (.iadd, 1) := by decide +kernel
theorem dL_law_210 : decode cL_law 210 = .ok (.iaload, 1) := by decide +kernel
theorem dL_law_211 : decode cL_law 211 = .ok (.i2l, 1) := by decide +kernel
theorem dL_law_212 : decode cL_law 212 = .ok (.bipush 32, 2) := by decide +kernel
theorem dL_law_214 : decode cL_law 214 = .ok (.lshl, 1) := by decide +kernel
theorem dL_law_215 : decode cL_law 215 = .ok (.aload_n 0, 1) := by decide +kernel
theorem dL_law_216 : decode cL_law 216 = .ok (.iload 5, 2) := by decide +kernel
theorem dL_law_218 : decode cL_law 218 = .ok (.iconst 4, 1) := by decide +kernel
theorem dL_law_219 : decode cL_law 219 = .ok (.iadd, 1) := by decide +kernel
theorem dL_law_220 : decode cL_law 220 = .ok (.iaload, 1) := by decide +kernel
theorem dL_law_221 : decode cL_law 221 = .ok (.i2l, 1) := by decide +kernel
theorem dL_law_222 : decode cL_law 222 = .ok (.ldc2_w 110, 3) := by decide +kernel
theorem dL_law_225 : decode cL_law 225 = .ok (.land, 1) := by decide +kernel
theorem dL_law_226 : decode cL_law 226 = .ok (.lor, 1) := by decide +kernel
theorem dL_law_227 : decode cL_law 227 = .ok (.aload_n 3, 1) := by decide +kernel
theorem dL_law_228 : decode cL_law 228 = .ok (.invokestatic 112, 3) := by decide +kernel
theorem dL_law_231 : decode cL_law 231 = .ok (.istore 6, 2) := by decide +kernel
theorem dL_law_233 : decode cL_law 233 = .ok (.aload_n 2, 1) := by decide +kernel
theorem dL_law_234 : decode cL_law 234 = .ok (.aload_n 0, 1) := by decide +kernel
theorem dL_law_235 : decode cL_law 235 = .ok (.iload 5, 2) := by decide +kernel
theorem dL_law_237 : decode cL_law 237 = .ok (.iconst 1, 1) := by decide +kernel
theorem dL_law_238 : decode cL_law 238 = .ok (.iadd, 1) := by decide +kernel
theorem dL_law_239 : decode cL_law 239 = .ok (.iaload, 1) := by decide +kernel
theorem dL_law_240 : decode cL_law 240 = .ok (.aload_n 0, 1) := by decide +kernel
theorem dL_law_241 : decode cL_law 241 = .ok (.iload 5, 2) := by decide +kernel
theorem dL_law_243 : decode cL_law 243 = .ok (.iconst 2, 1) := by decide +kernel
theorem dL_law_244 : decode cL_law 244 = .ok (.iadd, 1) := by decide +kernel
theorem dL_law_245 : decode cL_law 245 = .ok (.iaload, 1) := by decide +kernel
theorem dL_law_246 : decode cL_law 246 = .ok (.aload_n 0, 1) := by decide +kernel
theorem dL_law_247 : decode cL_law 247 = .ok (.iload 5, 2) := by decide +kernel
theorem dL_law_249 : decode cL_law 249 = .ok (.iconst 3, 1) := by decide +kernel
theorem dL_law_250 : decode cL_law 250 = .ok (.iadd, 1) := by decide +kernel
theorem dL_law_251 : decode cL_law 251 = .ok (.iaload, 1) := by decide +kernel
theorem dL_law_252 : decode cL_law 252 = .ok (.i2l, 1) := by decide +kernel
theorem dL_law_253 : decode cL_law 253 = .ok (.bipush 32, 2) := by decide +kernel
theorem dL_law_255 : decode cL_law 255 = .ok (.lshl, 1) := by decide +kernel
theorem dL_law_256 : decode cL_law 256 = .ok (.aload_n 0, 1) := by decide +kernel
theorem dL_law_257 : decode cL_law 257 = .ok (.iload 5, 2) := by decide +kernel
theorem dL_law_259 : decode cL_law 259 = .ok (.iconst 4, 1) := by decide +kernel
theorem dL_law_260 : decode cL_law 260 = .ok (.iadd, 1) := by decide +kernel
theorem dL_law_261 : decode cL_law 261 = .ok (.iaload, 1) := by decide +kernel
theorem dL_law_262 : decode cL_law 262 = .ok (.i2l, 1) := by decide +kernel
theorem dL_law_263 : decode cL_law 263 = .ok (.ldc2_w 110, 3) := by decide +kernel
theorem dL_law_266 : decode cL_law 266 = .ok (.land, 1) := by decide +kernel
theorem dL_law_267 : decode cL_law 267 = .ok (.lor, 1) := by decide +kernel
theorem dL_law_268 : decode cL_law 268 = .ok (.invokevirtual 115, 3) := by decide +kernel
theorem dL_law_271 : decode cL_law 271 = .ok (.lstore 7, 2) := by decide +kernel
theorem dL_law_273 : decode cL_law 273 = .ok (.aload_n 2, 1) := by decide +kernel
theorem dL_law_274 : decode cL_law 274 = .ok (.invokevirtual 106, 3) := by decide +kernel
theorem dL_law_277 : decode cL_law 277 = .ok (.iload 6, 2) := by decide +kernel
theorem dL_law_279 : decode cL_law 279 = .ok (.if_icmp .eq 5, 3) := by decide +kernel
theorem dL_law_282 : decode cL_law 282 = .ok (.iconst 0, 1) := by decide +kernel
theorem dL_law_283 : decode cL_law 283 = .ok (.ireturn, 1) := by decide +kernel
theorem dL_law_284 : decode cL_law 284 = .ok (.iload 6, 2) := by decide +kernel
theorem dL_law_286 : decode cL_law 286 = .ok (.ifCond .ne 14, 3) := by decide +kernel
theorem dL_law_289 : decode cL_law 289 = .ok (.aload_n 3, 1) := by decide +kernel
theorem dL_law_290 : decode cL_law 290 = .ok (.iconst 0, 1) := by decide +kernel
theorem dL_law_291 : decode cL_law 291 = .ok (.laload, 1) := by decide +kernel
theorem dL_law_292 : decode cL_law 292 = .ok (.lload 7, 2) := by decide +kernel
theorem dL_law_294 : decode cL_law 294 = .ok (.lcmp, 1) := by decide +kernel
theorem dL_law_295 : decode cL_law 295 = .ok (.ifCond .eq 5, 3) := by decide +kernel
theorem dL_law_298 : decode cL_law 298 = .ok (.iconst 0, 1) := by decide +kernel
theorem dL_law_299 : decode cL_law 299 = .ok (.ireturn, 1) := by decide +kernel
theorem dL_law_300 : decode cL_law 300 = .ok (.goto 1478, 3) := by decide +kernel
theorem dL_law_303 : decode cL_law 303 = .ok (.aload_n 1, 1) := by decide +kernel
theorem dL_law_304 : decode cL_law 304 = .ok (.aload_n 0, 1) := by decide +kernel
theorem dL_law_305 : decode cL_law 305 = .ok (.iload 5, 2) := by decide +kernel
theorem dL_law_307 : decode cL_law 307 = .ok (.iconst 1, 1) := by decide +kernel
theorem dL_law_308 : decode cL_law 308 = .ok (.iadd, 1) := by decide +kernel
theorem dL_law_309 : decode cL_law 309 = .ok (.iaload, 1) := by decide +kernel
theorem dL_law_310 : decode cL_law 310 = .ok (.aload_n 0, 1) := by decide +kernel
theorem dL_law_311 : decode cL_law 311 = .ok (.iload 5, 2) := by decide +kernel
theorem dL_law_313 : decode cL_law 313 = .ok (.iconst 2, 1) := by decide +kernel
theorem dL_law_314 : decode cL_law 314 = .ok (.iadd, 1) := by decide +kernel
theorem dL_law_315 : decode cL_law 315 = .ok (.iaload, 1) := by decide +kernel
theorem dL_law_316 : decode cL_law 316 = .ok (.i2l, 1) := by decide +kernel
theorem dL_law_317 : decode cL_law 317 = .ok (.bipush 32, 2) := by decide +kernel
theorem dL_law_319 : decode cL_law 319 = .ok (.lshl, 1) := by decide +kernel
theorem dL_law_320 : decode cL_law 320 = .ok (.aload_n 0, 1) := by decide +kernel
theorem dL_law_321 : decode cL_law 321 = .ok (.iload 5, 2) := by decide +kernel
theorem dL_law_323 : decode cL_law 323 = .ok (.iconst 3, 1) := by decide +kernel
theorem dL_law_324 : decode cL_law 324 = .ok (.iadd, 1) := by decide +kernel
theorem dL_law_325 : decode cL_law 325 = .ok (.iaload, 1) := by decide +kernel
theorem dL_law_326 : decode cL_law 326 = .ok (.i2l, 1) := by decide +kernel
theorem dL_law_327 : decode cL_law 327 = .ok (.ldc2_w 110, 3) := by decide +kernel
theorem dL_law_330 : decode cL_law 330 = .ok (.land, 1) := by decide +kernel
theorem dL_law_331 : decode cL_law 331 = .ok (.lor, 1) := by decide +kernel
theorem dL_law_332 : decode cL_law 332 = .ok (.aload_n 3, 1) := by decide +kernel
theorem dL_law_333 : decode cL_law 333 = .ok (.invokestatic 116, 3) := by decide +kernel
theorem dL_law_336 : decode cL_law 336 = .ok (.istore 6, 2) := by decide +kernel
theorem dL_law_338 : decode cL_law 338 = .ok (.aload_n 2, 1) := by decide +kernel
theorem dL_law_339 : decode cL_law 339 = .ok (.aload_n 0, 1) := by decide +kernel
theorem dL_law_340 : decode cL_law 340 = .ok (.iload 5, 2) := by decide +kernel
theorem dL_law_342 : decode cL_law 342 = .ok (.iconst 1, 1) := by decide +kernel
theorem dL_law_343 : decode cL_law 343 = .ok (.iadd, 1) := by decide +kernel
theorem dL_law_344 : decode cL_law 344 = .ok (.iaload, 1) := by decide +kernel
theorem dL_law_345 : decode cL_law 345 = .ok (.aload_n 0, 1) := by decide +kernel
theorem dL_law_346 : decode cL_law 346 = .ok (.iload 5, 2) := by decide +kernel
theorem dL_law_348 : decode cL_law 348 = .ok (.iconst 2, 1) := by decide +kernel
theorem dL_law_349 : decode cL_law 349 = .ok (.iadd, 1) := by decide +kernel
theorem dL_law_350 : decode cL_law 350 = .ok (.iaload, 1) := by decide +kernel
theorem dL_law_351 : decode cL_law 351 = .ok (.i2l, 1) := by decide +kernel
theorem dL_law_352 : decode cL_law 352 = .ok (.bipush 32, 2) := by decide +kernel
theorem dL_law_354 : decode cL_law 354 = .ok (.lshl, 1) := by decide +kernel
theorem dL_law_355 : decode cL_law 355 = .ok (.aload_n 0, 1) := by decide +kernel
theorem dL_law_356 : decode cL_law 356 = .ok (.iload 5, 2) := by decide +kernel
theorem dL_law_358 : decode cL_law 358 = .ok (.iconst 3, 1) := by decide +kernel
theorem dL_law_359 : decode cL_law 359 = .ok (.iadd, 1) := by decide +kernel
theorem dL_law_360 : decode cL_law 360 = .ok (.iaload, 1) := by decide +kernel
theorem dL_law_361 : decode cL_law 361 = .ok (.i2l, 1) := by decide +kernel
theorem dL_law_362 : decode cL_law 362 = .ok (.ldc2_w 110, 3) := by decide +kernel
theorem dL_law_365 : decode cL_law 365 = .ok (.land, 1) := by decide +kernel
theorem dL_law_366 : decode cL_law 366 = .ok (.lor, 1) := by decide +kernel
theorem dL_law_367 : decode cL_law 367 = .ok (.invokevirtual 119, 3) := by decide +kernel
theorem dL_law_370 : decode cL_law 370 = .ok (.istore 7, 2) := by decide +kernel
theorem dL_law_372 : decode cL_law 372 = .ok (.aload_n 2, 1) := by decide +kernel
theorem dL_law_373 : decode cL_law 373 = .ok (.invokevirtual 106, 3) := by decide +kernel
theorem dL_law_376 : decode cL_law 376 = .ok (.iload 6, 2) := by decide +kernel
theorem dL_law_378 : decode cL_law 378 = .ok (.if_icmp .eq 5, 3) := by decide +kernel
theorem dL_law_381 : decode cL_law 381 = .ok (.iconst 0, 1) := by decide +kernel
theorem dL_law_382 : decode cL_law 382 = .ok (.ireturn, 1) := by decide +kernel
theorem dL_law_383 : decode cL_law 383 = .ok (.iload 6, 2) := by decide +kernel
theorem dL_law_385 : decode cL_law 385 = .ok (.ifCond .ne 15, 3) := by decide +kernel
theorem dL_law_388 : decode cL_law 388 = .ok (.aload_n 3, 1) := by decide +kernel
theorem dL_law_389 : decode cL_law 389 = .ok (.iconst 0, 1) := by decide +kernel
theorem dL_law_390 : decode cL_law 390 = .ok (.laload, 1) := by decide +kernel
theorem dL_law_391 : decode cL_law 391 = .ok (.iload 7, 2) := by decide +kernel
theorem dL_law_393 : decode cL_law 393 = .ok (.i2l, 1) := by decide +kernel
theorem dL_law_394 : decode cL_law 394 = .ok (.lcmp, 1) := by decide +kernel
theorem dL_law_395 : decode cL_law 395 = .ok (.ifCond .eq 5, 3) := by decide +kernel
theorem dL_law_398 : decode cL_law 398 = .ok (.iconst 0, 1) := by decide +kernel
theorem dL_law_399 : decode cL_law 399 = .ok (.ireturn, 1) := by decide +kernel
theorem dL_law_400 : decode cL_law 400 = .ok (.goto 1378, 3) := by decide +kernel
theorem dL_law_403 : decode cL_law 403 = .ok (.aload_n 1, 1) := by decide +kernel
theorem dL_law_404 : decode cL_law 404 = .ok (.aload_n 0, 1) := by decide +kernel
theorem dL_law_405 : decode cL_law 405 = .ok (.iload 5, 2) := by decide +kernel
theorem dL_law_407 : decode cL_law 407 = .ok (.iconst 1, 1) := by decide +kernel
theorem dL_law_408 : decode cL_law 408 = .ok (.iadd, 1) := by decide +kernel
theorem dL_law_409 : decode cL_law 409 = .ok (.iaload, 1) := by decide +kernel
theorem dL_law_410 : decode cL_law 410 = .ok (.aload_n 0, 1) := by decide +kernel
theorem dL_law_411 : decode cL_law 411 = .ok (.iload 5, 2) := by decide +kernel
theorem dL_law_413 : decode cL_law 413 = .ok (.iconst 2, 1) := by decide +kernel
theorem dL_law_414 : decode cL_law 414 = .ok (.iadd, 1) := by decide +kernel
theorem dL_law_415 : decode cL_law 415 = .ok (.iaload, 1) := by decide +kernel
theorem dL_law_416 : decode cL_law 416 = .ok (.aload_n 0, 1) := by decide +kernel
theorem dL_law_417 : decode cL_law 417 = .ok (.iload 5, 2) := by decide +kernel
theorem dL_law_419 : decode cL_law 419 = .ok (.iconst 3, 1) := by decide +kernel
theorem dL_law_420 : decode cL_law 420 = .ok (.iadd, 1) := by decide +kernel
theorem dL_law_421 : decode cL_law 421 = .ok (.iaload, 1) := by decide +kernel
theorem dL_law_422 : decode cL_law 422 = .ok (.i2l, 1) := by decide +kernel
theorem dL_law_423 : decode cL_law 423 = .ok (.bipush 32, 2) := by decide +kernel
theorem dL_law_425 : decode cL_law 425 = .ok (.lshl, 1) := by decide +kernel
theorem dL_law_426 : decode cL_law 426 = .ok (.aload_n 0, 1) := by decide +kernel
theorem dL_law_427 : decode cL_law 427 = .ok (.iload 5, 2) := by decide +kernel
theorem dL_law_429 : decode cL_law 429 = .ok (.iconst 4, 1) := by decide +kernel
theorem dL_law_430 : decode cL_law 430 = .ok (.iadd, 1) := by decide +kernel
theorem dL_law_431 : decode cL_law 431 = .ok (.iaload, 1) := by decide +kernel
theorem dL_law_432 : decode cL_law 432 = .ok (.i2l, 1) := by decide +kernel
theorem dL_law_433 : decode cL_law 433 = .ok (.ldc2_w 110, 3) := by decide +kernel
theorem dL_law_436 : decode cL_law 436 = .ok (.land, 1) := by decide +kernel
theorem dL_law_437 : decode cL_law 437 = .ok (.lor, 1) := by decide +kernel
theorem dL_law_438 : decode cL_law 438 = .ok (.aload_n 0, 1) := by decide +kernel
theorem dL_law_439 : decode cL_law 439 = .ok (.iload 5, 2) := by decide +kernel
theorem dL_law_441 : decode cL_law 441 = .ok (.iconst 5, 1) := by decide +kernel
theorem dL_law_442 : decode cL_law 442 = .ok (.iadd, 1) := by decide +kernel
theorem dL_law_443 : decode cL_law 443 = .ok (.iaload, 1) := by decide +kernel
theorem dL_law_444 : decode cL_law 444 = .ok (.aload_n 0, 1) := by decide +kernel
theorem dL_law_445 : decode cL_law 445 = .ok (.iload 5, 2) := by decide +kernel
theorem dL_law_447 : decode cL_law 447 = .ok (.bipush 6, 2) := by decide +kernel
theorem dL_law_449 : decode cL_law 449 = .ok (.iadd, 1) := by decide +kernel
theorem dL_law_450 : decode cL_law 450 = .ok (.iaload, 1) := by decide +kernel
theorem dL_law_451 : decode cL_law 451 = .ok (.i2l, 1) := by decide +kernel
theorem dL_law_452 : decode cL_law 452 = .ok (.bipush 32, 2) := by decide +kernel
theorem dL_law_454 : decode cL_law 454 = .ok (.lshl, 1) := by decide +kernel
theorem dL_law_455 : decode cL_law 455 = .ok (.aload_n 0, 1) := by decide +kernel
theorem dL_law_456 : decode cL_law 456 = .ok (.iload 5, 2) := by decide +kernel
theorem dL_law_458 : decode cL_law 458 = .ok (.bipush 7, 2) := by decide +kernel
theorem dL_law_460 : decode cL_law 460 = .ok (.iadd, 1) := by decide +kernel
theorem dL_law_461 : decode cL_law 461 = .ok (.iaload, 1) := by decide +kernel
theorem dL_law_462 : decode cL_law 462 = .ok (.i2l, 1) := by decide +kernel
theorem dL_law_463 : decode cL_law 463 = .ok (.ldc2_w 110, 3) := by decide +kernel
theorem dL_law_466 : decode cL_law 466 = .ok (.land, 1) := by decide +kernel
theorem dL_law_467 : decode cL_law 467 = .ok (.lor, 1) := by decide +kernel
theorem dL_law_468 : decode cL_law 468 = .ok (.invokestatic 120, 3) := by decide +kernel
theorem dL_law_471 : decode cL_law 471 = .ok (.istore 6, 2) := by decide +kernel
theorem dL_law_473 : decode cL_law 473 = .ok (.aload_n 2, 1) := by decide +kernel
theorem dL_law_474 : decode cL_law 474 = .ok (.aload_n 0, 1) := by decide +kernel
theorem dL_law_475 : decode cL_law 475 = .ok (.iload 5, 2) := by decide +kernel
theorem dL_law_477 : decode cL_law 477 = .ok (.iconst 1, 1) := by decide +kernel
theorem dL_law_478 : decode cL_law 478 = .ok (.iadd, 1) := by decide +kernel
theorem dL_law_479 : decode cL_law 479 = .ok (.iaload, 1) := by decide +kernel
theorem dL_law_480 : decode cL_law 480 = .ok (.aload_n 0, 1) := by decide +kernel
theorem dL_law_481 : decode cL_law 481 = .ok (.iload 5, 2) := by decide +kernel
theorem dL_law_483 : decode cL_law 483 = .ok (.iconst 2, 1) := by decide +kernel
theorem dL_law_484 : decode cL_law 484 = .ok (.iadd, 1) := by decide +kernel
theorem dL_law_485 : decode cL_law 485 = .ok (.iaload, 1) := by decide +kernel
theorem dL_law_486 : decode cL_law 486 = .ok (.aload_n 0, 1) := by decide +kernel
theorem dL_law_487 : decode cL_law 487 = .ok (.iload 5, 2) := by decide +kernel
theorem dL_law_489 : decode cL_law 489 = .ok (.iconst 3, 1) := by decide +kernel
theorem dL_law_490 : decode cL_law 490 = .ok (.iadd, 1) := by decide +kernel
theorem dL_law_491 : decode cL_law 491 = .ok (.iaload, 1) := by decide +kernel
theorem dL_law_492 : decode cL_law 492 = .ok (.i2l, 1) := by decide +kernel
theorem dL_law_493 : decode cL_law 493 = .ok (.bipush 32, 2) := by decide +kernel
theorem dL_law_495 : decode cL_law 495 = .ok (.lshl, 1) := by decide +kernel
theorem dL_law_496 : decode cL_law 496 = .ok (.aload_n 0, 1) := by decide +kernel
theorem dL_law_497 : decode cL_law 497 = .ok (.iload 5, 2) := by decide +kernel
theorem dL_law_499 : decode cL_law 499 = .ok (.iconst 4, 1) := by decide +kernel
theorem dL_law_500 : decode cL_law 500 = .ok (.iadd, 1) := by decide +kernel
theorem dL_law_501 : decode cL_law 501 = .ok (.iaload, 1) := by decide +kernel
theorem dL_law_502 : decode cL_law 502 = .ok (.i2l, 1) := by decide +kernel
theorem dL_law_503 : decode cL_law 503 = .ok (.ldc2_w 110, 3) := by decide +kernel
theorem dL_law_506 : decode cL_law 506 = .ok (.land, 1) := by decide +kernel
theorem dL_law_507 : decode cL_law 507 = .ok (.lor, 1) := by decide +kernel
theorem dL_law_508 : decode cL_law 508 = .ok (.aload_n 0, 1) := by decide +kernel
theorem dL_law_509 : decode cL_law 509 = .ok (.iload 5, 2) := by decide +kernel
theorem dL_law_511 : decode cL_law 511 = .ok (.iconst 5, 1) := by decide +kernel
theorem dL_law_512 : decode cL_law 512 = .ok (.iadd, 1) := by decide +kernel
theorem dL_law_513 : decode cL_law 513 = .ok (.iaload, 1) := by decide +kernel
theorem dL_law_514 : decode cL_law 514 = .ok (.aload_n 0, 1) := by decide +kernel
theorem dL_law_515 : decode cL_law 515 = .ok (.iload 5, 2) := by decide +kernel
theorem dL_law_517 : decode cL_law 517 = .ok (.bipush 6, 2) := by decide +kernel
theorem dL_law_519 : decode cL_law 519 = .ok (.iadd, 1) := by decide +kernel
theorem dL_law_520 : decode cL_law 520 = .ok (.iaload, 1) := by decide +kernel
theorem dL_law_521 : decode cL_law 521 = .ok (.i2l, 1) := by decide +kernel
theorem dL_law_522 : decode cL_law 522 = .ok (.bipush 32, 2) := by decide +kernel
theorem dL_law_524 : decode cL_law 524 = .ok (.lshl, 1) := by decide +kernel
theorem dL_law_525 : decode cL_law 525 = .ok (.aload_n 0, 1) := by decide +kernel
theorem dL_law_526 : decode cL_law 526 = .ok (.iload 5, 2) := by decide +kernel
theorem dL_law_528 : decode cL_law 528 = .ok (.bipush 7, 2) := by decide +kernel
theorem dL_law_530 : decode cL_law 530 = .ok (.iadd, 1) := by decide +kernel
theorem dL_law_531 : decode cL_law 531 = .ok (.iaload, 1) := by decide +kernel
theorem dL_law_532 : decode cL_law 532 = .ok (.i2l, 1) := by decide +kernel
theorem dL_law_533 : decode cL_law 533 = .ok (.ldc2_w 110, 3) := by decide +kernel
theorem dL_law_536 : decode cL_law 536 = .ok (.land, 1) := by decide +kernel
theorem dL_law_537 : decode cL_law 537 = .ok (.lor, 1) := by decide +kernel
theorem dL_law_538 : decode cL_law 538 = .ok (.invokevirtual 123, 3) := by decide +kernel
theorem dL_law_541 : decode cL_law 541 = .ok (.aload_n 2, 1) := by decide +kernel
theorem dL_law_542 : decode cL_law 542 = .ok (.invokevirtual 106, 3) := by decide +kernel
theorem dL_law_545 : decode cL_law 545 = .ok (.iload 6, 2) := by decide +kernel
theorem dL_law_547 : decode cL_law 547 = .ok (.if_icmp .eq 5, 3) := by decide +kernel
theorem dL_law_550 : decode cL_law 550 = .ok (.iconst 0, 1) := by decide +kernel
theorem dL_law_551 : decode cL_law 551 = .ok (.ireturn, 1) := by decide +kernel
theorem dL_law_552 : decode cL_law 552 = .ok (.goto 1226, 3) := by decide +kernel
theorem dL_law_555 : decode cL_law 555 = .ok (.aload_n 1, 1) := by decide +kernel
theorem dL_law_556 : decode cL_law 556 = .ok (.aload_n 0, 1) := by decide +kernel
theorem dL_law_557 : decode cL_law 557 = .ok (.iload 5, 2) := by decide +kernel
theorem dL_law_559 : decode cL_law 559 = .ok (.iconst 1, 1) := by decide +kernel
theorem dL_law_560 : decode cL_law 560 = .ok (.iadd, 1) := by decide +kernel
theorem dL_law_561 : decode cL_law 561 = .ok (.iaload, 1) := by decide +kernel
theorem dL_law_562 : decode cL_law 562 = .ok (.aload_n 0, 1) := by decide +kernel
theorem dL_law_563 : decode cL_law 563 = .ok (.iload 5, 2) := by decide +kernel
theorem dL_law_565 : decode cL_law 565 = .ok (.iconst 2, 1) := by decide +kernel
theorem dL_law_566 : decode cL_law 566 = .ok (.iadd, 1) := by decide +kernel
theorem dL_law_567 : decode cL_law 567 = .ok (.iaload, 1) := by decide +kernel
theorem dL_law_568 : decode cL_law 568 = .ok (.aload_n 3, 1) := by decide +kernel
theorem dL_law_569 : decode cL_law 569 = .ok (.invokestatic 124, 3) := by decide +kernel
theorem dL_law_572 : decode cL_law 572 = .ok (.istore 6, 2) := by decide +kernel
theorem dL_law_574 : decode cL_law 574 = .ok (.aload_n 2, 1) := by decide +kernel
theorem dL_law_575 : decode cL_law 575 = .ok (.aload_n 0, 1) := by decide +kernel
theorem dL_law_576 : decode cL_law 576 = .ok (.iload 5, 2) := by decide +kernel
theorem dL_law_578 : decode cL_law 578 = .ok (.iconst 1, 1) := by decide +kernel
theorem dL_law_579 : decode cL_law 579 = .ok (.iadd, 1) := by decide +kernel
theorem dL_law_580 : decode cL_law 580 = .ok (.iaload, 1) := by decide +kernel
theorem dL_law_581 : decode cL_law 581 = .ok (.aload_n 0, 1) := by decide +kernel
theorem dL_law_582 : decode cL_law 582 = .ok (.iload 5, 2) := by decide +kernel
theorem dL_law_584 : decode cL_law 584 = .ok (.iconst 2, 1) := by decide +kernel
theorem dL_law_585 : decode cL_law 585 = .ok (.iadd, 1) := by decide +kernel
theorem dL_law_586 : decode cL_law 586 = .ok (.iaload, 1) := by decide +kernel
theorem dL_law_587 : decode cL_law 587 = .ok (.invokevirtual 127, 3) := by decide +kernel
theorem dL_law_590 : decode cL_law 590 = .ok (.istore 7, 2) := by decide +kernel
theorem dL_law_592 : decode cL_law 592 = .ok (.aload_n 2, 1) := by decide +kernel
theorem dL_law_593 : decode cL_law 593 = .ok (.invokevirtual 106, 3) := by decide +kernel
theorem dL_law_596 : decode cL_law 596 = .ok (.iload 6, 2) := by decide +kernel
theorem dL_law_598 : decode cL_law 598 = .ok (.if_icmp .eq 5, 3) := by decide +kernel
theorem dL_law_601 : decode cL_law 601 = .ok (.iconst 0, 1) := by decide +kernel
theorem dL_law_602 : decode cL_law 602 = .ok (.ireturn, 1) := by decide +kernel
theorem dL_law_603 : decode cL_law 603 = .ok (.iload 6, 2) := by decide +kernel
theorem dL_law_605 : decode cL_law 605 = .ok (.ifCond .ne 15, 3) := by decide +kernel
theorem dL_law_608 : decode cL_law 608 = .ok (.aload_n 3, 1) := by decide +kernel
theorem dL_law_609 : decode cL_law 609 = .ok (.iconst 0, 1) := by decide +kernel
theorem dL_law_610 : decode cL_law 610 = .ok (.laload, 1) := by decide +kernel
theorem dL_law_611 : decode cL_law 611 = .ok (.iload 7, 2) := by decide +kernel
theorem dL_law_613 : decode cL_law 613 = .ok (.i2l, 1) := by decide +kernel
theorem dL_law_614 : decode cL_law 614 = .ok (.lcmp, 1) := by decide +kernel
theorem dL_law_615 : decode cL_law 615 = .ok (.ifCond .eq 5, 3) := by decide +kernel
theorem dL_law_618 : decode cL_law 618 = .ok (.iconst 0, 1) := by decide +kernel
theorem dL_law_619 : decode cL_law 619 = .ok (.ireturn, 1) := by decide +kernel
theorem dL_law_620 : decode cL_law 620 = .ok (.goto 1158, 3) := by decide +kernel
theorem dL_law_623 : decode cL_law 623 = .ok (.aload_n 1, 1) := by decide +kernel
theorem dL_law_624 : decode cL_law 624 = .ok (.aload_n 0, 1) := by decide +kernel
theorem dL_law_625 : decode cL_law 625 = .ok (.iload 5, 2) := by decide +kernel
theorem dL_law_627 : decode cL_law 627 = .ok (.iconst 1, 1) := by decide +kernel
theorem dL_law_628 : decode cL_law 628 = .ok (.iadd, 1) := by decide +kernel
theorem dL_law_629 : decode cL_law 629 = .ok (.iaload, 1) := by decide +kernel
theorem dL_law_630 : decode cL_law 630 = .ok (.aload_n 0, 1) := by decide +kernel
theorem dL_law_631 : decode cL_law 631 = .ok (.iload 5, 2) := by decide +kernel
theorem dL_law_633 : decode cL_law 633 = .ok (.iconst 2, 1) := by decide +kernel
theorem dL_law_634 : decode cL_law 634 = .ok (.iadd, 1) := by decide +kernel
theorem dL_law_635 : decode cL_law 635 = .ok (.iaload, 1) := by decide +kernel
theorem dL_law_636 : decode cL_law 636 = .ok (.aload_n 0, 1) := by decide +kernel
theorem dL_law_637 : decode cL_law 637 = .ok (.iload 5, 2) := by decide +kernel
theorem dL_law_639 : decode cL_law 639 = .ok (.iconst 3, 1) := by decide +kernel
theorem dL_law_640 : decode cL_law 640 = .ok (.iadd, 1) := by decide +kernel
theorem dL_law_641 : decode cL_law 641 = .ok (.iaload, 1) := by decide +kernel
theorem dL_law_642 : decode cL_law 642 = .ok (.i2l, 1) := by decide +kernel
theorem dL_law_643 : decode cL_law 643 = .ok (.bipush 32, 2) := by decide +kernel
theorem dL_law_645 : decode cL_law 645 = .ok (.lshl, 1) := by decide +kernel
theorem dL_law_646 : decode cL_law 646 = .ok (.aload_n 0, 1) := by decide +kernel
theorem dL_law_647 : decode cL_law 647 = .ok (.iload 5, 2) := by decide +kernel
theorem dL_law_649 : decode cL_law 649 = .ok (.iconst 4, 1) := by decide +kernel
theorem dL_law_650 : decode cL_law 650 = .ok (.iadd, 1) := by decide +kernel
theorem dL_law_651 : decode cL_law 651 = .ok (.iaload, 1) := by decide +kernel
theorem dL_law_652 : decode cL_law 652 = .ok (.i2l, 1) := by decide +kernel
theorem dL_law_653 : decode cL_law 653 = .ok (.ldc2_w 110, 3) := by decide +kernel
theorem dL_law_656 : decode cL_law 656 = .ok (.land, 1) := by decide +kernel
theorem dL_law_657 : decode cL_law 657 = .ok (.lor, 1) := by decide +kernel
theorem dL_law_658 : decode cL_law 658 = .ok (.invokestatic 128, 3) := by decide +kernel
theorem dL_law_661 : decode cL_law 661 = .ok (.istore 6, 2) := by decide +kernel
theorem dL_law_663 : decode cL_law 663 = .ok (.aload_n 2, 1) := by decide +kernel
theorem dL_law_664 : decode cL_law 664 = .ok (.aload_n 0, 1) := by decide +kernel
theorem dL_law_665 : decode cL_law 665 = .ok (.iload 5, 2) := by decide +kernel
theorem dL_law_667 : decode cL_law 667 = .ok (.iconst 1, 1) := by decide +kernel
theorem dL_law_668 : decode cL_law 668 = .ok (.iadd, 1) := by decide +kernel
theorem dL_law_669 : decode cL_law 669 = .ok (.iaload, 1) := by decide +kernel
theorem dL_law_670 : decode cL_law 670 = .ok (.aload_n 0, 1) := by decide +kernel
theorem dL_law_671 : decode cL_law 671 = .ok (.iload 5, 2) := by decide +kernel
theorem dL_law_673 : decode cL_law 673 = .ok (.iconst 2, 1) := by decide +kernel
theorem dL_law_674 : decode cL_law 674 = .ok (.iadd, 1) := by decide +kernel
theorem dL_law_675 : decode cL_law 675 = .ok (.iaload, 1) := by decide +kernel
theorem dL_law_676 : decode cL_law 676 = .ok (.aload_n 0, 1) := by decide +kernel
theorem dL_law_677 : decode cL_law 677 = .ok (.iload 5, 2) := by decide +kernel
theorem dL_law_679 : decode cL_law 679 = .ok (.iconst 3, 1) := by decide +kernel
theorem dL_law_680 : decode cL_law 680 = .ok (.iadd, 1) := by decide +kernel
theorem dL_law_681 : decode cL_law 681 = .ok (.iaload, 1) := by decide +kernel
theorem dL_law_682 : decode cL_law 682 = .ok (.i2l, 1) := by decide +kernel
theorem dL_law_683 : decode cL_law 683 = .ok (.bipush 32, 2) := by decide +kernel
theorem dL_law_685 : decode cL_law 685 = .ok (.lshl, 1) := by decide +kernel
theorem dL_law_686 : decode cL_law 686 = .ok (.aload_n 0, 1) := by decide +kernel
theorem dL_law_687 : decode cL_law 687 = .ok (.iload 5, 2) := by decide +kernel
theorem dL_law_689 : decode cL_law 689 = .ok (.iconst 4, 1) := by decide +kernel
theorem dL_law_690 : decode cL_law 690 = .ok (.iadd, 1) := by decide +kernel
theorem dL_law_691 : decode cL_law 691 = .ok (.iaload, 1) := by decide +kernel
theorem dL_law_692 : decode cL_law 692 = .ok (.i2l, 1) := by decide +kernel
theorem dL_law_693 : decode cL_law 693 = .ok (.ldc2_w 110, 3) := by decide +kernel
theorem dL_law_696 : decode cL_law 696 = .ok (.land, 1) := by decide +kernel
theorem dL_law_697 : decode cL_law 697 = .ok (.lor, 1) := by decide +kernel
theorem dL_law_698 : decode cL_law 698 = .ok (.invokevirtual 131, 3) := by decide +kernel
theorem dL_law_701 : decode cL_law 701 = .ok (.aload_n 2, 1) := by decide +kernel
theorem dL_law_702 : decode cL_law 702 = .ok (.invokevirtual 106, 3) := by decide +kernel
theorem dL_law_705 : decode cL_law 705 = .ok (.iload 6, 2) := by decide +kernel
theorem dL_law_707 : decode cL_law 707 = .ok (.if_icmp .eq 5, 3) := by decide +kernel
theorem dL_law_710 : decode cL_law 710 = .ok (.iconst 0, 1) := by decide +kernel
theorem dL_law_711 : decode cL_law 711 = .ok (.ireturn, 1) := by decide +kernel
theorem dL_law_712 : decode cL_law 712 = .ok (.goto 1066, 3) := by decide +kernel
theorem dL_law_715 : decode cL_law 715 = .ok (.aload_n 1, 1) := by decide +kernel
theorem dL_law_716 : decode cL_law 716 = .ok (.aload_n 0, 1) := by decide +kernel
theorem dL_law_717 : decode cL_law 717 = .ok (.iload 5, 2) := by decide +kernel
theorem dL_law_719 : decode cL_law 719 = .ok (.iconst 1, 1) := by decide +kernel
theorem dL_law_720 : decode cL_law 720 = .ok (.iadd, 1) := by decide +kernel
theorem dL_law_721 : decode cL_law 721 = .ok (.iaload, 1) := by decide +kernel
theorem dL_law_722 : decode cL_law 722 = .ok (.invokestatic 132, 3) := by decide +kernel
theorem dL_law_725 : decode cL_law 725 = .ok (.istore 6, 2) := by decide +kernel
theorem dL_law_727 : decode cL_law 727 = .ok (.aload_n 2, 1) := by decide +kernel
theorem dL_law_728 : decode cL_law 728 = .ok (.aload_n 0, 1) := by decide +kernel
theorem dL_law_729 : decode cL_law 729 = .ok (.iload 5, 2) := by decide +kernel
theorem dL_law_731 : decode cL_law 731 = .ok (.iconst 1, 1) := by decide +kernel
theorem dL_law_732 : decode cL_law 732 = .ok (.iadd, 1) := by decide +kernel
theorem dL_law_733 : decode cL_law 733 = .ok (.iaload, 1) := by decide +kernel
theorem dL_law_734 : decode cL_law 734 = .ok (.invokevirtual 134, 3) := by decide +kernel
theorem dL_law_737 : decode cL_law 737 = .ok (.aload_n 2, 1) := by decide +kernel
theorem dL_law_738 : decode cL_law 738 = .ok (.invokevirtual 106, 3) := by decide +kernel
theorem dL_law_741 : decode cL_law 741 = .ok (.iload 6, 2) := by decide +kernel
theorem dL_law_743 : decode cL_law 743 = .ok (.if_icmp .eq 5, 3) := by decide +kernel
theorem dL_law_746 : decode cL_law 746 = .ok (.iconst 0, 1) := by decide +kernel
theorem dL_law_747 : decode cL_law 747 = .ok (.ireturn, 1) := by decide +kernel
theorem dL_law_748 : decode cL_law 748 = .ok (.goto 1030, 3) := by decide +kernel
theorem dL_law_751 : decode cL_law 751 = .ok (.aload_n 1, 1) := by decide +kernel
theorem dL_law_752 : decode cL_law 752 = .ok (.aload_n 0, 1) := by decide +kernel
theorem dL_law_753 : decode cL_law 753 = .ok (.iload 5, 2) := by decide +kernel
theorem dL_law_755 : decode cL_law 755 = .ok (.iconst 1, 1) := by decide +kernel
theorem dL_law_756 : decode cL_law 756 = .ok (.iadd, 1) := by decide +kernel
theorem dL_law_757 : decode cL_law 757 = .ok (.iaload, 1) := by decide +kernel
theorem dL_law_758 : decode cL_law 758 = .ok (.aload_n 0, 1) := by decide +kernel
theorem dL_law_759 : decode cL_law 759 = .ok (.iload 5, 2) := by decide +kernel
theorem dL_law_761 : decode cL_law 761 = .ok (.iconst 2, 1) := by decide +kernel
theorem dL_law_762 : decode cL_law 762 = .ok (.iadd, 1) := by decide +kernel
theorem dL_law_763 : decode cL_law 763 = .ok (.iaload, 1) := by decide +kernel
theorem dL_law_764 : decode cL_law 764 = .ok (.aload_n 3, 1) := by decide +kernel
theorem dL_law_765 : decode cL_law 765 = .ok (.invokestatic 135, 3) := by decide +kernel
theorem dL_law_768 : decode cL_law 768 = .ok (.istore 6, 2) := by decide +kernel
theorem dL_law_770 : decode cL_law 770 = .ok (.aload_n 2, 1) := by decide +kernel
theorem dL_law_771 : decode cL_law 771 = .ok (.aload_n 0, 1) := by decide +kernel
theorem dL_law_772 : decode cL_law 772 = .ok (.iload 5, 2) := by decide +kernel
theorem dL_law_774 : decode cL_law 774 = .ok (.iconst 1, 1) := by decide +kernel
theorem dL_law_775 : decode cL_law 775 = .ok (.iadd, 1) := by decide +kernel
theorem dL_law_776 : decode cL_law 776 = .ok (.iaload, 1) := by decide +kernel
theorem dL_law_777 : decode cL_law 777 = .ok (.aload_n 0, 1) := by decide +kernel
theorem dL_law_778 : decode cL_law 778 = .ok (.iload 5, 2) := by decide +kernel
theorem dL_law_780 : decode cL_law 780 = .ok (.iconst 2, 1) := by decide +kernel
theorem dL_law_781 : decode cL_law 781 = .ok (.iadd, 1) := by decide +kernel
theorem dL_law_782 : decode cL_law 782 = .ok (.iaload, 1) := by decide +kernel
theorem dL_law_783 : decode cL_law 783 = .ok (.invokevirtual 137, 3) := by decide +kernel
theorem dL_law_786 : decode cL_law 786 = .ok (.lstore 7, 2) := by decide +kernel
theorem dL_law_788 : decode cL_law 788 = .ok (.aload_n 2, 1) := by decide +kernel
theorem dL_law_789 : decode cL_law 789 = .ok (.invokevirtual 106, 3) := by decide +kernel
theorem dL_law_792 : decode cL_law 792 = .ok (.iload 6, 2) := by decide +kernel
theorem dL_law_794 : decode cL_law 794 = .ok (.if_icmp .eq 5, 3) := by decide +kernel
theorem dL_law_797 : decode cL_law 797 = .ok (.iconst 0, 1) := by decide +kernel
theorem dL_law_798 : decode cL_law 798 = .ok (.ireturn, 1) := by decide +kernel
theorem dL_law_799 : decode cL_law 799 = .ok (.iload 6, 2) := by decide +kernel
theorem dL_law_801 : decode cL_law 801 = .ok (.ifCond .ne 14, 3) := by decide +kernel
theorem dL_law_804 : decode cL_law 804 = .ok (.aload_n 3, 1) := by decide +kernel
theorem dL_law_805 : decode cL_law 805 = .ok (.iconst 0, 1) := by decide +kernel
theorem dL_law_806 : decode cL_law 806 = .ok (.laload, 1) := by decide +kernel
theorem dL_law_807 : decode cL_law 807 = .ok (.lload 7, 2) := by decide +kernel
theorem dL_law_809 : decode cL_law 809 = .ok (.lcmp, 1) := by decide +kernel
theorem dL_law_810 : decode cL_law 810 = .ok (.ifCond .eq 5, 3) := by decide +kernel
theorem dL_law_813 : decode cL_law 813 = .ok (.iconst 0, 1) := by decide +kernel
theorem dL_law_814 : decode cL_law 814 = .ok (.ireturn, 1) := by decide +kernel
theorem dL_law_815 : decode cL_law 815 = .ok (.goto 963, 3) := by decide +kernel
theorem dL_law_818 : decode cL_law 818 = .ok (.aload_n 1, 1) := by decide +kernel
theorem dL_law_819 : decode cL_law 819 = .ok (.aload_n 0, 1) := by decide +kernel
theorem dL_law_820 : decode cL_law 820 = .ok (.iload 5, 2) := by decide +kernel
theorem dL_law_822 : decode cL_law 822 = .ok (.iconst 1, 1) := by decide +kernel
theorem dL_law_823 : decode cL_law 823 = .ok (.iadd, 1) := by decide +kernel
theorem dL_law_824 : decode cL_law 824 = .ok (.iaload, 1) := by decide +kernel
theorem dL_law_825 : decode cL_law 825 = .ok (.aload_n 0, 1) := by decide +kernel
theorem dL_law_826 : decode cL_law 826 = .ok (.iload 5, 2) := by decide +kernel
theorem dL_law_828 : decode cL_law 828 = .ok (.iconst 2, 1) := by decide +kernel
theorem dL_law_829 : decode cL_law 829 = .ok (.iadd, 1) := by decide +kernel
theorem dL_law_830 : decode cL_law 830 = .ok (.iaload, 1) := by decide +kernel
theorem dL_law_831 : decode cL_law 831 = .ok (.aload_n 3, 1) := by decide +kernel
theorem dL_law_832 : decode cL_law 832 = .ok (.invokestatic 138, 3) := by decide +kernel
theorem dL_law_835 : decode cL_law 835 = .ok (.istore 6, 2) := by decide +kernel
theorem dL_law_837 : decode cL_law 837 = .ok (.aload_n 2, 1) := by decide +kernel
theorem dL_law_838 : decode cL_law 838 = .ok (.aload_n 0, 1) := by decide +kernel
theorem dL_law_839 : decode cL_law 839 = .ok (.iload 5, 2) := by decide +kernel
theorem dL_law_841 : decode cL_law 841 = .ok (.iconst 1, 1) := by decide +kernel
theorem dL_law_842 : decode cL_law 842 = .ok (.iadd, 1) := by decide +kernel
theorem dL_law_843 : decode cL_law 843 = .ok (.iaload, 1) := by decide +kernel
theorem dL_law_844 : decode cL_law 844 = .ok (.aload_n 0, 1) := by decide +kernel
theorem dL_law_845 : decode cL_law 845 = .ok (.iload 5, 2) := by decide +kernel
theorem dL_law_847 : decode cL_law 847 = .ok (.iconst 2, 1) := by decide +kernel
theorem dL_law_848 : decode cL_law 848 = .ok (.iadd, 1) := by decide +kernel
theorem dL_law_849 : decode cL_law 849 = .ok (.iaload, 1) := by decide +kernel
theorem dL_law_850 : decode cL_law 850 = .ok (.invokevirtual 140, 3) := by decide +kernel
theorem dL_law_853 : decode cL_law 853 = .ok (.lstore 7, 2) := by decide +kernel
theorem dL_law_855 : decode cL_law 855 = .ok (.aload_n 2, 1) := by decide +kernel
theorem dL_law_856 : decode cL_law 856 = .ok (.invokevirtual 106, 3) := by decide +kernel
theorem dL_law_859 : decode cL_law 859 = .ok (.iload 6, 2) := by decide +kernel
theorem dL_law_861 : decode cL_law 861 = .ok (.if_icmp .eq 5, 3) := by decide +kernel
theorem dL_law_864 : decode cL_law 864 = .ok (.iconst 0, 1) := by decide +kernel
theorem dL_law_865 : decode cL_law 865 = .ok (.ireturn, 1) := by decide +kernel
theorem dL_law_866 : decode cL_law 866 = .ok (.iload 6, 2) := by decide +kernel
theorem dL_law_868 : decode cL_law 868 = .ok (.ifCond .ne 14, 3) := by decide +kernel
theorem dL_law_871 : decode cL_law 871 = .ok (.aload_n 3, 1) := by decide +kernel
theorem dL_law_872 : decode cL_law 872 = .ok (.iconst 0, 1) := by decide +kernel
theorem dL_law_873 : decode cL_law 873 = .ok (.laload, 1) := by decide +kernel
theorem dL_law_874 : decode cL_law 874 = .ok (.lload 7, 2) := by decide +kernel
theorem dL_law_876 : decode cL_law 876 = .ok (.lcmp, 1) := by decide +kernel
theorem dL_law_877 : decode cL_law 877 = .ok (.ifCond .eq 5, 3) := by decide +kernel
theorem dL_law_880 : decode cL_law 880 = .ok (.iconst 0, 1) := by decide +kernel
theorem dL_law_881 : decode cL_law 881 = .ok (.ireturn, 1) := by decide +kernel
theorem dL_law_882 : decode cL_law 882 = .ok (.goto 896, 3) := by decide +kernel
theorem dL_law_885 : decode cL_law 885 = .ok (.aload_n 1, 1) := by decide +kernel
theorem dL_law_886 : decode cL_law 886 = .ok (.aload_n 0, 1) := by decide +kernel
theorem dL_law_887 : decode cL_law 887 = .ok (.iload 5, 2) := by decide +kernel
theorem dL_law_889 : decode cL_law 889 = .ok (.iconst 1, 1) := by decide +kernel
theorem dL_law_890 : decode cL_law 890 = .ok (.iadd, 1) := by decide +kernel
theorem dL_law_891 : decode cL_law 891 = .ok (.iaload, 1) := by decide +kernel
theorem dL_law_892 : decode cL_law 892 = .ok (.invokestatic 141, 3) := by decide +kernel
theorem dL_law_895 : decode cL_law 895 = .ok (.istore 6, 2) := by decide +kernel
theorem dL_law_897 : decode cL_law 897 = .ok (.aload_n 2, 1) := by decide +kernel
theorem dL_law_898 : decode cL_law 898 = .ok (.aload_n 0, 1) := by decide +kernel
theorem dL_law_899 : decode cL_law 899 = .ok (.iload 5, 2) := by decide +kernel
theorem dL_law_901 : decode cL_law 901 = .ok (.iconst 1, 1) := by decide +kernel
theorem dL_law_902 : decode cL_law 902 = .ok (.iadd, 1) := by decide +kernel
theorem dL_law_903 : decode cL_law 903 = .ok (.iaload, 1) := by decide +kernel
theorem dL_law_904 : decode cL_law 904 = .ok (.invokevirtual 143, 3) := by decide +kernel
theorem dL_law_907 : decode cL_law 907 = .ok (.aload_n 2, 1) := by decide +kernel
theorem dL_law_908 : decode cL_law 908 = .ok (.invokevirtual 106, 3) := by decide +kernel
theorem dL_law_911 : decode cL_law 911 = .ok (.iload 6, 2) := by decide +kernel
theorem dL_law_913 : decode cL_law 913 = .ok (.if_icmp .eq 5, 3) := by decide +kernel
theorem dL_law_916 : decode cL_law 916 = .ok (.iconst 0, 1) := by decide +kernel
theorem dL_law_917 : decode cL_law 917 = .ok (.ireturn, 1) := by decide +kernel
theorem dL_law_918 : decode cL_law 918 = .ok (.goto 860, 3) := by decide +kernel
theorem dL_law_921 : decode cL_law 921 = .ok (.aload_n 1, 1) := by decide +kernel
theorem dL_law_922 : decode cL_law 922 = .ok (.aload_n 0, 1) := by decide +kernel
theorem dL_law_923 : decode cL_law 923 = .ok (.iload 5, 2) := by decide +kernel
theorem dL_law_925 : decode cL_law 925 = .ok (.iconst 1, 1) := by decide +kernel
theorem dL_law_926 : decode cL_law 926 = .ok (.iadd, 1) := by decide +kernel
theorem dL_law_927 : decode cL_law 927 = .ok (.iaload, 1) := by decide +kernel
theorem dL_law_928 : decode cL_law 928 = .ok (.aload_n 0, 1) := by decide +kernel
theorem dL_law_929 : decode cL_law 929 = .ok (.iload 5, 2) := by decide +kernel
theorem dL_law_931 : decode cL_law 931 = .ok (.iconst 2, 1) := by decide +kernel
theorem dL_law_932 : decode cL_law 932 = .ok (.iadd, 1) := by decide +kernel
theorem dL_law_933 : decode cL_law 933 = .ok (.iaload, 1) := by decide +kernel
theorem dL_law_934 : decode cL_law 934 = .ok (.aload_n 0, 1) := by decide +kernel
theorem dL_law_935 : decode cL_law 935 = .ok (.iload 5, 2) := by decide +kernel
theorem dL_law_937 : decode cL_law 937 = .ok (.iconst 3, 1) := by decide +kernel
theorem dL_law_938 : decode cL_law 938 = .ok (.iadd, 1) := by decide +kernel
theorem dL_law_939 : decode cL_law 939 = .ok (.iaload, 1) := by decide +kernel
theorem dL_law_940 : decode cL_law 940 = .ok (.aload_n 3, 1) := by decide +kernel
theorem dL_law_941 : decode cL_law 941 = .ok (.invokestatic 144, 3) := by decide +kernel
theorem dL_law_944 : decode cL_law 944 = .ok (.istore 6, 2) := by decide +kernel
theorem dL_law_946 : decode cL_law 946 = .ok (.aload_n 2, 1) := by decide +kernel
theorem dL_law_947 : decode cL_law 947 = .ok (.aload_n 0, 1) := by decide +kernel
theorem dL_law_948 : decode cL_law 948 = .ok (.iload 5, 2) := by decide +kernel
theorem dL_law_950 : decode cL_law 950 = .ok (.iconst 1, 1) := by decide +kernel
theorem dL_law_951 : decode cL_law 951 = .ok (.iadd, 1) := by decide +kernel
theorem dL_law_952 : decode cL_law 952 = .ok (.iaload, 1) := by decide +kernel
theorem dL_law_953 : decode cL_law 953 = .ok (.aload_n 0, 1) := by decide +kernel
theorem dL_law_954 : decode cL_law 954 = .ok (.iload 5, 2) := by decide +kernel
theorem dL_law_956 : decode cL_law 956 = .ok (.iconst 2, 1) := by decide +kernel
theorem dL_law_957 : decode cL_law 957 = .ok (.iadd, 1) := by decide +kernel
theorem dL_law_958 : decode cL_law 958 = .ok (.iaload, 1) := by decide +kernel
theorem dL_law_959 : decode cL_law 959 = .ok (.aload_n 0, 1) := by decide +kernel
theorem dL_law_960 : decode cL_law 960 = .ok (.iload 5, 2) := by decide +kernel
theorem dL_law_962 : decode cL_law 962 = .ok (.iconst 3, 1) := by decide +kernel
theorem dL_law_963 : decode cL_law 963 = .ok (.iadd, 1) := by decide +kernel
theorem dL_law_964 : decode cL_law 964 = .ok (.iaload, 1) := by decide +kernel
theorem dL_law_965 : decode cL_law 965 = .ok (.invokevirtual 147, 3) := by decide +kernel
theorem dL_law_968 : decode cL_law 968 = .ok (.lstore 7, 2) := by decide +kernel
theorem dL_law_970 : decode cL_law 970 = .ok (.aload_n 2, 1) := by decide +kernel
theorem dL_law_971 : decode cL_law 971 = .ok (.invokevirtual 106, 3) := by decide +kernel
theorem dL_law_974 : decode cL_law 974 = .ok (.iload 6, 2) := by decide +kernel
theorem dL_law_976 : decode cL_law 976 = .ok (.if_icmp .eq 5, 3) := by decide +kernel
theorem dL_law_979 : decode cL_law 979 = .ok (.iconst 0, 1) := by decide +kernel
theorem dL_law_980 : decode cL_law 980 = .ok (.ireturn, 1) := by decide +kernel
theorem dL_law_981 : decode cL_law 981 = .ok (.iload 6, 2) := by decide +kernel
theorem dL_law_983 : decode cL_law 983 = .ok (.ifCond .ne 14, 3) := by decide +kernel
theorem dL_law_986 : decode cL_law 986 = .ok (.aload_n 3, 1) := by decide +kernel
theorem dL_law_987 : decode cL_law 987 = .ok (.iconst 0, 1) := by decide +kernel
theorem dL_law_988 : decode cL_law 988 = .ok (.laload, 1) := by decide +kernel
theorem dL_law_989 : decode cL_law 989 = .ok (.lload 7, 2) := by decide +kernel
theorem dL_law_991 : decode cL_law 991 = .ok (.lcmp, 1) := by decide +kernel
theorem dL_law_992 : decode cL_law 992 = .ok (.ifCond .eq 5, 3) := by decide +kernel
theorem dL_law_995 : decode cL_law 995 = .ok (.iconst 0, 1) := by decide +kernel
theorem dL_law_996 : decode cL_law 996 = .ok (.ireturn, 1) := by decide +kernel
theorem dL_law_997 : decode cL_law 997 = .ok (.goto 781, 3) := by decide +kernel
theorem dL_law_1000 : decode cL_law 1000 = .ok (.aload_n 1, 1) := by decide +kernel
theorem dL_law_1001 : decode cL_law 1001 = .ok (.aload_n 0, 1) := by decide +kernel
theorem dL_law_1002 : decode cL_law 1002 = .ok (.iload 5, 2) := by decide +kernel
theorem dL_law_1004 : decode cL_law 1004 = .ok (.iconst 1, 1) := by decide +kernel
theorem dL_law_1005 : decode cL_law 1005 = .ok (.iadd, 1) := by decide +kernel
theorem dL_law_1006 : decode cL_law 1006 = .ok (.iaload, 1) := by decide +kernel
theorem dL_law_1007 : decode cL_law 1007 = .ok (.aload_n 0, 1) := by decide +kernel
theorem dL_law_1008 : decode cL_law 1008 = .ok (.iload 5, 2) := by decide +kernel
theorem dL_law_1010 : decode cL_law 1010 = .ok (.iconst 2, 1) := by decide +kernel
theorem dL_law_1011 : decode cL_law 1011 = .ok (.iadd, 1) := by decide +kernel
theorem dL_law_1012 : decode cL_law 1012 = .ok (.iaload, 1) := by decide +kernel
theorem dL_law_1013 : decode cL_law 1013 = .ok (.i2l, 1) := by decide +kernel
theorem dL_law_1014 : decode cL_law 1014 = .ok (.bipush 32, 2) := by decide +kernel
theorem dL_law_1016 : decode cL_law 1016 = .ok (.lshl, 1) := by decide +kernel
theorem dL_law_1017 : decode cL_law 1017 = .ok (.aload_n 0, 1) := by decide +kernel
theorem dL_law_1018 : decode cL_law 1018 = .ok (.iload 5, 2) := by decide +kernel
theorem dL_law_1020 : decode cL_law 1020 = .ok (.iconst 3, 1) := by decide +kernel
theorem dL_law_1021 : decode cL_law 1021 = .ok (.iadd, 1) := by decide +kernel
theorem dL_law_1022 : decode cL_law 1022 = .ok (.iaload, 1) := by decide +kernel
theorem dL_law_1023 : decode cL_law 1023 = .ok (.i2l, 1) := by decide +kernel
theorem dL_law_1024 : decode cL_law 1024 = .ok (.ldc2_w 110, 3) := by decide +kernel
theorem dL_law_1027 : decode cL_law 1027 = .ok (.land, 1) := by decide +kernel
theorem dL_law_1028 : decode cL_law 1028 = .ok (.lor, 1) := by decide +kernel
theorem dL_law_1029 : decode cL_law 1029 = .ok (.aload_n 0, 1) := by decide +kernel
theorem dL_law_1030 : decode cL_law 1030 = .ok (.iload 5, 2) := by decide +kernel
theorem dL_law_1032 : decode cL_law 1032 = .ok (.iconst 4, 1) := by decide +kernel
theorem dL_law_1033 : decode cL_law 1033 = .ok (.iadd, 1) := by decide +kernel
theorem dL_law_1034 : decode cL_law 1034 = .ok (.iaload, 1) := by decide +kernel
theorem dL_law_1035 : decode cL_law 1035 = .ok (.i2l, 1) := by decide +kernel
theorem dL_law_1036 : decode cL_law 1036 = .ok (.bipush 32, 2) := by decide +kernel
theorem dL_law_1038 : decode cL_law 1038 = .ok (.lshl, 1) := by decide +kernel
theorem dL_law_1039 : decode cL_law 1039 = .ok (.aload_n 0, 1) := by decide +kernel
theorem dL_law_1040 : decode cL_law 1040 = .ok (.iload 5, 2) := by decide +kernel
theorem dL_law_1042 : decode cL_law 1042 = .ok (.iconst 5, 1) := by decide +kernel
theorem dL_law_1043 : decode cL_law 1043 = .ok (.iadd, 1) := by decide +kernel
theorem dL_law_1044 : decode cL_law 1044 = .ok (.iaload, 1) := by decide +kernel
theorem dL_law_1045 : decode cL_law 1045 = .ok (.i2l, 1) := by decide +kernel
theorem dL_law_1046 : decode cL_law 1046 = .ok (.ldc2_w 110, 3) := by decide +kernel
theorem dL_law_1049 : decode cL_law 1049 = .ok (.land, 1) := by decide +kernel
theorem dL_law_1050 : decode cL_law 1050 = .ok (.lor, 1) := by decide +kernel
theorem dL_law_1051 : decode cL_law 1051 = .ok (.aload_n 3, 1) := by decide +kernel
theorem dL_law_1052 : decode cL_law 1052 = .ok (.invokestatic 148, 3) := by decide +kernel
theorem dL_law_1055 : decode cL_law 1055 = .ok (.istore 6, 2) := by decide +kernel
theorem dL_law_1057 : decode cL_law 1057 = .ok (.aload_n 2, 1) := by decide +kernel
theorem dL_law_1058 : decode cL_law 1058 = .ok (.aload_n 0, 1) := by decide +kernel
theorem dL_law_1059 : decode cL_law 1059 = .ok (.iload 5, 2) := by decide +kernel
theorem dL_law_1061 : decode cL_law 1061 = .ok (.iconst 1, 1) := by decide +kernel
theorem dL_law_1062 : decode cL_law 1062 = .ok (.iadd, 1) := by decide +kernel
theorem dL_law_1063 : decode cL_law 1063 = .ok (.iaload, 1) := by decide +kernel
theorem dL_law_1064 : decode cL_law 1064 = .ok (.aload_n 0, 1) := by decide +kernel
theorem dL_law_1065 : decode cL_law 1065 = .ok (.iload 5, 2) := by decide +kernel
theorem dL_law_1067 : decode cL_law 1067 = .ok (.iconst 2, 1) := by decide +kernel
theorem dL_law_1068 : decode cL_law 1068 = .ok (.iadd, 1) := by decide +kernel
theorem dL_law_1069 : decode cL_law 1069 = .ok (.iaload, 1) := by decide +kernel
theorem dL_law_1070 : decode cL_law 1070 = .ok (.i2l, 1) := by decide +kernel
theorem dL_law_1071 : decode cL_law 1071 = .ok (.bipush 32, 2) := by decide +kernel
theorem dL_law_1073 : decode cL_law 1073 = .ok (.lshl, 1) := by decide +kernel
theorem dL_law_1074 : decode cL_law 1074 = .ok (.aload_n 0, 1) := by decide +kernel
theorem dL_law_1075 : decode cL_law 1075 = .ok (.iload 5, 2) := by decide +kernel
theorem dL_law_1077 : decode cL_law 1077 = .ok (.iconst 3, 1) := by decide +kernel
theorem dL_law_1078 : decode cL_law 1078 = .ok (.iadd, 1) := by decide +kernel
theorem dL_law_1079 : decode cL_law 1079 = .ok (.iaload, 1) := by decide +kernel
theorem dL_law_1080 : decode cL_law 1080 = .ok (.i2l, 1) := by decide +kernel
theorem dL_law_1081 : decode cL_law 1081 = .ok (.ldc2_w 110, 3) := by decide +kernel
theorem dL_law_1084 : decode cL_law 1084 = .ok (.land, 1) := by decide +kernel
theorem dL_law_1085 : decode cL_law 1085 = .ok (.lor, 1) := by decide +kernel
theorem dL_law_1086 : decode cL_law 1086 = .ok (.aload_n 0, 1) := by decide +kernel
theorem dL_law_1087 : decode cL_law 1087 = .ok (.iload 5, 2) := by decide +kernel
theorem dL_law_1089 : decode cL_law 1089 = .ok (.iconst 4, 1) := by decide +kernel
theorem dL_law_1090 : decode cL_law 1090 = .ok (.iadd, 1) := by decide +kernel
theorem dL_law_1091 : decode cL_law 1091 = .ok (.iaload, 1) := by decide +kernel
theorem dL_law_1092 : decode cL_law 1092 = .ok (.i2l, 1) := by decide +kernel
theorem dL_law_1093 : decode cL_law 1093 = .ok (.bipush 32, 2) := by decide +kernel
theorem dL_law_1095 : decode cL_law 1095 = .ok (.lshl, 1) := by decide +kernel
theorem dL_law_1096 : decode cL_law 1096 = .ok (.aload_n 0, 1) := by decide +kernel
theorem dL_law_1097 : decode cL_law 1097 = .ok (.iload 5, 2) := by decide +kernel
theorem dL_law_1099 : decode cL_law 1099 = .ok (.iconst 5, 1) := by decide +kernel
theorem dL_law_1100 : decode cL_law 1100 = .ok (.iadd, 1) := by decide +kernel
theorem dL_law_1101 : decode cL_law 1101 = .ok (.iaload, 1) := by decide +kernel
theorem dL_law_1102 : decode cL_law 1102 = .ok (.i2l, 1) := by decide +kernel
theorem dL_law_1103 : decode cL_law 1103 = .ok (.ldc2_w 110, 3) := by decide +kernel
theorem dL_law_1106 : decode cL_law 1106 = .ok (.land, 1) := by decide +kernel
theorem dL_law_1107 : decode cL_law 1107 = .ok (.lor, 1) := by decide +kernel
theorem dL_law_1108 : decode cL_law 1108 = .ok (.invokevirtual 151, 3) := by decide +kernel
theorem dL_law_1111 : decode cL_law 1111 = .ok (.lstore 7, 2) := by decide +kernel
theorem dL_law_1113 : decode cL_law 1113 = .ok (.aload_n 2, 1) := by decide +kernel
theorem dL_law_1114 : decode cL_law 1114 = .ok (.invokevirtual 106, 3) := by decide +kernel
theorem dL_law_1117 : decode cL_law 1117 = .ok (.iload 6, 2) := by decide +kernel
theorem dL_law_1119 : decode cL_law 1119 = .ok (.if_icmp .eq 5, 3) := by decide +kernel
theorem dL_law_1122 : decode cL_law 1122 = .ok (.iconst 0, 1) := by decide +kernel
theorem dL_law_1123 : decode cL_law 1123 = .ok (.ireturn, 1) := by decide +kernel
theorem dL_law_1124 : decode cL_law 1124 = .ok (.iload 6, 2) := by decide +kernel
theorem dL_law_1126 : decode cL_law 1126 = .ok (.ifCond .ne 14, 3) := by decide +kernel
theorem dL_law_1129 : decode cL_law 1129 = .ok (.aload_n 3, 1) := by decide +kernel
theorem dL_law_1130 : decode cL_law 1130 = .ok (.iconst 0, 1) := by decide +kernel
theorem dL_law_1131 : decode cL_law 1131 = .ok (.laload, 1) := by decide +kernel
theorem dL_law_1132 : decode cL_law 1132 = .ok (.lload 7, 2) := by decide +kernel
theorem dL_law_1134 : decode cL_law 1134 = .ok (.lcmp, 1) := by decide +kernel
theorem dL_law_1135 : decode cL_law 1135 = .ok (.ifCond .eq 5, 3) := by decide +kernel
theorem dL_law_1138 : decode cL_law 1138 = .ok (.iconst 0, 1) := by decide +kernel
theorem dL_law_1139 : decode cL_law 1139 = .ok (.ireturn, 1) := by decide +kernel
theorem dL_law_1140 : decode cL_law 1140 = .ok (.goto 638, 3) := by decide +kernel
theorem dL_law_1143 : decode cL_law 1143 = .ok (.aload_n 1, 1) := by decide +kernel
theorem dL_law_1144 : decode cL_law 1144 = .ok (.aload_n 0, 1) := by decide +kernel
theorem dL_law_1145 : decode cL_law 1145 = .ok (.iload 5, 2) := by decide +kernel
theorem dL_law_1147 : decode cL_law 1147 = .ok (.iconst 1, 1) := by decide +kernel
theorem dL_law_1148 : decode cL_law 1148 = .ok (.iadd, 1) := by decide +kernel
theorem dL_law_1149 : decode cL_law 1149 = .ok (.iaload, 1) := by decide +kernel
theorem dL_law_1150 : decode cL_law 1150 = .ok (.aload_n 0, 1) := by decide +kernel
theorem dL_law_1151 : decode cL_law 1151 = .ok (.iload 5, 2) := by decide +kernel
theorem dL_law_1153 : decode cL_law 1153 = .ok (.iconst 2, 1) := by decide +kernel
theorem dL_law_1154 : decode cL_law 1154 = .ok (.iadd, 1) := by decide +kernel
theorem dL_law_1155 : decode cL_law 1155 = .ok (.iaload, 1) := by decide +kernel
theorem dL_law_1156 : decode cL_law 1156 = .ok (.aload_n 0, 1) := by decide +kernel
theorem dL_law_1157 : decode cL_law 1157 = .ok (.iload 5, 2) := by decide +kernel
theorem dL_law_1159 : decode cL_law 1159 = .ok (.iconst 3, 1) := by decide +kernel
theorem dL_law_1160 : decode cL_law 1160 = .ok (.iadd, 1) := by decide +kernel
theorem dL_law_1161 : decode cL_law 1161 = .ok (.iaload, 1) := by decide +kernel
theorem dL_law_1162 : decode cL_law 1162 = .ok (.aload_n 3, 1) := by decide +kernel
theorem dL_law_1163 : decode cL_law 1163 = .ok (.invokestatic 152, 3) := by decide +kernel
theorem dL_law_1166 : decode cL_law 1166 = .ok (.istore 6, 2) := by decide +kernel
theorem dL_law_1168 : decode cL_law 1168 = .ok (.aload_n 2, 1) := by decide +kernel
theorem dL_law_1169 : decode cL_law 1169 = .ok (.aload_n 0, 1) := by decide +kernel
theorem dL_law_1170 : decode cL_law 1170 = .ok (.iload 5, 2) := by decide +kernel
theorem dL_law_1172 : decode cL_law 1172 = .ok (.iconst 1, 1) := by decide +kernel
theorem dL_law_1173 : decode cL_law 1173 = .ok (.iadd, 1) := by decide +kernel
theorem dL_law_1174 : decode cL_law 1174 = .ok (.iaload, 1) := by decide +kernel
theorem dL_law_1175 : decode cL_law 1175 = .ok (.aload_n 0, 1) := by decide +kernel
theorem dL_law_1176 : decode cL_law 1176 = .ok (.iload 5, 2) := by decide +kernel
theorem dL_law_1178 : decode cL_law 1178 = .ok (.iconst 2, 1) := by decide +kernel
theorem dL_law_1179 : decode cL_law 1179 = .ok (.iadd, 1) := by decide +kernel
theorem dL_law_1180 : decode cL_law 1180 = .ok (.iaload, 1) := by decide +kernel
theorem dL_law_1181 : decode cL_law 1181 = .ok (.aload_n 0, 1) := by decide +kernel
theorem dL_law_1182 : decode cL_law 1182 = .ok (.iload 5, 2) := by decide +kernel
theorem dL_law_1184 : decode cL_law 1184 = .ok (.iconst 3, 1) := by decide +kernel
theorem dL_law_1185 : decode cL_law 1185 = .ok (.iadd, 1) := by decide +kernel
theorem dL_law_1186 : decode cL_law 1186 = .ok (.iaload, 1) := by decide +kernel
theorem dL_law_1187 : decode cL_law 1187 = .ok (.invokevirtual 154, 3) := by decide +kernel
theorem dL_law_1190 : decode cL_law 1190 = .ok (.lstore 7, 2) := by decide +kernel
theorem dL_law_1192 : decode cL_law 1192 = .ok (.aload_n 2, 1) := by decide +kernel
theorem dL_law_1193 : decode cL_law 1193 = .ok (.invokevirtual 106, 3) := by decide +kernel
theorem dL_law_1196 : decode cL_law 1196 = .ok (.iload 6, 2) := by decide +kernel
theorem dL_law_1198 : decode cL_law 1198 = .ok (.if_icmp .eq 5, 3) := by decide +kernel
theorem dL_law_1201 : decode cL_law 1201 = .ok (.iconst 0, 1) := by decide +kernel
theorem dL_law_1202 : decode cL_law 1202 = .ok (.ireturn, 1) := by decide +kernel
theorem dL_law_1203 : decode cL_law 1203 = .ok (.iload 6, 2) := by decide +kernel
theorem dL_law_1205 : decode cL_law 1205 = .ok (.ifCond .ne 14, 3) := by decide +kernel
theorem dL_law_1208 : decode cL_law 1208 = .ok (.aload_n 3, 1) := by decide +kernel
theorem dL_law_1209 : decode cL_law 1209 = .ok (.iconst 0, 1) := by decide +kernel
theorem dL_law_1210 : decode cL_law 1210 = .ok (.laload, 1) := by decide +kernel
theorem dL_law_1211 : decode cL_law 1211 = .ok (.lload 7, 2) := by decide +kernel
theorem dL_law_1213 : decode cL_law 1213 = .ok (.lcmp, 1) := by decide +kernel
theorem dL_law_1214 : decode cL_law 1214 = .ok (.ifCond .eq 5, 3) := by decide +kernel
theorem dL_law_1217 : decode cL_law 1217 = .ok (.iconst 0, 1) := by decide +kernel
theorem dL_law_1218 : decode cL_law 1218 = .ok (.ireturn, 1) := by decide +kernel
theorem dL_law_1219 : decode cL_law 1219 = .ok (.goto 559, 3) := by decide +kernel
theorem dL_law_1222 : decode cL_law 1222 = .ok (.aload_n 1, 1) := by decide +kernel
theorem dL_law_1223 : decode cL_law 1223 = .ok (.aload_n 0, 1) := by decide +kernel
theorem dL_law_1224 : decode cL_law 1224 = .ok (.iload 5, 2) := by decide +kernel
theorem dL_law_1226 : decode cL_law 1226 = .ok (.iconst 1, 1) := by decide +kernel
theorem dL_law_1227 : decode cL_law 1227 = .ok (.iadd, 1) := by decide +kernel
theorem dL_law_1228 : decode cL_law 1228 = .ok (.iaload, 1) := by decide +kernel
theorem dL_law_1229 : decode cL_law 1229 = .ok (.aload_n 0, 1) := by decide +kernel
theorem dL_law_1230 : decode cL_law 1230 = .ok (.iload 5, 2) := by decide +kernel
theorem dL_law_1232 : decode cL_law 1232 = .ok (.iconst 2, 1) := by decide +kernel
theorem dL_law_1233 : decode cL_law 1233 = .ok (.iadd, 1) := by decide +kernel
theorem dL_law_1234 : decode cL_law 1234 = .ok (.iaload, 1) := by decide +kernel
theorem dL_law_1235 : decode cL_law 1235 = .ok (.ifCond .eq 7, 3) := by decide +kernel
theorem dL_law_1238 : decode cL_law 1238 = .ok (.iconst 1, 1) := by decide +kernel
theorem dL_law_1239 : decode cL_law 1239 = .ok (.goto 4, 3) := by decide +kernel
theorem dL_law_1242 : decode cL_law 1242 = .ok (.iconst 0, 1) := by decide +kernel
theorem dL_law_1243 : decode cL_law 1243 = .ok (.aload_n 0, 1) := by decide +kernel
theorem dL_law_1244 : decode cL_law 1244 = .ok (.iload 5, 2) := by decide +kernel
theorem dL_law_1246 : decode cL_law 1246 = .ok (.iconst 3, 1) := by decide +kernel
theorem dL_law_1247 : decode cL_law 1247 = .ok (.iadd, 1) := by decide +kernel
theorem dL_law_1248 : decode cL_law 1248 = .ok (.iaload, 1) := by decide +kernel
theorem dL_law_1249 : decode cL_law 1249 = .ok (.i2l, 1) := by decide +kernel
theorem dL_law_1250 : decode cL_law 1250 = .ok (.bipush 32, 2) := by decide +kernel
theorem dL_law_1252 : decode cL_law 1252 = .ok (.lshl, 1) := by decide +kernel
theorem dL_law_1253 : decode cL_law 1253 = .ok (.aload_n 0, 1) := by decide +kernel
theorem dL_law_1254 : decode cL_law 1254 = .ok (.iload 5, 2) := by decide +kernel
theorem dL_law_1256 : decode cL_law 1256 = .ok (.iconst 4, 1) := by decide +kernel
theorem dL_law_1257 : decode cL_law 1257 = .ok (.iadd, 1) := by decide +kernel
theorem dL_law_1258 : decode cL_law 1258 = .ok (.iaload, 1) := by decide +kernel
theorem dL_law_1259 : decode cL_law 1259 = .ok (.i2l, 1) := by decide +kernel
theorem dL_law_1260 : decode cL_law 1260 = .ok (.ldc2_w 110, 3) := by decide +kernel
theorem dL_law_1263 : decode cL_law 1263 = .ok (.land, 1) := by decide +kernel
theorem dL_law_1264 : decode cL_law 1264 = .ok (.lor, 1) := by decide +kernel
theorem dL_law_1265 : decode cL_law 1265 = .ok (.invokestatic 155, 3) := by decide +kernel
theorem dL_law_1268 : decode cL_law 1268 = .ok (.istore 6, 2) := by decide +kernel
theorem dL_law_1270 : decode cL_law 1270 = .ok (.aload_n 2, 1) := by decide +kernel
theorem dL_law_1271 : decode cL_law 1271 = .ok (.aload_n 0, 1) := by decide +kernel
theorem dL_law_1272 : decode cL_law 1272 = .ok (.iload 5, 2) := by decide +kernel
theorem dL_law_1274 : decode cL_law 1274 = .ok (.iconst 1, 1) := by decide +kernel
theorem dL_law_1275 : decode cL_law 1275 = .ok (.iadd, 1) := by decide +kernel
theorem dL_law_1276 : decode cL_law 1276 = .ok (.iaload, 1) := by decide +kernel
theorem dL_law_1277 : decode cL_law 1277 = .ok (.aload_n 0, 1) := by decide +kernel
theorem dL_law_1278 : decode cL_law 1278 = .ok (.iload 5, 2) := by decide +kernel
theorem dL_law_1280 : decode cL_law 1280 = .ok (.iconst 2, 1) := by decide +kernel
theorem dL_law_1281 : decode cL_law 1281 = .ok (.iadd, 1) := by decide +kernel
theorem dL_law_1282 : decode cL_law 1282 = .ok (.iaload, 1) := by decide +kernel
theorem dL_law_1283 : decode cL_law 1283 = .ok (.ifCond .eq 7, 3) := by decide +kernel
theorem dL_law_1286 : decode cL_law 1286 = .ok (.iconst 1, 1) := by decide +kernel
theorem dL_law_1287 : decode cL_law 1287 = .ok (.goto 4, 3) := by decide +kernel
theorem dL_law_1290 : decode cL_law 1290 = .ok (.iconst 0, 1) := by decide +kernel
theorem dL_law_1291 : decode cL_law 1291 = .ok (.aload_n 0, 1) := by decide +kernel
theorem dL_law_1292 : decode cL_law 1292 = .ok (.iload 5, 2) := by decide +kernel
theorem dL_law_1294 : decode cL_law 1294 = .ok (.iconst 3, 1) := by decide +kernel
theorem dL_law_1295 : decode cL_law 1295 = .ok (.iadd, 1) := by decide +kernel
theorem dL_law_1296 : decode cL_law 1296 = .ok (.iaload, 1) := by decide +kernel
theorem dL_law_1297 : decode cL_law 1297 = .ok (.i2l, 1) := by decide +kernel
theorem dL_law_1298 : decode cL_law 1298 = .ok (.bipush 32, 2) := by decide +kernel
theorem dL_law_1300 : decode cL_law 1300 = .ok (.lshl, 1) := by decide +kernel
theorem dL_law_1301 : decode cL_law 1301 = .ok (.aload_n 0, 1) := by decide +kernel
theorem dL_law_1302 : decode cL_law 1302 = .ok (.iload 5, 2) := by decide +kernel
theorem dL_law_1304 : decode cL_law 1304 = .ok (.iconst 4, 1) := by decide +kernel
theorem dL_law_1305 : decode cL_law 1305 = .ok (.iadd, 1) := by decide +kernel
theorem dL_law_1306 : decode cL_law 1306 = .ok (.iaload, 1) := by decide +kernel
theorem dL_law_1307 : decode cL_law 1307 = .ok (.i2l, 1) := by decide +kernel
theorem dL_law_1308 : decode cL_law 1308 = .ok (.ldc2_w 110, 3) := by decide +kernel
theorem dL_law_1311 : decode cL_law 1311 = .ok (.land, 1) := by decide +kernel
theorem dL_law_1312 : decode cL_law 1312 = .ok (.lor, 1) := by decide +kernel
theorem dL_law_1313 : decode cL_law 1313 = .ok (.invokevirtual 158, 3) := by decide +kernel
theorem dL_law_1316 : decode cL_law 1316 = .ok (.aload_n 2, 1) := by decide +kernel
theorem dL_law_1317 : decode cL_law 1317 = .ok (.invokevirtual 106, 3) := by decide +kernel
theorem dL_law_1320 : decode cL_law 1320 = .ok (.iload 6, 2) := by decide +kernel
theorem dL_law_1322 : decode cL_law 1322 = .ok (.if_icmp .eq 5, 3) := by decide +kernel
theorem dL_law_1325 : decode cL_law 1325 = .ok (.iconst 0, 1) := by decide +kernel
theorem dL_law_1326 : decode cL_law 1326 = .ok (.ireturn, 1) := by decide +kernel
theorem dL_law_1327 : decode cL_law 1327 = .ok (.goto 451, 3) := by decide +kernel
theorem dL_law_1330 : decode cL_law 1330 = .ok (.aload_n 1, 1) := by decide +kernel
theorem dL_law_1331 : decode cL_law 1331 = .ok (.aload_n 0, 1) := by decide +kernel
theorem dL_law_1332 : decode cL_law 1332 = .ok (.iload 5, 2) := by decide +kernel
theorem dL_law_1334 : decode cL_law 1334 = .ok (.iconst 1, 1) := by decide +kernel
theorem dL_law_1335 : decode cL_law 1335 = .ok (.iadd, 1) := by decide +kernel
theorem dL_law_1336 : decode cL_law 1336 = .ok (.iaload, 1) := by decide +kernel
theorem dL_law_1337 : decode cL_law 1337 = .ok (.invokestatic 159, 3) := by decide +kernel
theorem dL_law_1340 : decode cL_law 1340 = .ok (.istore 6, 2) := by decide +kernel
theorem dL_law_1342 : decode cL_law 1342 = .ok (.aload_n 2, 1) := by decide +kernel
theorem dL_law_1343 : decode cL_law 1343 = .ok (.aload_n 0, 1) := by decide +kernel
theorem dL_law_1344 : decode cL_law 1344 = .ok (.iload 5, 2) := by decide +kernel
theorem dL_law_1346 : decode cL_law 1346 = .ok (.iconst 1, 1) := by decide +kernel
theorem dL_law_1347 : decode cL_law 1347 = .ok (.iadd, 1) := by decide +kernel
theorem dL_law_1348 : decode cL_law 1348 = .ok (.iaload, 1) := by decide +kernel
theorem dL_law_1349 : decode cL_law 1349 = .ok (.invokevirtual 161, 3) := by decide +kernel
theorem dL_law_1352 : decode cL_law 1352 = .ok (.aload_n 2, 1) := by decide +kernel
theorem dL_law_1353 : decode cL_law 1353 = .ok (.invokevirtual 106, 3) := by decide +kernel
theorem dL_law_1356 : decode cL_law 1356 = .ok (.iload 6, 2) := by decide +kernel
theorem dL_law_1358 : decode cL_law 1358 = .ok (.if_icmp .eq 5, 3) := by decide +kernel
theorem dL_law_1361 : decode cL_law 1361 = .ok (.iconst 0, 1) := by decide +kernel
theorem dL_law_1362 : decode cL_law 1362 = .ok (.ireturn, 1) := by decide +kernel
theorem dL_law_1363 : decode cL_law 1363 = .ok (.goto 415, 3) := by decide +kernel
theorem dL_law_1366 : decode cL_law 1366 = .ok (.aload_n 1, 1) := by decide +kernel
theorem dL_law_1367 : decode cL_law 1367 = .ok (.aload_n 0, 1) := by decide +kernel
theorem dL_law_1368 : decode cL_law 1368 = .ok (.iload 5, 2) := by decide +kernel
theorem dL_law_1370 : decode cL_law 1370 = .ok (.iconst 1, 1) := by decide +kernel
theorem dL_law_1371 : decode cL_law 1371 = .ok (.iadd, 1) := by decide +kernel
theorem dL_law_1372 : decode cL_law 1372 = .ok (.iaload, 1) := by decide +kernel
theorem dL_law_1373 : decode cL_law 1373 = .ok (.aload_n 0, 1) := by decide +kernel
theorem dL_law_1374 : decode cL_law 1374 = .ok (.iload 5, 2) := by decide +kernel
theorem dL_law_1376 : decode cL_law 1376 = .ok (.iconst 2, 1) := by decide +kernel
theorem dL_law_1377 : decode cL_law 1377 = .ok (.iadd, 1) := by decide +kernel
theorem dL_law_1378 : decode cL_law 1378 = .ok (.iaload, 1) := by decide +kernel
theorem dL_law_1379 : decode cL_law 1379 = .ok (.aload_n 0, 1) := by decide +kernel
theorem dL_law_1380 : decode cL_law 1380 = .ok (.iload 5, 2) := by decide +kernel
theorem dL_law_1382 : decode cL_law 1382 = .ok (.iconst 3, 1) := by decide +kernel
theorem dL_law_1383 : decode cL_law 1383 = .ok (.iadd, 1) := by decide +kernel
theorem dL_law_1384 : decode cL_law 1384 = .ok (.iaload, 1) := by decide +kernel
theorem dL_law_1385 : decode cL_law 1385 = .ok (.i2l, 1) := by decide +kernel
theorem dL_law_1386 : decode cL_law 1386 = .ok (.bipush 32, 2) := by decide +kernel
theorem dL_law_1388 : decode cL_law 1388 = .ok (.lshl, 1) := by decide +kernel
theorem dL_law_1389 : decode cL_law 1389 = .ok (.aload_n 0, 1) := by decide +kernel
theorem dL_law_1390 : decode cL_law 1390 = .ok (.iload 5, 2) := by decide +kernel
theorem dL_law_1392 : decode cL_law 1392 = .ok (.iconst 4, 1) := by decide +kernel
theorem dL_law_1393 : decode cL_law 1393 = .ok (.iadd, 1) := by decide +kernel
theorem dL_law_1394 : decode cL_law 1394 = .ok (.iaload, 1) := by decide +kernel
theorem dL_law_1395 : decode cL_law 1395 = .ok (.i2l, 1) := by decide +kernel
theorem dL_law_1396 : decode cL_law 1396 = .ok (.ldc2_w 110, 3) := by decide +kernel
theorem dL_law_1399 : decode cL_law 1399 = .ok (.land, 1) := by decide +kernel
theorem dL_law_1400 : decode cL_law 1400 = .ok (.lor, 1) := by decide +kernel
theorem dL_law_1401 : decode cL_law 1401 = .ok (.aload_n 3, 1) := by decide +kernel
theorem dL_law_1402 : decode cL_law 1402 = .ok (.invokestatic 162, 3) := by decide +kernel
theorem dL_law_1405 : decode cL_law 1405 = .ok (.istore 6, 2) := by decide +kernel
theorem dL_law_1407 : decode cL_law 1407 = .ok (.aload_n 2, 1) := by decide +kernel
theorem dL_law_1408 : decode cL_law 1408 = .ok (.aload_n 0, 1) := by decide +kernel
theorem dL_law_1409 : decode cL_law 1409 = .ok (.iload 5, 2) := by decide +kernel
theorem dL_law_1411 : decode cL_law 1411 = .ok (.iconst 1, 1) := by decide +kernel
theorem dL_law_1412 : decode cL_law 1412 = .ok (.iadd, 1) := by decide +kernel
theorem dL_law_1413 : decode cL_law 1413 = .ok (.iaload, 1) := by decide +kernel
theorem dL_law_1414 : decode cL_law 1414 = .ok (.aload_n 0, 1) := by decide +kernel
theorem dL_law_1415 : decode cL_law 1415 = .ok (.iload 5, 2) := by decide +kernel
theorem dL_law_1417 : decode cL_law 1417 = .ok (.iconst 2, 1) := by decide +kernel
theorem dL_law_1418 : decode cL_law 1418 = .ok (.iadd, 1) := by decide +kernel
theorem dL_law_1419 : decode cL_law 1419 = .ok (.iaload, 1) := by decide +kernel
theorem dL_law_1420 : decode cL_law 1420 = .ok (.aload_n 0, 1) := by decide +kernel
theorem dL_law_1421 : decode cL_law 1421 = .ok (.iload 5, 2) := by decide +kernel
theorem dL_law_1423 : decode cL_law 1423 = .ok (.iconst 3, 1) := by decide +kernel
theorem dL_law_1424 : decode cL_law 1424 = .ok (.iadd, 1) := by decide +kernel
theorem dL_law_1425 : decode cL_law 1425 = .ok (.iaload, 1) := by decide +kernel
theorem dL_law_1426 : decode cL_law 1426 = .ok (.i2l, 1) := by decide +kernel
theorem dL_law_1427 : decode cL_law 1427 = .ok (.bipush 32, 2) := by decide +kernel
theorem dL_law_1429 : decode cL_law 1429 = .ok (.lshl, 1) := by decide +kernel
theorem dL_law_1430 : decode cL_law 1430 = .ok (.aload_n 0, 1) := by decide +kernel
theorem dL_law_1431 : decode cL_law 1431 = .ok (.iload 5, 2) := by decide +kernel
theorem dL_law_1433 : decode cL_law 1433 = .ok (.iconst 4, 1) := by decide +kernel
theorem dL_law_1434 : decode cL_law 1434 = .ok (.iadd, 1) := by decide +kernel
theorem dL_law_1435 : decode cL_law 1435 = .ok (.iaload, 1) := by decide +kernel
theorem dL_law_1436 : decode cL_law 1436 = .ok (.i2l, 1) := by decide +kernel
theorem dL_law_1437 : decode cL_law 1437 = .ok (.ldc2_w 110, 3) := by decide +kernel
theorem dL_law_1440 : decode cL_law 1440 = .ok (.land, 1) := by decide +kernel
theorem dL_law_1441 : decode cL_law 1441 = .ok (.lor, 1) := by decide +kernel
theorem dL_law_1442 : decode cL_law 1442 = .ok (.invokevirtual 164, 3) := by decide +kernel
theorem dL_law_1445 : decode cL_law 1445 = .ok (.lstore 7, 2) := by decide +kernel
theorem dL_law_1447 : decode cL_law 1447 = .ok (.aload_n 2, 1) := by decide +kernel
theorem dL_law_1448 : decode cL_law 1448 = .ok (.invokevirtual 106, 3) := by decide +kernel
theorem dL_law_1451 : decode cL_law 1451 = .ok (.iload 6, 2) := by decide +kernel
theorem dL_law_1453 : decode cL_law 1453 = .ok (.if_icmp .eq 5, 3) := by decide +kernel
theorem dL_law_1456 : decode cL_law 1456 = .ok (.iconst 0, 1) := by decide +kernel
theorem dL_law_1457 : decode cL_law 1457 = .ok (.ireturn, 1) := by decide +kernel
theorem dL_law_1458 : decode cL_law 1458 = .ok (.iload 6, 2) := by decide +kernel
theorem dL_law_1460 : decode cL_law 1460 = .ok (.ifCond .ne 14, 3) := by decide +kernel
theorem dL_law_1463 : decode cL_law 1463 = .ok (.aload_n 3, 1) := by decide +kernel
theorem dL_law_1464 : decode cL_law 1464 = .ok (.iconst 0, 1) := by decide +kernel
theorem dL_law_1465 : decode cL_law 1465 = .ok (.laload, 1) := by decide +kernel
theorem dL_law_1466 : decode cL_law 1466 = .ok (.lload 7, 2) := by decide +kernel
theorem dL_law_1468 : decode cL_law 1468 = .ok (.lcmp, 1) := by decide +kernel
theorem dL_law_1469 : decode cL_law 1469 = .ok (.ifCond .eq 5, 3) := by decide +kernel
theorem dL_law_1472 : decode cL_law 1472 = .ok (.iconst 0, 1) := by decide +kernel
theorem dL_law_1473 : decode cL_law 1473 = .ok (.ireturn, 1) := by decide +kernel
theorem dL_law_1474 : decode cL_law 1474 = .ok (.goto 304, 3) := by decide +kernel
theorem dL_law_1477 : decode cL_law 1477 = .ok (.aload_n 1, 1) := by decide +kernel
theorem dL_law_1478 : decode cL_law 1478 = .ok (.aload_n 0, 1) := by decide +kernel
theorem dL_law_1479 : decode cL_law 1479 = .ok (.iload 5, 2) := by decide +kernel
theorem dL_law_1481 : decode cL_law 1481 = .ok (.iconst 1, 1) := by decide +kernel
theorem dL_law_1482 : decode cL_law 1482 = .ok (.iadd, 1) := by decide +kernel
theorem dL_law_1483 : decode cL_law 1483 = .ok (.iaload, 1) := by decide +kernel
theorem dL_law_1484 : decode cL_law 1484 = .ok (.aload_n 3, 1) := by decide +kernel
theorem dL_law_1485 : decode cL_law 1485 = .ok (.invokestatic 165, 3) := by decide +kernel
theorem dL_law_1488 : decode cL_law 1488 = .ok (.istore 6, 2) := by decide +kernel
theorem dL_law_1490 : decode cL_law 1490 = .ok (.aload_n 2, 1) := by decide +kernel
theorem dL_law_1491 : decode cL_law 1491 = .ok (.aload_n 0, 1) := by decide +kernel
theorem dL_law_1492 : decode cL_law 1492 = .ok (.iload 5, 2) := by decide +kernel
theorem dL_law_1494 : decode cL_law 1494 = .ok (.iconst 1, 1) := by decide +kernel
theorem dL_law_1495 : decode cL_law 1495 = .ok (.iadd, 1) := by decide +kernel
theorem dL_law_1496 : decode cL_law 1496 = .ok (.iaload, 1) := by decide +kernel
theorem dL_law_1497 : decode cL_law 1497 = .ok (.invokevirtual 168, 3) := by decide +kernel
theorem dL_law_1500 : decode cL_law 1500 = .ok (.lstore 7, 2) := by decide +kernel
theorem dL_law_1502 : decode cL_law 1502 = .ok (.aload_n 2, 1) := by decide +kernel
theorem dL_law_1503 : decode cL_law 1503 = .ok (.invokevirtual 106, 3) := by decide +kernel
theorem dL_law_1506 : decode cL_law 1506 = .ok (.iload 6, 2) := by decide +kernel
theorem dL_law_1508 : decode cL_law 1508 = .ok (.if_icmp .eq 5, 3) := by decide +kernel
theorem dL_law_1511 : decode cL_law 1511 = .ok (.iconst 0, 1) := by decide +kernel
theorem dL_law_1512 : decode cL_law 1512 = .ok (.ireturn, 1) := by decide +kernel
theorem dL_law_1513 : decode cL_law 1513 = .ok (.iload 6, 2) := by decide +kernel
theorem dL_law_1515 : decode cL_law 1515 = .ok (.ifCond .ne 14, 3) := by decide +kernel
theorem dL_law_1518 : decode cL_law 1518 = .ok (.aload_n 3, 1) := by decide +kernel
theorem dL_law_1519 : decode cL_law 1519 = .ok (.iconst 0, 1) := by decide +kernel
theorem dL_law_1520 : decode cL_law 1520 = .ok (.laload, 1) := by decide +kernel
theorem dL_law_1521 : decode cL_law 1521 = .ok (.lload 7, 2) := by decide +kernel
theorem dL_law_1523 : decode cL_law 1523 = .ok (.lcmp, 1) := by decide +kernel
theorem dL_law_1524 : decode cL_law 1524 = .ok (.ifCond .eq 5, 3) := by decide +kernel
theorem dL_law_1527 : decode cL_law 1527 = .ok (.iconst 0, 1) := by decide +kernel
theorem dL_law_1528 : decode cL_law 1528 = .ok (.ireturn, 1) := by decide +kernel
theorem dL_law_1529 : decode cL_law 1529 = .ok (.goto 249, 3) := by decide +kernel
theorem dL_law_1532 : decode cL_law 1532 = .ok (.aload_n 1, 1) := by decide +kernel
theorem dL_law_1533 : decode cL_law 1533 = .ok (.aload_n 0, 1) := by decide +kernel
theorem dL_law_1534 : decode cL_law 1534 = .ok (.iload 5, 2) := by decide +kernel
theorem dL_law_1536 : decode cL_law 1536 = .ok (.iconst 1, 1) := by decide +kernel
theorem dL_law_1537 : decode cL_law 1537 = .ok (.iadd, 1) := by decide +kernel
theorem dL_law_1538 : decode cL_law 1538 = .ok (.iaload, 1) := by decide +kernel
theorem dL_law_1539 : decode cL_law 1539 = .ok (.aload_n 0, 1) := by decide +kernel
theorem dL_law_1540 : decode cL_law 1540 = .ok (.iload 5, 2) := by decide +kernel
theorem dL_law_1542 : decode cL_law 1542 = .ok (.iconst 2, 1) := by decide +kernel
theorem dL_law_1543 : decode cL_law 1543 = .ok (.iadd, 1) := by decide +kernel
theorem dL_law_1544 : decode cL_law 1544 = .ok (.iaload, 1) := by decide +kernel
theorem dL_law_1545 : decode cL_law 1545 = .ok (.aload 4, 2) := by decide +kernel
theorem dL_law_1547 : decode cL_law 1547 = .ok (.invokestatic 169, 3) := by decide +kernel
theorem dL_law_1550 : decode cL_law 1550 = .ok (.istore 6, 2) := by decide +kernel
theorem dL_law_1552 : decode cL_law 1552 = .ok (.aload_n 2, 1) := by decide +kernel
theorem dL_law_1553 : decode cL_law 1553 = .ok (.aload_n 0, 1) := by decide +kernel
theorem dL_law_1554 : decode cL_law 1554 = .ok (.iload 5, 2) := by decide +kernel
theorem dL_law_1556 : decode cL_law 1556 = .ok (.iconst 1, 1) := by decide +kernel
theorem dL_law_1557 : decode cL_law 1557 = .ok (.iadd, 1) := by decide +kernel
theorem dL_law_1558 : decode cL_law 1558 = .ok (.iaload, 1) := by decide +kernel
theorem dL_law_1559 : decode cL_law 1559 = .ok (.aload_n 0, 1) := by decide +kernel
theorem dL_law_1560 : decode cL_law 1560 = .ok (.iload 5, 2) := by decide +kernel
theorem dL_law_1562 : decode cL_law 1562 = .ok (.iconst 2, 1) := by decide +kernel
theorem dL_law_1563 : decode cL_law 1563 = .ok (.iadd, 1) := by decide +kernel
theorem dL_law_1564 : decode cL_law 1564 = .ok (.iaload, 1) := by decide +kernel
theorem dL_law_1565 : decode cL_law 1565 = .ok (.invokevirtual 172, 3) := by decide +kernel
theorem dL_law_1568 : decode cL_law 1568 = .ok (.dstore 7, 2) := by decide +kernel
theorem dL_law_1570 : decode cL_law 1570 = .ok (.aload_n 2, 1) := by decide +kernel
theorem dL_law_1571 : decode cL_law 1571 = .ok (.invokevirtual 106, 3) := by decide +kernel
theorem dL_law_1574 : decode cL_law 1574 = .ok (.iload 6, 2) := by decide +kernel
theorem dL_law_1576 : decode cL_law 1576 = .ok (.if_icmp .eq 5, 3) := by decide +kernel
theorem dL_law_1579 : decode cL_law 1579 = .ok (.iconst 0, 1) := by decide +kernel
theorem dL_law_1580 : decode cL_law 1580 = .ok (.ireturn, 1) := by decide +kernel
theorem dL_law_1581 : decode cL_law 1581 = .ok (.iload 6, 2) := by decide +kernel
theorem dL_law_1583 : decode cL_law 1583 = .ok (.ifCond .ne 35, 3) := by decide +kernel
theorem dL_law_1586 : decode cL_law 1586 = .ok (.aload 4, 2) := by decide +kernel
theorem dL_law_1588 : decode cL_law 1588 = .ok (.iconst 0, 1) := by decide +kernel
theorem dL_law_1589 : decode cL_law 1589 = .ok (.daload, 1) := by decide +kernel
theorem dL_law_1590 : decode cL_law 1590 = .ok (.dload 7, 2) := by decide +kernel
theorem dL_law_1592 : decode cL_law 1592 = .ok (.dcmp .l, 1) := by decide +kernel
theorem dL_law_1593 : decode cL_law 1593 = .ok (.ifCond .eq 25, 3) := by decide +kernel
theorem dL_law_1596 : decode cL_law 1596 = .ok (.aload 4, 2) := by decide +kernel
theorem dL_law_1598 : decode cL_law 1598 = .ok (.iconst 0, 1) := by decide +kernel
theorem dL_law_1599 : decode cL_law 1599 = .ok (.daload, 1) := by decide +kernel
theorem dL_law_1600 : decode cL_law 1600 = .ok (.aload 4, 2) := by decide +kernel
theorem dL_law_1602 : decode cL_law 1602 = .ok (.iconst 0, 1) := by decide +kernel
theorem dL_law_1603 : decode cL_law 1603 = .ok (.daload, 1) := by decide +kernel
theorem dL_law_1604 : decode cL_law 1604 = .ok (.dcmp .l, 1) := by decide +kernel
theorem dL_law_1605 : decode cL_law 1605 = .ok (.ifCond .eq 11, 3) := by decide +kernel
theorem dL_law_1608 : decode cL_law 1608 = .ok (.dload 7, 2) := by decide +kernel
theorem dL_law_1610 : decode cL_law 1610 = .ok (.dload 7, 2) := by decide +kernel
theorem dL_law_1612 : decode cL_law 1612 = .ok (.dcmp .l, 1) := by decide +kernel
theorem dL_law_1613 : decode cL_law 1613 = .ok (.ifCond .ne 5, 3) := by decide +kernel
theorem dL_law_1616 : decode cL_law 1616 = .ok (.iconst 0, 1) := by decide +kernel
theorem dL_law_1617 : decode cL_law 1617 = .ok (.ireturn, 1) := by decide +kernel
theorem dL_law_1618 : decode cL_law 1618 = .ok (.goto 160, 3) := by decide +kernel
theorem dL_law_1621 : decode cL_law 1621 = .ok (.aload_n 1, 1) := by decide +kernel
theorem dL_law_1622 : decode cL_law 1622 = .ok (.invokestatic 173, 3) := by decide +kernel
theorem dL_law_1625 : decode cL_law 1625 = .ok (.istore 6, 2) := by decide +kernel
theorem dL_law_1627 : decode cL_law 1627 = .ok (.aload_n 2, 1) := by decide +kernel
theorem dL_law_1628 : decode cL_law 1628 = .ok (.invokevirtual 176, 3) := by decide +kernel
theorem dL_law_1631 : decode cL_law 1631 = .ok (.aload_n 2, 1) := by decide +kernel
theorem dL_law_1632 : decode cL_law 1632 = .ok (.invokevirtual 106, 3) := by decide +kernel
theorem dL_law_1635 : decode cL_law 1635 = .ok (.iload 6, 2) := by decide +kernel
theorem dL_law_1637 : decode cL_law 1637 = .ok (.if_icmp .eq 5, 3) := by decide +kernel
theorem dL_law_1640 : decode cL_law 1640 = .ok (.iconst 0, 1) := by decide +kernel
theorem dL_law_1641 : decode cL_law 1641 = .ok (.ireturn, 1) := by decide +kernel
theorem dL_law_1642 : decode cL_law 1642 = .ok (.goto 136, 3) := by decide +kernel
theorem dL_law_1645 : decode cL_law 1645 = .ok (.aload_n 1, 1) := by decide +kernel
theorem dL_law_1646 : decode cL_law 1646 = .ok (.aload_n 0, 1) := by decide +kernel
theorem dL_law_1647 : decode cL_law 1647 = .ok (.iload 5, 2) := by decide +kernel
theorem dL_law_1649 : decode cL_law 1649 = .ok (.iconst 1, 1) := by decide +kernel
theorem dL_law_1650 : decode cL_law 1650 = .ok (.iadd, 1) := by decide +kernel
theorem dL_law_1651 : decode cL_law 1651 = .ok (.iaload, 1) := by decide +kernel
theorem dL_law_1652 : decode cL_law 1652 = .ok (.aload_n 0, 1) := by decide +kernel
theorem dL_law_1653 : decode cL_law 1653 = .ok (.iload 5, 2) := by decide +kernel
theorem dL_law_1655 : decode cL_law 1655 = .ok (.iconst 2, 1) := by decide +kernel
theorem dL_law_1656 : decode cL_law 1656 = .ok (.iadd, 1) := by decide +kernel
theorem dL_law_1657 : decode cL_law 1657 = .ok (.iaload, 1) := by decide +kernel
theorem dL_law_1658 : decode cL_law 1658 = .ok (.aload_n 3, 1) := by decide +kernel
theorem dL_law_1659 : decode cL_law 1659 = .ok (.invokestatic 177, 3) := by decide +kernel
theorem dL_law_1662 : decode cL_law 1662 = .ok (.istore 6, 2) := by decide +kernel
theorem dL_law_1664 : decode cL_law 1664 = .ok (.aload_n 2, 1) := by decide +kernel
theorem dL_law_1665 : decode cL_law 1665 = .ok (.aload_n 0, 1) := by decide +kernel
theorem dL_law_1666 : decode cL_law 1666 = .ok (.iload 5, 2) := by decide +kernel
theorem dL_law_1668 : decode cL_law 1668 = .ok (.iconst 1, 1) := by decide +kernel
theorem dL_law_1669 : decode cL_law 1669 = .ok (.iadd, 1) := by decide +kernel
theorem dL_law_1670 : decode cL_law 1670 = .ok (.iaload, 1) := by decide +kernel
theorem dL_law_1671 : decode cL_law 1671 = .ok (.aload_n 0, 1) := by decide +kernel
theorem dL_law_1672 : decode cL_law 1672 = .ok (.iload 5, 2) := by decide +kernel
theorem dL_law_1674 : decode cL_law 1674 = .ok (.iconst 2, 1) := by decide +kernel
theorem dL_law_1675 : decode cL_law 1675 = .ok (.iadd, 1) := by decide +kernel
theorem dL_law_1676 : decode cL_law 1676 = .ok (.iaload, 1) := by decide +kernel
theorem dL_law_1677 : decode cL_law 1677 = .ok (.invokevirtual 179, 3) := by decide +kernel
theorem dL_law_1680 : decode cL_law 1680 = .ok (.lstore 7, 2) := by decide +kernel
theorem dL_law_1682 : decode cL_law 1682 = .ok (.aload_n 2, 1) := by decide +kernel
theorem dL_law_1683 : decode cL_law 1683 = .ok (.invokevirtual 106, 3) := by decide +kernel
theorem dL_law_1686 : decode cL_law 1686 = .ok (.iload 6, 2) := by decide +kernel
theorem dL_law_1688 : decode cL_law 1688 = .ok (.if_icmp .eq 5, 3) := by decide +kernel
theorem dL_law_1691 : decode cL_law 1691 = .ok (.iconst 0, 1) := by decide +kernel
theorem dL_law_1692 : decode cL_law 1692 = .ok (.ireturn, 1) := by decide +kernel
theorem dL_law_1693 : decode cL_law 1693 = .ok (.iload 6, 2) := by decide +kernel
theorem dL_law_1695 : decode cL_law 1695 = .ok (.ifCond .ne 14, 3) := by decide +kernel
theorem dL_law_1698 : decode cL_law 1698 = .ok (.aload_n 3, 1) := by decide +kernel
theorem dL_law_1699 : decode cL_law 1699 = .ok (.iconst 0, 1) := by decide +kernel
theorem dL_law_1700 : decode cL_law 1700 = .ok (.laload, 1) := by decide +kernel
theorem dL_law_1701 : decode cL_law 1701 = .ok (.lload 7, 2) := by decide +kernel
theorem dL_law_1703 : decode cL_law 1703 = .ok (.lcmp, 1) := by decide +kernel
theorem dL_law_1704 : decode cL_law 1704 = .ok (.ifCond .eq 5, 3) := by decide +kernel
theorem dL_law_1707 : decode cL_law 1707 = .ok (.iconst 0, 1) := by decide +kernel
theorem dL_law_1708 : decode cL_law 1708 = .ok (.ireturn, 1) := by decide +kernel
theorem dL_law_1709 : decode cL_law 1709 = .ok (.goto 69, 3) := by decide +kernel
theorem dL_law_1712 : decode cL_law 1712 = .ok (.aload_n 1, 1) := by decide +kernel
theorem dL_law_1713 : decode cL_law 1713 = .ok (.aload_n 0, 1) := by decide +kernel
theorem dL_law_1714 : decode cL_law 1714 = .ok (.iload 5, 2) := by decide +kernel
theorem dL_law_1716 : decode cL_law 1716 = .ok (.iconst 1, 1) := by decide +kernel
theorem dL_law_1717 : decode cL_law 1717 = .ok (.iadd, 1) := by decide +kernel
theorem dL_law_1718 : decode cL_law 1718 = .ok (.iaload, 1) := by decide +kernel
theorem dL_law_1719 : decode cL_law 1719 = .ok (.invokevirtual 180, 3) := by decide +kernel
theorem dL_law_1722 : decode cL_law 1722 = .ok (.aload_n 2, 1) := by decide +kernel
theorem dL_law_1723 : decode cL_law 1723 = .ok (.aload_n 0, 1) := by decide +kernel
theorem dL_law_1724 : decode cL_law 1724 = .ok (.iload 5, 2) := by decide +kernel
theorem dL_law_1726 : decode cL_law 1726 = .ok (.iconst 1, 1) := by decide +kernel
theorem dL_law_1727 : decode cL_law 1727 = .ok (.iadd, 1) := by decide +kernel
theorem dL_law_1728 : decode cL_law 1728 = .ok (.iaload, 1) := by decide +kernel
theorem dL_law_1729 : decode cL_law 1729 = .ok (.invokevirtual 184, 3) := by decide +kernel
theorem dL_law_1732 : decode cL_law 1732 = .ok (.if_icmp .eq 46, 3) := by decide +kernel
theorem dL_law_1735 : decode cL_law 1735 = .ok (.iconst 0, 1) := by decide +kernel
theorem dL_law_1736 : decode cL_law 1736 = .ok (.ireturn, 1) := by decide +kernel
theorem dL_law_1737 : decode cL_law 1737 = .ok (.aload_n 1, 1) := by decide +kernel
theorem dL_law_1738 : decode cL_law 1738 = .ok (.invokevirtual 185, 3) := by decide +kernel
theorem dL_law_1741 : decode cL_law 1741 = .ok (.dstore 6, 2) := by decide +kernel
theorem dL_law_1743 : decode cL_law 1743 = .ok (.aload_n 2, 1) := by decide +kernel
theorem dL_law_1744 : decode cL_law 1744 = .ok (.invokevirtual 189, 3) := by decide +kernel
theorem dL_law_1747 : decode cL_law 1747 = .ok (.dstore 8, 2) := by decide +kernel
theorem dL_law_1749 : decode cL_law 1749 = .ok (.dload 6, 2) := by decide +kernel
theorem dL_law_1751 : decode cL_law 1751 = .ok (.dload 8, 2) := by decide +kernel
theorem dL_law_1753 : decode cL_law 1753 = .ok (.dcmp .l, 1) := by decide +kernel
theorem dL_law_1754 : decode cL_law 1754 = .ok (.ifCond .eq 21, 3) := by decide +kernel
theorem dL_law_1757 : decode cL_law 1757 = .ok (.dload 6, 2) := by decide +kernel
theorem dL_law_1759 : decode cL_law 1759 = .ok (.dload 6, 2) := by decide +kernel
theorem dL_law_1761 : decode cL_law 1761 = .ok (.dcmp .l, 1) := by decide +kernel
theorem dL_law_1762 : decode cL_law 1762 = .ok (.ifCond .eq 11, 3) := by decide +kernel
theorem dL_law_1765 : decode cL_law 1765 = .ok (.dload 8, 2) := by decide +kernel
theorem dL_law_1767 : decode cL_law 1767 = .ok (.dload 8, 2) := by decide +kernel
theorem dL_law_1769 : decode cL_law 1769 = .ok (.dcmp .l, 1) := by decide +kernel
theorem dL_law_1770 : decode cL_law 1770 = .ok (.ifCond .ne 5, 3) := by decide +kernel
theorem dL_law_1773 : decode cL_law 1773 = .ok (.iconst 0, 1) := by decide +kernel
theorem dL_law_1774 : decode cL_law 1774 = .ok (.ireturn, 1) := by decide +kernel
theorem dL_law_1775 : decode cL_law 1775 = .ok (.goto 3, 3) := by decide +kernel
theorem dL_law_1778 : decode cL_law 1778 = .ok (.iinc 5 8, 3) := by decide +kernel
theorem dL_law_1781 : decode cL_law 1781 = .ok (.goto (-1743), 3) := by decide +kernel
theorem dL_law_1784 : decode cL_law 1784 = .ok (.iconst 1, 1) := by decide +kernel
theorem dL_law_1785 : decode cL_law 1785 = .ok (.ireturn, 1) := by decide +kernel
