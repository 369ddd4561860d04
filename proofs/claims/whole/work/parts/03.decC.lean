theorem dX0_init_0 : decode cX0_init 0 = .ok (.aload_n 0, 1) := by decide +kernel
theorem dX0_init_1 : decode cX0_init 1 = .ok (.invokespecial 3, 3) := by decide +kernel
theorem dX0_init_4 : decode cX0_init 4 = .ok (.aload_n 0, 1) := by decide +kernel
theorem dX0_init_5 : decode cX0_init 5 = .ok (.bipush 6, 2) := by decide +kernel
theorem dX0_init_7 : decode cX0_init 7 = .ok (.newarray .int, 2) := by decide +kernel
theorem dX0_init_9 : decode cX0_init 9 = .ok (.putfield 9, 3) := by decide +kernel
theorem dX0_init_12 : decode cX0_init 12 = .ok (.aload_n 0, 1) := by decide +kernel
theorem dX0_init_13 : decode cX0_init 13 = .ok (.bipush 6, 2) := by decide +kernel
theorem dX0_init_15 : decode cX0_init 15 = .ok (.newarray .boolean, 2) := by decide +kernel
theorem dX0_init_17 : decode cX0_init 17 = .ok (.putfield 15, 3) := by decide +kernel
theorem dX0_init_20 : decode cX0_init 20 = .ok (.aload_n 0, 1) := by decide +kernel
theorem dX0_init_21 : decode cX0_init 21 = .ok (.invokevirtual 19, 3) := by decide +kernel
theorem dX0_init_24 : decode cX0_init 24 = .ok (.return_, 1) := by decide +kernel
theorem dX0_reset_0 : decode cX0_reset 0 = .ok (.aload_n 0, 1) := by decide +kernel
theorem dX0_reset_1 : decode cX0_reset 1 = .ok (.getfield 9, 3) := by decide +kernel
theorem dX0_reset_4 : decode cX0_reset 4 = .ok (.iconst 1, 1) := by decide +kernel
theorem dX0_reset_5 : decode cX0_reset 5 = .ok (.invokestatic 22, 3) := by decide +kernel
theorem dX0_reset_8 : decode cX0_reset 8 = .ok (.iconst 0, 1) := by decide +kernel
theorem dX0_reset_9 : decode cX0_reset 9 = .ok (.istore_n 1, 1) := by decide +kernel
theorem dX0_reset_10 : decode cX0_reset 10 = .ok (.iload_n 1, 1) := by decide +kernel
theorem dX0_reset_11 : decode cX0_reset 11 = .ok (.bipush 6, 2) := by decide +kernel
theorem dX0_reset_13 : decode cX0_reset 13 = .ok (.if_icmp .ge 16, 3) := by decide +kernel
theorem dX0_reset_16 : decode cX0_reset 16 = .ok (.aload_n 0, 1) := by decide +kernel
theorem dX0_reset_17 : decode cX0_reset 17 = .ok (.getfield 15, 3) := by decide +kernel
theorem dX0_reset_20 : decode cX0_reset 20 = .ok (.iload_n 1, 1) := by decide +kernel
theorem dX0_reset_21 : decode cX0_reset 21 = .ok (.iconst 0, 1) := by decide +kernel
theorem dX0_reset_22 : decode cX0_reset 22 = .ok (.bastore, 1) := by decide +kernel
theorem dX0_reset_23 : decode cX0_reset 23 = .ok (.iinc 1 1, 3) := by decide +kernel
theorem dX0_reset_26 : decode cX0_reset 26 = .ok (.goto (-16), 3) := by decide +kernel
theorem dX0_reset_29 : decode cX0_reset 29 = .ok (.aload_n 0, 1) := by decide +kernel
theorem dX0_reset_30 : decode cX0_reset 30 = .ok (.iconst 0, 1) := by decide +kernel
theorem dX0_reset_31 : decode cX0_reset 31 = .ok (.putfield 28, 3) := by decide +kernel
theorem dX0_reset_34 : decode cX0_reset 34 = .ok (.aload_n 0, 1) := by decide +kernel
theorem dX0_reset_35 : decode cX0_reset 35 = .ok (.bipush 12, 2) := by decide +kernel
theorem dX0_reset_37 : decode cX0_reset 37 = .ok (.putfield 32, 3) := by decide +kernel
theorem dX0_reset_40 : decode cX0_reset 40 = .ok (.aload_n 0, 1) := by decide +kernel
theorem dX0_reset_41 : decode cX0_reset 41 = .ok (.iconst 1, 1) := by decide +kernel
theorem dX0_reset_42 : decode cX0_reset 42 = .ok (.putfield 35, 3) := by decide +kernel
theorem dX0_reset_45 : decode cX0_reset 45 = .ok (.return_, 1) := by decide +kernel
theorem dX1_init_0 : decode cX1_init 0 = .ok (.aload_n 0, 1) := by decide +kernel
theorem dX1_init_1 : decode cX1_init 1 = .ok (.invokespecial 3, 3) := by decide +kernel
theorem dX1_init_4 : decode cX1_init 4 = .ok (.aload_n 0, 1) := by decide +kernel
theorem dX1_init_5 : decode cX1_init 5 = .ok (.iconst 0, 1) := by decide +kernel
theorem dX1_init_6 : decode cX1_init 6 = .ok (.putfield 9, 3) := by decide +kernel
theorem dX1_init_9 : decode cX1_init 9 = .ok (.aload_n 0, 1) := by decide +kernel
theorem dX1_init_10 : decode cX1_init 10 = .ok (.iconst (-1), 1) := by decide +kernel
theorem dX1_init_11 : decode cX1_init 11 = .ok (.putfield 15, 3) := by decide +kernel
theorem dX1_init_14 : decode cX1_init 14 = .ok (.aload_n 0, 1) := by decide +kernel
theorem dX1_init_15 : decode cX1_init 15 = .ok (.iconst 0, 1) := by decide +kernel
theorem dX1_init_16 : decode cX1_init 16 = .ok (.putfield 18, 3) := by decide +kernel
theorem dX1_init_19 : decode cX1_init 19 = .ok (.aload_n 0, 1) := by decide +kernel
theorem dX1_init_20 : decode cX1_init 20 = .ok (.iconst 0, 1) := by decide +kernel
theorem dX1_init_21 : decode cX1_init 21 = .ok (.putfield 21, 3) := by decide +kernel
theorem dX1_init_24 : decode cX1_init 24 = .ok (.aload_n 0, 1) := by decide +kernel
theorem dX1_init_25 : decode cX1_init 25 = .ok (.iconst 0, 1) := by decide +kernel
theorem dX1_init_26 : decode cX1_init 26 = .ok (.putfield 24, 3) := by decide +kernel
theorem dX1_init_29 : decode cX1_init 29 = .ok (.aload_n 0, 1) := by decide +kernel
theorem dX1_init_30 : decode cX1_init 30 = .ok (.iconst 0, 1) := by decide +kernel
theorem dX1_init_31 : decode cX1_init 31 = .ok (.putfield 27, 3) := by decide +kernel
theorem dX1_init_34 : decode cX1_init 34 = .ok (.aload_n 0, 1) := by decide +kernel
theorem dX1_init_35 : decode cX1_init 35 = .ok (.iconst (-1), 1) := by decide +kernel
theorem dX1_init_36 : decode cX1_init 36 = .ok (.putfield 30, 3) := by decide +kernel
theorem dX1_init_39 : decode cX1_init 39 = .ok (.aload_n 0, 1) := by decide +kernel
theorem dX1_init_40 : decode cX1_init 40 = .ok (.aload_n 1, 1) := by decide +kernel
theorem dX1_init_41 : decode cX1_init 41 = .ok (.putfield 33, 3) := by decide +kernel
theorem dX1_init_44 : decode cX1_init 44 = .ok (.return_, 1) := by decide +kernel
theorem dX1_read_0 : decode cX1_read 0 = .ok (.aload_n 0, 1) := by decide +kernel
theorem dX1_read_1 : decode cX1_read 1 = .ok (.iconst 0, 1) := by decide +kernel
theorem dX1_read_2 : decode cX1_read 2 = .ok (.putfield 9, 3) := by decide +kernel
theorem dX1_read_5 : decode cX1_read 5 = .ok (.aload_n 0, 1) := by decide +kernel
theorem dX1_read_6 : decode cX1_read 6 = .ok (.iconst (-1), 1) := by decide +kernel
theorem dX1_read_7 : decode cX1_read 7 = .ok (.putfield 15, 3) := by decide +kernel
theorem dX1_read_10 : decode cX1_read 10 = .ok (.aload_n 0, 1) := by decide +kernel
theorem dX1_read_11 : decode cX1_read 11 = .ok (.iconst 0, 1) := by decide +kernel
theorem dX1_read_12 : decode cX1_read 12 = .ok (.putfield 18, 3) := by decide +kernel
theorem dX1_read_15 : decode cX1_read 15 = .ok (.aload_n 0, 1) := by decide +kernel
theorem dX1_read_16 : decode cX1_read 16 = .ok (.iconst 0, 1) := by decide +kernel
theorem dX1_read_17 : decode cX1_read 17 = .ok (.putfield 21, 3) := by decide +kernel
theorem dX1_read_20 : decode cX1_read 20 = .ok (.aload_n 1, 1) := by decide +kernel
theorem dX1_read_21 : decode cX1_read 21 = .ok (.invokevirtual 37, 3) := by decide +kernel
theorem dX1_read_24 : decode cX1_read 24 = .ok (.aload_n 0, 1) := by decide +kernel
theorem dX1_read_25 : decode cX1_read 25 = .ok (.invokevirtual 42, 3) := by decide +kernel
theorem dX1_read_28 : decode cX1_read 28 = .ok (.iconst 0, 1) := by decide +kernel
theorem dX1_read_29 : decode cX1_read 29 = .ok (.istore_n 2, 1) := by decide +kernel
theorem dX1_read_30 : decode cX1_read 30 = .ok (.iload_n 2, 1) := by decide +kernel
theorem dX1_read_31 : decode cX1_read 31 = .ok (.bipush 20, 2) := by decide +kernel
theorem dX1_read_33 : decode cX1_read 33 = .ok (.if_icmp .gt 28, 3) := by decide +kernel
theorem dX1_read_36 : decode cX1_read 36 = .ok (.aload_n 0, 1) := by decide +kernel
theorem dX1_read_37 : decode cX1_read 37 = .ok (.getfield 9, 3) := by decide +kernel
theorem dX1_read_40 : decode cX1_read 40 = .ok (.ifCond .ne 21, 3) := by decide +kernel
theorem dX1_read_43 : decode cX1_read 43 = .ok (.aload_n 0, 1) := by decide +kernel
theorem dX1_read_44 : decode cX1_read 44 = .ok (.getfield 24, 3) := by decide +kernel
theorem dX1_read_47 : decode cX1_read 47 = .ok (.ifCond .eq 14, 3) := by decide +kernel
theorem dX1_read_50 : decode cX1_read 50 = .ok (.aload_n 0, 1) := by decide +kernel
theorem dX1_read_51 : decode cX1_read 51 = .ok (.aload_n 1, 1) := by decide +kernel
theorem dX1_read_52 : decode cX1_read 52 = .ok (.invokevirtual 45, 3) := by decide +kernel
theorem dX1_read_55 : decode cX1_read 55 = .ok (.iinc 2 1, 3) := by decide +kernel
theorem dX1_read_58 : decode cX1_read 58 = .ok (.goto (-28), 3) := by decide +kernel
theorem dX1_read_61 : decode cX1_read 61 = .ok (.return_, 1) := by decide +kernel
theorem dX1_readLine_0 : decode cX1_readLine 0 = .ok (.aload_n 0, 1) := by decide +kernel
theorem dX1_readLine_1 : decode cX1_readLine 1 = .ok (.getfield 24, 3) := by decide +kernel
theorem dX1_readLine_4 : decode cX1_readLine 4 = .ok (.iconst 1, 1) := by decide +kernel
theorem dX1_readLine_5 : decode cX1_readLine 5 = .ok (.if_icmp .ne 10, 3) := by decide +kernel
theorem dX1_readLine_8 : decode cX1_readLine 8 = .ok (.aload_n 0, 1) := by decide +kernel
theorem dX1_readLine_9 : decode cX1_readLine 9 = .ok (.getfield 30, 3) := by decide +kernel
theorem dX1_readLine_12 : decode cX1_readLine 12 = .ok (.goto 4, 3) := by decide +kernel
theorem dX1_readLine_15 : decode cX1_readLine 15 = .ok (.iconst (-1), 1) := by decide +kernel
theorem dX1_readLine_16 : decode cX1_readLine 16 = .ok (.istore_n 2, 1) := by decide +kernel
theorem dX1_readLine_17 : decode cX1_readLine 17 = .ok (.aload_n 0, 1) := by decide +kernel
theorem dX1_readLine_18 : decode cX1_readLine 18 = .ok (.iload_n 2, 1) := by decide +kernel
theorem dX1_readLine_19 : decode cX1_readLine 19 = .ok (.bipush 6, 2) := by decide +kernel
theorem dX1_readLine_21 : decode cX1_readLine 21 = .ok (.if_icmp .lt 7, 3) := by decide +kernel
theorem dX1_readLine_24 : decode cX1_readLine 24 = .ok (.iconst 1, 1) := by decide +kernel
theorem dX1_readLine_25 : decode cX1_readLine 25 = .ok (.goto 4, 3) := by decide +kernel
theorem dX1_readLine_28 : decode cX1_readLine 28 = .ok (.iconst 0, 1) := by decide +kernel
theorem dX1_readLine_29 : decode cX1_readLine 29 = .ok (.iconst 1, 1) := by decide +kernel
theorem dX1_readLine_30 : decode cX1_readLine 30 = .ok (.invokevirtual 49, 3) := by decide +kernel
theorem dX1_readLine_33 : decode cX1_readLine 33 = .ok (.aload_n 0, 1) := by decide +kernel
theorem dX1_readLine_34 : decode cX1_readLine 34 = .ok (.aload_n 0, 1) := by decide +kernel
theorem dX1_readLine_35 : decode cX1_readLine 35 = .ok (.getfield 18, 3) := by decide +kernel
theorem dX1_readLine_38 : decode cX1_readLine 38 = .ok (.bipush 20, 2) := by decide +kernel
theorem dX1_readLine_40 : decode cX1_readLine 40 = .ok (.if_icmp .ge 7, 3) := by decide +kernel
theorem dX1_readLine_43 : decode cX1_readLine 43 = .ok (.iconst 1, 1) := by decide +kernel
theorem dX1_readLine_44 : decode cX1_readLine 44 = .ok (.goto 4, 3) := by decide +kernel
theorem dX1_readLine_47 : decode cX1_readLine 47 = .ok (.iconst 0, 1) := by decide +kernel
theorem dX1_readLine_48 : decode cX1_readLine 48 = .ok (.iconst 3, 1) := by decide +kernel
theorem dX1_readLine_49 : decode cX1_readLine 49 = .ok (.invokevirtual 49, 3) := by decide +kernel
theorem dX1_readLine_52 : decode cX1_readLine 52 = .ok (.aload_n 0, 1) := by decide +kernel
theorem dX1_readLine_53 : decode cX1_readLine 53 = .ok (.invokevirtual 42, 3) := by decide +kernel
theorem dX1_readLine_56 : decode cX1_readLine 56 = .ok (.iconst (-1), 1) := by decide +kernel
theorem dX1_readLine_57 : decode cX1_readLine 57 = .ok (.istore_n 3, 1) := by decide +kernel
theorem dX1_readLine_58 : decode cX1_readLine 58 = .ok (.iconst (-1), 1) := by decide +kernel
theorem dX1_readLine_59 : decode cX1_readLine 59 = .ok (.istore 4, 2) := by decide +kernel
theorem dX1_readLine_61 : decode cX1_readLine 61 = .ok (.iload_n 2, 1) := by decide +kernel
theorem dX1_readLine_62 : decode cX1_readLine 62 = .ok (.bipush 6, 2) := by decide +kernel
theorem dX1_readLine_64 : decode cX1_readLine 64 = .ok (.if_icmp .eq 9, 3) := by decide +kernel
theorem dX1_readLine_67 : decode cX1_readLine 67 = .ok (.iload_n 2, 1) := by decide +kernel
theorem dX1_readLine_68 : decode cX1_readLine 68 = .ok (.bipush 10, 2) := by decide +kernel
theorem dX1_readLine_70 : decode cX1_readLine 70 = .ok (.if_icmp .ne 12, 3) := by decide +kernel
theorem dX1_readLine_73 : decode cX1_readLine 73 = .ok (.aload_n 0, 1) := by decide +kernel
theorem dX1_readLine_74 : decode cX1_readLine 74 = .ok (.invokevirtual 53, 3) := by decide +kernel
theorem dX1_readLine_77 : decode cX1_readLine 77 = .ok (.istore_n 3, 1) := by decide +kernel
theorem dX1_readLine_78 : decode cX1_readLine 78 = .ok (.aload_n 0, 1) := by decide +kernel
theorem dX1_readLine_79 : decode cX1_readLine 79 = .ok (.invokevirtual 42, 3) := by decide +kernel
theorem dX1_readLine_82 : decode cX1_readLine 82 = .ok (.iload_n 2, 1) := by decide +kernel
theorem dX1_readLine_83 : decode cX1_readLine 83 = .ok (.bipush 10, 2) := by decide +kernel
theorem dX1_readLine_85 : decode cX1_readLine 85 = .ok (.if_icmp .eq 14, 3) := by decide +kernel
theorem dX1_readLine_88 : decode cX1_readLine 88 = .ok (.aload_n 0, 1) := by decide +kernel
theorem dX1_readLine_89 : decode cX1_readLine 89 = .ok (.iload_n 2, 1) := by decide +kernel
theorem dX1_readLine_90 : decode cX1_readLine 90 = .ok (.invokevirtual 57, 3) := by decide +kernel
theorem dX1_readLine_93 : decode cX1_readLine 93 = .ok (.istore 4, 2) := by decide +kernel
theorem dX1_readLine_95 : decode cX1_readLine 95 = .ok (.aload_n 0, 1) := by decide +kernel
theorem dX1_readLine_96 : decode cX1_readLine 96 = .ok (.invokevirtual 42, 3) := by decide +kernel
theorem dX1_readLine_99 : decode cX1_readLine 99 = .ok (.aload_n 0, 1) := by decide +kernel
theorem dX1_readLine_100 : decode cX1_readLine 100 = .ok (.aload_n 0, 1) := by decide +kernel
theorem dX1_readLine_101 : decode cX1_readLine 101 = .ok (.getfield 24, 3) := by decide +kernel
theorem dX1_readLine_104 : decode cX1_readLine 104 = .ok (.iconst 3, 1) := by decide +kernel
theorem dX1_readLine_105 : decode cX1_readLine 105 = .ok (.if_icmp .ne 7, 3) := by decide +kernel
theorem dX1_readLine_108 : decode cX1_readLine 108 = .ok (.iconst 1, 1) := by decide +kernel
theorem dX1_readLine_109 : decode cX1_readLine 109 = .ok (.goto 4, 3) := by decide +kernel
theorem dX1_readLine_112 : decode cX1_readLine 112 = .ok (.iconst 0, 1) := by decide +kernel
theorem dX1_readLine_113 : decode cX1_readLine 113 = .ok (.iconst 1, 1) := by decide +kernel
theorem dX1_readLine_114 : decode cX1_readLine 114 = .ok (.invokevirtual 49, 3) := by decide +kernel
theorem dX1_readLine_117 : decode cX1_readLine 117 = .ok (.aload_n 0, 1) := by decide +kernel
theorem dX1_readLine_118 : decode cX1_readLine 118 = .ok (.invokevirtual 42, 3) := by decide +kernel
theorem dX1_readLine_121 : decode cX1_readLine 121 = .ok (.aload_n 0, 1) := by decide +kernel
theorem dX1_readLine_122 : decode cX1_readLine 122 = .ok (.getfield 9, 3) := by decide +kernel
theorem dX1_readLine_125 : decode cX1_readLine 125 = .ok (.ifCond .ne 21, 3) := by decide +kernel
theorem dX1_readLine_128 : decode cX1_readLine 128 = .ok (.aload_n 0, 1) := by decide +kernel
theorem dX1_readLine_129 : decode cX1_readLine 129 = .ok (.dup, 1) := by decide +kernel
theorem dX1_readLine_130 : decode cX1_readLine 130 = .ok (.getfield 18, 3) := by decide +kernel
theorem dX1_readLine_133 : decode cX1_readLine 133 = .ok (.iconst 1, 1) := by decide +kernel
theorem dX1_readLine_134 : decode cX1_readLine 134 = .ok (.iadd, 1) := by decide +kernel
theorem dX1_readLine_135 : decode cX1_readLine 135 = .ok (.putfield 18, 3) := by decide +kernel
theorem dX1_readLine_138 : decode cX1_readLine 138 = .ok (.aload_n 1, 1) := by decide +kernel
theorem dX1_readLine_139 : decode cX1_readLine 139 = .ok (.iload_n 2, 1) := by decide +kernel
theorem dX1_readLine_140 : decode cX1_readLine 140 = .ok (.iload_n 3, 1) := by decide +kernel
theorem dX1_readLine_141 : decode cX1_readLine 141 = .ok (.iload 4, 2) := by decide +kernel
theorem dX1_readLine_143 : decode cX1_readLine 143 = .ok (.invokestatic 61, 3) := by decide +kernel
theorem dX1_readLine_146 : decode cX1_readLine 146 = .ok (.return_, 1) := by decide +kernel
theorem dX1_kindHere_0 : decode cX1_kindHere 0 = .ok (.aload_n 0, 1) := by decide +kernel
theorem dX1_kindHere_1 : decode cX1_kindHere 1 = .ok (.aload_n 0, 1) := by decide +kernel
theorem dX1_kindHere_2 : decode cX1_kindHere 2 = .ok (.getfield 24, 3) := by decide +kernel
theorem dX1_kindHere_5 : decode cX1_kindHere 5 = .ok (.iconst 1, 1) := by decide +kernel
theorem dX1_kindHere_6 : decode cX1_kindHere 6 = .ok (.if_icmp .ne 16, 3) := by decide +kernel
theorem dX1_kindHere_9 : decode cX1_kindHere 9 = .ok (.aload_n 0, 1) := by decide +kernel
theorem dX1_kindHere_10 : decode cX1_kindHere 10 = .ok (.getfield 30, 3) := by decide +kernel
theorem dX1_kindHere_13 : decode cX1_kindHere 13 = .ok (.bipush 6, 2) := by decide +kernel
theorem dX1_kindHere_15 : decode cX1_kindHere 15 = .ok (.if_icmp .ge 7, 3) := by decide +kernel
theorem dX1_kindHere_18 : decode cX1_kindHere 18 = .ok (.iconst 1, 1) := by decide +kernel
theorem dX1_kindHere_19 : decode cX1_kindHere 19 = .ok (.goto 4, 3) := by decide +kernel
theorem dX1_kindHere_22 : decode cX1_kindHere 22 = .ok (.iconst 0, 1) := by decide +kernel
theorem dX1_kindHere_23 : decode cX1_kindHere 23 = .ok (.iconst 1, 1) := by decide +kernel
theorem dX1_kindHere_24 : decode cX1_kindHere 24 = .ok (.invokevirtual 49, 3) := by decide +kernel
theorem dX1_kindHere_27 : decode cX1_kindHere 27 = .ok (.aload_n 0, 1) := by decide +kernel
theorem dX1_kindHere_28 : decode cX1_kindHere 28 = .ok (.getfield 30, 3) := by decide +kernel
theorem dX1_kindHere_31 : decode cX1_kindHere 31 = .ok (.ireturn, 1) := by decide +kernel
theorem dX1_numberHere_0 : decode cX1_numberHere 0 = .ok (.aload_n 0, 1) := by decide +kernel
theorem dX1_numberHere_1 : decode cX1_numberHere 1 = .ok (.aload_n 0, 1) := by decide +kernel
theorem dX1_numberHere_2 : decode cX1_numberHere 2 = .ok (.getfield 24, 3) := by decide +kernel
theorem dX1_numberHere_5 : decode cX1_numberHere 5 = .ok (.iconst 2, 1) := by decide +kernel
theorem dX1_numberHere_6 : decode cX1_numberHere 6 = .ok (.if_icmp .ne 7, 3) := by decide +kernel
theorem dX1_numberHere_9 : decode cX1_numberHere 9 = .ok (.iconst 1, 1) := by decide +kernel
theorem dX1_numberHere_10 : decode cX1_numberHere 10 = .ok (.goto 4, 3) := by decide +kernel
theorem dX1_numberHere_13 : decode cX1_numberHere 13 = .ok (.iconst 0, 1) := by decide +kernel
theorem dX1_numberHere_14 : decode cX1_numberHere 14 = .ok (.iconst 1, 1) := by decide +kernel
theorem dX1_numberHere_15 : decode cX1_numberHere 15 = .ok (.invokevirtual 49, 3) := by decide +kernel
theorem dX1_numberHere_18 : decode cX1_numberHere 18 = .ok (.aload_n 0, 1) := by decide +kernel
theorem dX1_numberHere_19 : decode cX1_numberHere 19 = .ok (.iload_n 1, 1) := by decide +kernel
theorem dX1_numberHere_20 : decode cX1_numberHere 20 = .ok (.aload_n 0, 1) := by decide +kernel
theorem dX1_numberHere_21 : decode cX1_numberHere 21 = .ok (.getfield 30, 3) := by decide +kernel
theorem dX1_numberHere_24 : decode cX1_numberHere 24 = .ok (.invokestatic 65, 3) := by decide +kernel
theorem dX1_numberHere_27 : decode cX1_numberHere 27 = .ok (.iconst 2, 1) := by decide +kernel
theorem dX1_numberHere_28 : decode cX1_numberHere 28 = .ok (.invokevirtual 49, 3) := by decide +kernel
theorem dX1_numberHere_31 : decode cX1_numberHere 31 = .ok (.aload_n 0, 1) := by decide +kernel
theorem dX1_numberHere_32 : decode cX1_numberHere 32 = .ok (.getfield 30, 3) := by decide +kernel
theorem dX1_numberHere_35 : decode cX1_numberHere 35 = .ok (.ireturn, 1) := by decide +kernel
theorem dX1_demand_0 : decode cX1_demand 0 = .ok (.iload_n 1, 1) := by decide +kernel
theorem dX1_demand_1 : decode cX1_demand 1 = .ok (.ifCond .ne 23, 3) := by decide +kernel
theorem dX1_demand_4 : decode cX1_demand 4 = .ok (.aload_n 0, 1) := by decide +kernel
theorem dX1_demand_5 : decode cX1_demand 5 = .ok (.getfield 9, 3) := by decide +kernel
theorem dX1_demand_8 : decode cX1_demand 8 = .ok (.ifCond .ne 16, 3) := by decide +kernel
theorem dX1_demand_11 : decode cX1_demand 11 = .ok (.aload_n 0, 1) := by decide +kernel
theorem dX1_demand_12 : decode cX1_demand 12 = .ok (.iload_n 2, 1) := by decide +kernel
theorem dX1_demand_13 : decode cX1_demand 13 = .ok (.putfield 9, 3) := by decide +kernel
theorem dX1_demand_16 : decode cX1_demand 16 = .ok (.aload_n 0, 1) := by decide +kernel
theorem dX1_demand_17 : decode cX1_demand 17 = .ok (.aload_n 0, 1) := by decide +kernel
theorem dX1_demand_18 : decode cX1_demand 18 = .ok (.getfield 27, 3) := by decide +kernel
theorem dX1_demand_21 : decode cX1_demand 21 = .ok (.putfield 15, 3) := by decide +kernel
theorem dX1_demand_24 : decode cX1_demand 24 = .ok (.return_, 1) := by decide +kernel
theorem dX1_fits_0 : decode cX1_fits 0 = .ok (.iload_n 0, 1) := by decide +kernel
theorem dX1_fits_1 : decode cX1_fits 1 = .ok (.lookupswitch 49 #[(6, 27), (8, 39)], 27) := by decide +kernel
theorem dX1_fits_28 : decode cX1_fits 28 = .ok (.iload_n 1, 1) := by decide +kernel
theorem dX1_fits_29 : decode cX1_fits 29 = .ok (.bipush 20, 2) := by decide +kernel
theorem dX1_fits_31 : decode cX1_fits 31 = .ok (.if_icmp .gt 7, 3) := by decide +kernel
theorem dX1_fits_34 : decode cX1_fits 34 = .ok (.iconst 1, 1) := by decide +kernel
theorem dX1_fits_35 : decode cX1_fits 35 = .ok (.goto 4, 3) := by decide +kernel
theorem dX1_fits_38 : decode cX1_fits 38 = .ok (.iconst 0, 1) := by decide +kernel
theorem dX1_fits_39 : decode cX1_fits 39 = .ok (.ireturn, 1) := by decide +kernel
theorem dX1_fits_40 : decode cX1_fits 40 = .ok (.iload_n 1, 1) := by decide +kernel
theorem dX1_fits_41 : decode cX1_fits 41 = .ok (.ifCond .le 7, 3) := by decide +kernel
theorem dX1_fits_44 : decode cX1_fits 44 = .ok (.iconst 1, 1) := by decide +kernel
theorem dX1_fits_45 : decode cX1_fits 45 = .ok (.goto 4, 3) := by decide +kernel
theorem dX1_fits_48 : decode cX1_fits 48 = .ok (.iconst 0, 1) := by decide +kernel
theorem dX1_fits_49 : decode cX1_fits 49 = .ok (.ireturn, 1) := by decide +kernel
theorem dX1_fits_50 : decode cX1_fits 50 = .ok (.iload_n 1, 1) := by decide +kernel
theorem dX1_fits_51 : decode cX1_fits 51 = .ok (.bipush 9, 2) := by decide +kernel
theorem dX1_fits_53 : decode cX1_fits 53 = .ok (.if_icmp .gt 7, 3) := by decide +kernel
theorem dX1_fits_56 : decode cX1_fits 56 = .ok (.iconst 1, 1) := by decide +kernel
theorem dX1_fits_57 : decode cX1_fits 57 = .ok (.goto 4, 3) := by decide +kernel
theorem dX1_fits_60 : decode cX1_fits 60 = .ok (.iconst 0, 1) := by decide +kernel
theorem dX1_fits_61 : decode cX1_fits 61 = .ok (.ireturn, 1) := by decide +kernel
theorem dX1_enact_0 : decode cX1_enact 0 = .ok (.iload_n 2, 1) := by decide +kernel
theorem dX1_enact_1 : decode cX1_enact 1 = .ok (.ifCond .lt 13, 3) := by decide +kernel
theorem dX1_enact_4 : decode cX1_enact 4 = .ok (.iload_n 2, 1) := by decide +kernel
theorem dX1_enact_5 : decode cX1_enact 5 = .ok (.bipush 6, 2) := by decide +kernel
theorem dX1_enact_7 : decode cX1_enact 7 = .ok (.if_icmp .ge 7, 3) := by decide +kernel
theorem dX1_enact_10 : decode cX1_enact 10 = .ok (.iconst 1, 1) := by decide +kernel
theorem dX1_enact_11 : decode cX1_enact 11 = .ok (.goto 4, 3) := by decide +kernel
theorem dX1_enact_14 : decode cX1_enact 14 = .ok (.iconst 0, 1) := by decide +kernel
theorem dX1_enact_15 : decode cX1_enact 15 = .ok (.istore 4, 2) := by decide +kernel
theorem dX1_enact_17 : decode cX1_enact 17 = .ok (.iload_n 1, 1) := by decide +kernel
theorem dX1_enact_18 : decode cX1_enact 18 = .ok (.bipush 6, 2) := by decide +kernel
theorem dX1_enact_20 : decode cX1_enact 20 = .ok (.if_icmp .ne 18, 3) := by decide +kernel
theorem dX1_enact_23 : decode cX1_enact 23 = .ok (.iload 4, 2) := by decide +kernel
theorem dX1_enact_25 : decode cX1_enact 25 = .ok (.ifCond .eq 13, 3) := by decide +kernel
theorem dX1_enact_28 : decode cX1_enact 28 = .ok (.aload_n 0, 1) := by decide +kernel
theorem dX1_enact_29 : decode cX1_enact 29 = .ok (.getfield 69, 3) := by decide +kernel
theorem dX1_enact_32 : decode cX1_enact 32 = .ok (.iload_n 2, 1) := by decide +kernel
theorem dX1_enact_33 : decode cX1_enact 33 = .ok (.iload_n 3, 1) := by decide +kernel
theorem dX1_enact_34 : decode cX1_enact 34 = .ok (.iastore, 1) := by decide +kernel
theorem dX1_enact_35 : decode cX1_enact 35 = .ok (.goto 63, 3) := by decide +kernel
theorem dX1_enact_38 : decode cX1_enact 38 = .ok (.iload_n 1, 1) := by decide +kernel
theorem dX1_enact_39 : decode cX1_enact 39 = .ok (.bipush 10, 2) := by decide +kernel
theorem dX1_enact_41 : decode cX1_enact 41 = .ok (.if_icmp .ne 18, 3) := by decide +kernel
theorem dX1_enact_44 : decode cX1_enact 44 = .ok (.iload 4, 2) := by decide +kernel
theorem dX1_enact_46 : decode cX1_enact 46 = .ok (.ifCond .eq 13, 3) := by decide +kernel
theorem dX1_enact_49 : decode cX1_enact 49 = .ok (.aload_n 0, 1) := by decide +kernel
theorem dX1_enact_50 : decode cX1_enact 50 = .ok (.getfield 73, 3) := by decide +kernel
theorem dX1_enact_53 : decode cX1_enact 53 = .ok (.iload_n 2, 1) := by decide +kernel
theorem dX1_enact_54 : decode cX1_enact 54 = .ok (.iconst 1, 1) := by decide +kernel
theorem dX1_enact_55 : decode cX1_enact 55 = .ok (.bastore, 1) := by decide +kernel
theorem dX1_enact_56 : decode cX1_enact 56 = .ok (.goto 42, 3) := by decide +kernel
theorem dX1_enact_59 : decode cX1_enact 59 = .ok (.iload_n 1, 1) := by decide +kernel
theorem dX1_enact_60 : decode cX1_enact 60 = .ok (.bipush 7, 2) := by decide +kernel
theorem dX1_enact_62 : decode cX1_enact 62 = .ok (.if_icmp .ne 11, 3) := by decide +kernel
theorem dX1_enact_65 : decode cX1_enact 65 = .ok (.aload_n 0, 1) := by decide +kernel
theorem dX1_enact_66 : decode cX1_enact 66 = .ok (.iload_n 3, 1) := by decide +kernel
theorem dX1_enact_67 : decode cX1_enact 67 = .ok (.putfield 77, 3) := by decide +kernel
theorem dX1_enact_70 : decode cX1_enact 70 = .ok (.goto 28, 3) := by decide +kernel
theorem dX1_enact_73 : decode cX1_enact 73 = .ok (.iload_n 1, 1) := by decide +kernel
theorem dX1_enact_74 : decode cX1_enact 74 = .ok (.bipush 8, 2) := by decide +kernel
theorem dX1_enact_76 : decode cX1_enact 76 = .ok (.if_icmp .ne 11, 3) := by decide +kernel
theorem dX1_enact_79 : decode cX1_enact 79 = .ok (.aload_n 0, 1) := by decide +kernel
theorem dX1_enact_80 : decode cX1_enact 80 = .ok (.iload_n 3, 1) := by decide +kernel
theorem dX1_enact_81 : decode cX1_enact 81 = .ok (.putfield 80, 3) := by decide +kernel
theorem dX1_enact_84 : decode cX1_enact 84 = .ok (.goto 14, 3) := by decide +kernel
theorem dX1_enact_87 : decode cX1_enact 87 = .ok (.iload_n 1, 1) := by decide +kernel
theorem dX1_enact_88 : decode cX1_enact 88 = .ok (.bipush 9, 2) := by decide +kernel
theorem dX1_enact_90 : decode cX1_enact 90 = .ok (.if_icmp .ne 8, 3) := by decide +kernel
theorem dX1_enact_93 : decode cX1_enact 93 = .ok (.aload_n 0, 1) := by decide +kernel
theorem dX1_enact_94 : decode cX1_enact 94 = .ok (.iload_n 3, 1) := by decide +kernel
theorem dX1_enact_95 : decode cX1_enact 95 = .ok (.putfield 83, 3) := by decide +kernel
theorem dX1_enact_98 : decode cX1_enact 98 = .ok (.return_, 1) := by decide +kernel
theorem dX1_advance_0 : decode cX1_advance 0 = .ok (.aload_n 0, 1) := by decide +kernel
theorem dX1_advance_1 : decode cX1_advance 1 = .ok (.getfield 21, 3) := by decide +kernel
theorem dX1_advance_4 : decode cX1_advance 4 = .ok (.aload_n 0, 1) := by decide +kernel
theorem dX1_advance_5 : decode cX1_advance 5 = .ok (.getfield 33, 3) := by decide +kernel
theorem dX1_advance_8 : decode cX1_advance 8 = .ok (.getfield 86, 3) := by decide +kernel
theorem dX1_advance_11 : decode cX1_advance 11 = .ok (.if_icmp .ge 34, 3) := by decide +kernel
theorem dX1_advance_14 : decode cX1_advance 14 = .ok (.aload_n 0, 1) := by decide +kernel
theorem dX1_advance_15 : decode cX1_advance 15 = .ok (.getfield 33, 3) := by decide +kernel
theorem dX1_advance_18 : decode cX1_advance 18 = .ok (.getfield 91, 3) := by decide +kernel
theorem dX1_advance_21 : decode cX1_advance 21 = .ok (.aload_n 0, 1) := by decide +kernel
theorem dX1_advance_22 : decode cX1_advance 22 = .ok (.getfield 21, 3) := by decide +kernel
theorem dX1_advance_25 : decode cX1_advance 25 = .ok (.baload, 1) := by decide +kernel
theorem dX1_advance_26 : decode cX1_advance 26 = .ok (.invokestatic 95, 3) := by decide +kernel
theorem dX1_advance_29 : decode cX1_advance 29 = .ok (.ifCond .eq 16, 3) := by decide +kernel
theorem dX1_advance_32 : decode cX1_advance 32 = .ok (.aload_n 0, 1) := by decide +kernel
theorem dX1_advance_33 : decode cX1_advance 33 = .ok (.dup, 1) := by decide +kernel
theorem dX1_advance_34 : decode cX1_advance 34 = .ok (.getfield 21, 3) := by decide +kernel
theorem dX1_advance_37 : decode cX1_advance 37 = .ok (.iconst 1, 1) := by decide +kernel
theorem dX1_advance_38 : decode cX1_advance 38 = .ok (.iadd, 1) := by decide +kernel
theorem dX1_advance_39 : decode cX1_advance 39 = .ok (.putfield 21, 3) := by decide +kernel
theorem dX1_advance_42 : decode cX1_advance 42 = .ok (.goto (-42), 3) := by decide +kernel
theorem dX1_advance_45 : decode cX1_advance 45 = .ok (.aload_n 0, 1) := by decide +kernel
theorem dX1_advance_46 : decode cX1_advance 46 = .ok (.aload_n 0, 1) := by decide +kernel
theorem dX1_advance_47 : decode cX1_advance 47 = .ok (.getfield 21, 3) := by decide +kernel
theorem dX1_advance_50 : decode cX1_advance 50 = .ok (.putfield 27, 3) := by decide +kernel
theorem dX1_advance_53 : decode cX1_advance 53 = .ok (.aload_n 0, 1) := by decide +kernel
theorem dX1_advance_54 : decode cX1_advance 54 = .ok (.iconst (-1), 1) := by decide +kernel
theorem dX1_advance_55 : decode cX1_advance 55 = .ok (.putfield 30, 3) := by decide +kernel
theorem dX1_advance_58 : decode cX1_advance 58 = .ok (.aload_n 0, 1) := by decide +kernel
theorem dX1_advance_59 : decode cX1_advance 59 = .ok (.getfield 21, 3) := by decide +kernel
theorem dX1_advance_62 : decode cX1_advance 62 = .ok (.aload_n 0, 1) := by decide +kernel
theorem dX1_advance_63 : decode cX1_advance 63 = .ok (.getfield 33, 3) := by decide +kernel
theorem dX1_advance_66 : decode cX1_advance 66 = .ok (.getfield 86, 3) := by decide +kernel
theorem dX1_advance_69 : decode cX1_advance 69 = .ok (.if_icmp .lt 11, 3) := by decide +kernel
theorem dX1_advance_72 : decode cX1_advance 72 = .ok (.aload_n 0, 1) := by decide +kernel
theorem dX1_advance_73 : decode cX1_advance 73 = .ok (.iconst 0, 1) := by decide +kernel
theorem dX1_advance_74 : decode cX1_advance 74 = .ok (.putfield 24, 3) := by decide +kernel
theorem dX1_advance_77 : decode cX1_advance 77 = .ok (.goto 89, 3) := by decide +kernel
theorem dX1_advance_80 : decode cX1_advance 80 = .ok (.aload_n 0, 1) := by decide +kernel
theorem dX1_advance_81 : decode cX1_advance 81 = .ok (.getfield 33, 3) := by decide +kernel
theorem dX1_advance_84 : decode cX1_advance 84 = .ok (.getfield 91, 3) := by decide +kernel
theorem dX1_advance_87 : decode cX1_advance 87 = .ok (.aload_n 0, 1) := by decide +kernel
theorem dX1_advance_88 : decode cX1_advance 88 = .ok (.getfield 21, 3) := by decide +kernel
theorem dX1_advance_91 : decode cX1_advance 91 = .ok (.baload, 1) := by decide +kernel
theorem dX1_advance_92 : decode cX1_advance 92 = .ok (.invokestatic 99, 3) := by decide +kernel
theorem dX1_advance_95 : decode cX1_advance 95 = .ok (.ifCond .eq 10, 3) := by decide +kernel
theorem dX1_advance_98 : decode cX1_advance 98 = .ok (.aload_n 0, 1) := by decide +kernel
theorem dX1_advance_99 : decode cX1_advance 99 = .ok (.invokevirtual 102, 3) := by decide +kernel
theorem dX1_advance_102 : decode cX1_advance 102 = .ok (.goto 64, 3) := by decide +kernel
theorem dX1_advance_105 : decode cX1_advance 105 = .ok (.aload_n 0, 1) := by decide +kernel
theorem dX1_advance_106 : decode cX1_advance 106 = .ok (.getfield 33, 3) := by decide +kernel
theorem dX1_advance_109 : decode cX1_advance 109 = .ok (.getfield 91, 3) := by decide +kernel
theorem dX1_advance_112 : decode cX1_advance 112 = .ok (.aload_n 0, 1) := by decide +kernel
theorem dX1_advance_113 : decode cX1_advance 113 = .ok (.getfield 21, 3) := by decide +kernel
theorem dX1_advance_116 : decode cX1_advance 116 = .ok (.baload, 1) := by decide +kernel
theorem dX1_advance_117 : decode cX1_advance 117 = .ok (.invokestatic 105, 3) := by decide +kernel
theorem dX1_advance_120 : decode cX1_advance 120 = .ok (.ifCond .eq 10, 3) := by decide +kernel
theorem dX1_advance_123 : decode cX1_advance 123 = .ok (.aload_n 0, 1) := by decide +kernel
theorem dX1_advance_124 : decode cX1_advance 124 = .ok (.invokevirtual 108, 3) := by decide +kernel
theorem dX1_advance_127 : decode cX1_advance 127 = .ok (.goto 39, 3) := by decide +kernel
theorem dX1_advance_130 : decode cX1_advance 130 = .ok (.aload_n 0, 1) := by decide +kernel
theorem dX1_advance_131 : decode cX1_advance 131 = .ok (.aload_n 0, 1) := by decide +kernel
theorem dX1_advance_132 : decode cX1_advance 132 = .ok (.getfield 33, 3) := by decide +kernel
theorem dX1_advance_135 : decode cX1_advance 135 = .ok (.getfield 91, 3) := by decide +kernel
theorem dX1_advance_138 : decode cX1_advance 138 = .ok (.aload_n 0, 1) := by decide +kernel
theorem dX1_advance_139 : decode cX1_advance 139 = .ok (.getfield 21, 3) := by decide +kernel
theorem dX1_advance_142 : decode cX1_advance 142 = .ok (.baload, 1) := by decide +kernel
theorem dX1_advance_143 : decode cX1_advance 143 = .ok (.bipush 59, 2) := by decide +kernel
theorem dX1_advance_145 : decode cX1_advance 145 = .ok (.if_icmp .ne 7, 3) := by decide +kernel
theorem dX1_advance_148 : decode cX1_advance 148 = .ok (.iconst 3, 1) := by decide +kernel
theorem dX1_advance_149 : decode cX1_advance 149 = .ok (.goto 4, 3) := by decide +kernel
theorem dX1_advance_152 : decode cX1_advance 152 = .ok (.iconst 4, 1) := by decide +kernel
theorem dX1_advance_153 : decode cX1_advance 153 = .ok (.putfield 24, 3) := by decide +kernel
theorem dX1_advance_156 : decode cX1_advance 156 = .ok (.aload_n 0, 1) := by decide +kernel
theorem dX1_advance_157 : decode cX1_advance 157 = .ok (.dup, 1) := by decide +kernel
theorem dX1_advance_158 : decode cX1_advance 158 = .ok (.getfield 21, 3) := by decide +kernel
theorem dX1_advance_161 : decode cX1_advance 161 = .ok (.iconst 1, 1) := by decide +kernel
theorem dX1_advance_162 : decode cX1_advance 162 = .ok (.iadd, 1) := by decide +kernel
theorem dX1_advance_163 : decode cX1_advance 163 = .ok (.putfield 21, 3) := by decide +kernel
theorem dX1_advance_166 : decode cX1_advance 166 = .ok (.return_, 1) := by decide +kernel
theorem dX1_scanWord_0 : decode cX1_scanWord 0 = .ok (.aload_n 0, 1) := by decide +kernel
theorem dX1_scanWord_1 : decode cX1_scanWord 1 = .ok (.getfield 21, 3) := by decide +kernel
theorem dX1_scanWord_4 : decode cX1_scanWord 4 = .ok (.aload_n 0, 1) := by decide +kernel
theorem dX1_scanWord_5 : decode cX1_scanWord 5 = .ok (.getfield 33, 3) := by decide +kernel
theorem dX1_scanWord_8 : decode cX1_scanWord 8 = .ok (.getfield 86, 3) := by decide +kernel
theorem dX1_scanWord_11 : decode cX1_scanWord 11 = .ok (.if_icmp .ge 34, 3) := by decide +kernel
theorem dX1_scanWord_14 : decode cX1_scanWord 14 = .ok (.aload_n 0, 1) := by decide +kernel
theorem dX1_scanWord_15 : decode cX1_scanWord 15 = .ok (.getfield 33, 3) := by decide +kernel
theorem dX1_scanWord_18 : decode cX1_scanWord 18 = .ok (.getfield 91, 3) := by decide +kernel
theorem dX1_scanWord_21 : decode cX1_scanWord 21 = .ok (.aload_n 0, 1) := by decide +kernel
theorem dX1_scanWord_22 : decode cX1_scanWord 22 = .ok (.getfield 21, 3) := by decide +kernel
theorem dX1_scanWord_25 : decode cX1_scanWord 25 = .ok (.baload, 1) := by decide +kernel
theorem dX1_scanWord_26 : decode cX1_scanWord 26 = .ok (.invokestatic 99, 3) := by decide +kernel
theorem dX1_scanWord_29 : decode cX1_scanWord 29 = .ok (.ifCond .eq 16, 3) := by decide +kernel
theorem dX1_scanWord_32 : decode cX1_scanWord 32 = .ok (.aload_n 0, 1) := by decide +kernel
theorem dX1_scanWord_33 : decode cX1_scanWord 33 = .ok (.dup, 1) := by decide +kernel
theorem dX1_scanWord_34 : decode cX1_scanWord 34 = .ok (.getfield 21, 3) := by decide +kernel
theorem dX1_scanWord_37 : decode cX1_scanWord 37 = .ok (.iconst 1, 1) := by decide +kernel
theorem dX1_scanWord_38 : decode cX1_scanWord 38 = .ok (.iadd, 1) := by decide +kernel
theorem dX1_scanWord_39 : decode cX1_scanWord 39 = .ok (.putfield 21, 3) := by decide +kernel
theorem dX1_scanWord_42 : decode cX1_scanWord 42 = .ok (.goto (-42), 3) := by decide +kernel
theorem dX1_scanWord_45 : decode cX1_scanWord 45 = .ok (.aload_n 0, 1) := by decide +kernel
theorem dX1_scanWord_46 : decode cX1_scanWord 46 = .ok (.iconst 4, 1) := by decide +kernel
theorem dX1_scanWord_47 : decode cX1_scanWord 47 = .ok (.putfield 24, 3) := by decide +kernel
theorem dX1_scanWord_50 : decode cX1_scanWord 50 = .ok (.iconst 0, 1) := by decide +kernel
theorem dX1_scanWord_51 : decode cX1_scanWord 51 = .ok (.istore_n 1, 1) := by decide +kernel
theorem dX1_scanWord_52 : decode cX1_scanWord 52 = .ok (.iload_n 1, 1) := by decide +kernel
theorem dX1_scanWord_53 : decode cX1_scanWord 53 = .ok (.bipush 11, 2) := by decide +kernel
theorem dX1_scanWord_55 : decode cX1_scanWord 55 = .ok (.if_icmp .ge 30, 3) := by decide +kernel
theorem dX1_scanWord_58 : decode cX1_scanWord 58 = .ok (.aload_n 0, 1) := by decide +kernel
theorem dX1_scanWord_59 : decode cX1_scanWord 59 = .ok (.iload_n 1, 1) := by decide +kernel
theorem dX1_scanWord_60 : decode cX1_scanWord 60 = .ok (.invokestatic 111, 3) := by decide +kernel
theorem dX1_scanWord_63 : decode cX1_scanWord 63 = .ok (.invokevirtual 115, 3) := by decide +kernel
theorem dX1_scanWord_66 : decode cX1_scanWord 66 = .ok (.ifCond .eq 13, 3) := by decide +kernel
theorem dX1_scanWord_69 : decode cX1_scanWord 69 = .ok (.aload_n 0, 1) := by decide +kernel
theorem dX1_scanWord_70 : decode cX1_scanWord 70 = .ok (.iconst 1, 1) := by decide +kernel
theorem dX1_scanWord_71 : decode cX1_scanWord 71 = .ok (.putfield 24, 3) := by decide +kernel
theorem dX1_scanWord_74 : decode cX1_scanWord 74 = .ok (.aload_n 0, 1) := by decide +kernel
theorem dX1_scanWord_75 : decode cX1_scanWord 75 = .ok (.iload_n 1, 1) := by decide +kernel
theorem dX1_scanWord_76 : decode cX1_scanWord 76 = .ok (.putfield 30, 3) := by decide +kernel
theorem dX1_scanWord_79 : decode cX1_scanWord 79 = .ok (.iinc 1 1, 3) := by decide +kernel
theorem dX1_scanWord_82 : decode cX1_scanWord 82 = .ok (.goto (-30), 3) := by decide +kernel
theorem dX1_scanWord_85 : decode cX1_scanWord 85 = .ok (.return_, 1) := by decide +kernel
theorem dX1_isSpelled_0 : decode cX1_isSpelled 0 = .ok (.aload_n 1, 1) := by decide +kernel
theorem dX1_isSpelled_1 : decode cX1_isSpelled 1 = .ok (.invokevirtual 119, 3) := by decide +kernel
theorem dX1_isSpelled_4 : decode cX1_isSpelled 4 = .ok (.aload_n 0, 1) := by decide +kernel
theorem dX1_isSpelled_5 : decode cX1_isSpelled 5 = .ok (.getfield 21, 3) := by decide +kernel
theorem dX1_isSpelled_8 : decode cX1_isSpelled 8 = .ok (.aload_n 0, 1) := by decide +kernel
theorem dX1_isSpelled_9 : decode cX1_isSpelled 9 = .ok (.getfield 27, 3) := by decide +kernel
theorem dX1_isSpelled_12 : decode cX1_isSpelled 12 = .ok (.isub, 1) := by decide +kernel
theorem dX1_isSpelled_13 : decode cX1_isSpelled 13 = .ok (.if_icmp .eq 5, 3) := by decide +kernel
theorem dX1_isSpelled_16 : decode cX1_isSpelled 16 = .ok (.iconst 0, 1) := by decide +kernel
theorem dX1_isSpelled_17 : decode cX1_isSpelled 17 = .ok (.ireturn, 1) := by decide +kernel
theorem dX1_isSpelled_18 : decode cX1_isSpelled 18 = .ok (.iconst 0, 1) := by decide +kernel
theorem dX1_isSpelled_19 : decode cX1_isSpelled 19 = .ok (.istore_n 2, 1) := by decide +kernel
theorem dX1_isSpelled_20 : decode cX1_isSpelled 20 = .ok (.iload_n 2, 1) := by decide +kernel
theorem dX1_isSpelled_21 : decode cX1_isSpelled 21 = .ok (.aload_n 1, 1) := by decide +kernel
theorem dX1_isSpelled_22 : decode cX1_isSpelled 22 = .ok (.invokevirtual 119, 3) := by decide +kernel
theorem dX1_isSpelled_25 : decode cX1_isSpelled 25 = .ok (.if_icmp .ge 33, 3) := by decide +kernel
theorem dX1_isSpelled_28 : decode cX1_isSpelled 28 = .ok (.aload_n 0, 1) := by decide +kernel
theorem dX1_isSpelled_29 : decode cX1_isSpelled 29 = .ok (.getfield 33, 3) := by decide +kernel
theorem dX1_isSpelled_32 : decode cX1_isSpelled 32 = .ok (.getfield 91, 3) := by decide +kernel
theorem dX1_isSpelled_35 : decode cX1_isSpelled 35 = .ok (.aload_n 0, 1) := by decide +kernel
theorem dX1_isSpelled_36 : decode cX1_isSpelled 36 = .ok (.getfield 27, 3) := by decide +kernel
theorem dX1_isSpelled_39 : decode cX1_isSpelled 39 = .ok (.iload_n 2, 1) := by decide +kernel
theorem dX1_isSpelled_40 : decode cX1_isSpelled 40 = .ok (.iadd, 1) := by decide +kernel
theorem dX1_isSpelled_41 : decode cX1_isSpelled 41 = .ok (.baload, 1) := by decide +kernel
theorem dX1_isSpelled_42 : decode cX1_isSpelled 42 = .ok (.aload_n 1, 1) := by decide +kernel
theorem dX1_isSpelled_43 : decode cX1_isSpelled 43 = .ok (.iload_n 2, 1) := by decide +kernel
theorem dX1_isSpelled_44 : decode cX1_isSpelled 44 = .ok (.invokevirtual 123, 3) := by decide +kernel
theorem dX1_isSpelled_47 : decode cX1_isSpelled 47 = .ok (.if_icmp .eq 5, 3) := by decide +kernel
theorem dX1_isSpelled_50 : decode cX1_isSpelled 50 = .ok (.iconst 0, 1) := by decide +kernel
theorem dX1_isSpelled_51 : decode cX1_isSpelled 51 = .ok (.ireturn, 1) := by decide +kernel
theorem dX1_isSpelled_52 : decode cX1_isSpelled 52 = .ok (.iinc 2 1, 3) := by decide +kernel
theorem dX1_isSpelled_55 : decode cX1_isSpelled 55 = .ok (.goto (-35), 3) := by decide +kernel
theorem dX1_isSpelled_58 : decode cX1_isSpelled 58 = .ok (.iconst 1, 1) := by decide +kernel
theorem dX1_isSpelled_59 : decode cX1_isSpelled 59 = .ok (.ireturn, 1) := by decide +kernel
theorem dX1_scanNumber_0 : decode cX1_scanNumber 0 = .ok (.iconst 0, 1) := by decide +kernel
theorem dX1_scanNumber_1 : decode cX1_scanNumber 1 = .ok (.istore_n 1, 1) := by decide +kernel
theorem dX1_scanNumber_2 : decode cX1_scanNumber 2 = .ok (.aload_n 0, 1) := by decide +kernel
theorem dX1_scanNumber_3 : decode cX1_scanNumber 3 = .ok (.getfield 21, 3) := by decide +kernel
theorem dX1_scanNumber_6 : decode cX1_scanNumber 6 = .ok (.aload_n 0, 1) := by decide +kernel
theorem dX1_scanNumber_7 : decode cX1_scanNumber 7 = .ok (.getfield 33, 3) := by decide +kernel
theorem dX1_scanNumber_10 : decode cX1_scanNumber 10 = .ok (.getfield 86, 3) := by decide +kernel
theorem dX1_scanNumber_13 : decode cX1_scanNumber 13 = .ok (.if_icmp .ge 55, 3) := by decide +kernel
theorem dX1_scanNumber_16 : decode cX1_scanNumber 16 = .ok (.aload_n 0, 1) := by decide +kernel
theorem dX1_scanNumber_17 : decode cX1_scanNumber 17 = .ok (.getfield 33, 3) := by decide +kernel
theorem dX1_scanNumber_20 : decode cX1_scanNumber 20 = .ok (.getfield 91, 3) := by decide +kernel
theorem dX1_scanNumber_23 : decode cX1_scanNumber 23 = .ok (.aload_n 0, 1) := by decide +kernel
theorem dX1_scanNumber_24 : decode cX1_scanNumber 24 = .ok (.getfield 21, 3) := by decide +kernel
theorem dX1_scanNumber_27 : decode cX1_scanNumber 27 = .ok (.baload, 1) := by decide +kernel
theorem dX1_scanNumber_28 : decode cX1_scanNumber 28 = .ok (.invokestatic 105, 3) := by decide +kernel
theorem dX1_scanNumber_31 : decode cX1_scanNumber 31 = .ok (.ifCond .eq 37, 3) := by decide +kernel
theorem dX1_scanNumber_34 : decode cX1_scanNumber 34 = .ok (.bipush 10, 2) := by decide +kernel
theorem dX1_scanNumber_36 : decode cX1_scanNumber 36 = .ok (.iload_n 1, 1) := by decide +kernel
theorem dX1_scanNumber_37 : decode cX1_scanNumber 37 = .ok (.imul, 1) := by decide +kernel
theorem dX1_scanNumber_38 : decode cX1_scanNumber 38 = .ok (.aload_n 0, 1) := by decide +kernel
theorem dX1_scanNumber_39 : decode cX1_scanNumber 39 = .ok (.getfield 33, 3) := by decide +kernel
theorem dX1_scanNumber_42 : decode cX1_scanNumber 42 = .ok (.getfield 91, 3) := by decide +kernel
theorem dX1_scanNumber_45 : decode cX1_scanNumber 45 = .ok (.aload_n 0, 1) := by decide +kernel
theorem dX1_scanNumber_46 : decode cX1_scanNumber 46 = .ok (.getfield 21, 3) := by decide +kernel
theorem dX1_scanNumber_49 : decode cX1_scanNumber 49 = .ok (.baload, 1) := by decide +kernel
theorem dX1_scanNumber_50 : decode cX1_scanNumber 50 = .ok (.iadd, 1) := by decide +kernel
theorem dX1_scanNumber_51 : decode cX1_scanNumber 51 = .ok (.bipush 48, 2) := by decide +kernel
theorem dX1_scanNumber_53 : decode cX1_scanNumber 53 = .ok (.isub, 1) := by decide +kernel
theorem dX1_scanNumber_54 : decode cX1_scanNumber 54 = .ok (.istore_n 1, 1) := by decide +kernel
theorem dX1_scanNumber_55 : decode cX1_scanNumber 55 = .ok (.aload_n 0, 1) := by decide +kernel
theorem dX1_scanNumber_56 : decode cX1_scanNumber 56 = .ok (.dup, 1) := by decide +kernel
theorem dX1_scanNumber_57 : decode cX1_scanNumber 57 = .ok (.getfield 21, 3) := by decide +kernel
theorem dX1_scanNumber_60 : decode cX1_scanNumber 60 = .ok (.iconst 1, 1) := by decide +kernel
theorem dX1_scanNumber_61 : decode cX1_scanNumber 61 = .ok (.iadd, 1) := by decide +kernel
theorem dX1_scanNumber_62 : decode cX1_scanNumber 62 = .ok (.putfield 21, 3) := by decide +kernel
theorem dX1_scanNumber_65 : decode cX1_scanNumber 65 = .ok (.goto (-63), 3) := by decide +kernel
theorem dX1_scanNumber_68 : decode cX1_scanNumber 68 = .ok (.aload_n 0, 1) := by decide +kernel
theorem dX1_scanNumber_69 : decode cX1_scanNumber 69 = .ok (.iconst 4, 1) := by decide +kernel
theorem dX1_scanNumber_70 : decode cX1_scanNumber 70 = .ok (.putfield 24, 3) := by decide +kernel
theorem dX1_scanNumber_73 : decode cX1_scanNumber 73 = .ok (.aload_n 0, 1) := by decide +kernel
theorem dX1_scanNumber_74 : decode cX1_scanNumber 74 = .ok (.getfield 21, 3) := by decide +kernel
theorem dX1_scanNumber_77 : decode cX1_scanNumber 77 = .ok (.aload_n 0, 1) := by decide +kernel
theorem dX1_scanNumber_78 : decode cX1_scanNumber 78 = .ok (.getfield 27, 3) := by decide +kernel
theorem dX1_scanNumber_81 : decode cX1_scanNumber 81 = .ok (.isub, 1) := by decide +kernel
theorem dX1_scanNumber_82 : decode cX1_scanNumber 82 = .ok (.iconst 2, 1) := by decide +kernel
theorem dX1_scanNumber_83 : decode cX1_scanNumber 83 = .ok (.if_icmp .gt 13, 3) := by decide +kernel
theorem dX1_scanNumber_86 : decode cX1_scanNumber 86 = .ok (.aload_n 0, 1) := by decide +kernel
theorem dX1_scanNumber_87 : decode cX1_scanNumber 87 = .ok (.iconst 2, 1) := by decide +kernel
theorem dX1_scanNumber_88 : decode cX1_scanNumber 88 = .ok (.putfield 24, 3) := by decide +kernel
theorem dX1_scanNumber_91 : decode cX1_scanNumber 91 = .ok (.aload_n 0, 1) := by decide +kernel
theorem dX1_scanNumber_92 : decode cX1_scanNumber 92 = .ok (.iload_n 1, 1) := by decide +kernel
theorem dX1_scanNumber_93 : decode cX1_scanNumber 93 = .ok (.putfield 30, 3) := by decide +kernel
theorem dX1_scanNumber_96 : decode cX1_scanNumber 96 = .ok (.return_, 1) := by decide +kernel
theorem dX1_keyword_0 : decode cX1_keyword 0 = .ok (.iload_n 0, 1) := by decide +kernel
theorem dX1_keyword_1 : decode cX1_keyword 1 = .ok (.tableswitch 92 0 10 #[59, 62, 65, 68, 71, 74, 77, 80, 83, 86, 89], 59) := by decide +kernel
theorem dX1_keyword_60 : decode cX1_keyword 60 = .ok (.ldc 127, 2) := by decide +kernel
theorem dX1_keyword_62 : decode cX1_keyword 62 = .ok (.areturn, 1) := by decide +kernel
theorem dX1_keyword_63 : decode cX1_keyword 63 = .ok (.ldc 129, 2) := by decide +kernel
theorem dX1_keyword_65 : decode cX1_keyword 65 = .ok (.areturn, 1) := by decide +kernel
theorem dX1_keyword_66 : decode cX1_keyword 66 = .ok (.ldc 131, 2) := by decide +kernel
theorem dX1_keyword_68 : decode cX1_keyword 68 = .ok (.areturn, 1) := by decide +kernel
theorem dX1_keyword_69 : decode cX1_keyword 69 = .ok (.ldc 133, 2) := by decide +kernel
theorem dX1_keyword_71 : decode cX1_keyword 71 = .ok (.areturn, 1) := by decide +kernel
theorem dX1_keyword_72 : decode cX1_keyword 72 = .ok (.ldc 135, 2) := by decide +kernel
theorem dX1_keyword_74 : decode cX1_keyword 74 = .ok (.areturn, 1) := by decide +kernel
theorem dX1_keyword_75 : decode cX1_keyword 75 = .ok (.ldc 137, 2) := by decide +kernel
theorem dX1_keyword_77 : decode cX1_keyword 77 = .ok (.areturn, 1) := by decide +kernel
theorem dX1_keyword_78 : decode cX1_keyword 78 = .ok (.ldc 139, 2) := by decide +kernel
theorem dX1_keyword_80 : decode cX1_keyword 80 = .ok (.areturn, 1) := by decide +kernel
theorem dX1_keyword_81 : decode cX1_keyword 81 = .ok (.ldc 141, 2) := by decide +kernel
theorem dX1_keyword_83 : decode cX1_keyword 83 = .ok (.areturn, 1) := by decide +kernel
theorem dX1_keyword_84 : decode cX1_keyword 84 = .ok (.ldc 143, 2) := by decide +kernel
theorem dX1_keyword_86 : decode cX1_keyword 86 = .ok (.areturn, 1) := by decide +kernel
theorem dX1_keyword_87 : decode cX1_keyword 87 = .ok (.ldc 144, 2) := by decide +kernel
theorem dX1_keyword_89 : decode cX1_keyword 89 = .ok (.areturn, 1) := by decide +kernel
theorem dX1_keyword_90 : decode cX1_keyword 90 = .ok (.ldc 145, 2) := by decide +kernel
theorem dX1_keyword_92 : decode cX1_keyword 92 = .ok (.areturn, 1) := by decide +kernel
theorem dX1_keyword_93 : decode cX1_keyword 93 = .ok (.ldc 147, 2) := by decide +kernel
theorem dX1_keyword_95 : decode cX1_keyword 95 = .ok (.areturn, 1) := by decide +kernel
theorem dX1_isBlank_0 : decode cX1_isBlank 0 = .ok (.iload_n 0, 1) := by decide +kernel
theorem dX1_isBlank_1 : decode cX1_isBlank 1 = .ok (.bipush 32, 2) := by decide +kernel
theorem dX1_isBlank_3 : decode cX1_isBlank 3 = .ok (.if_icmp .eq 9, 3) := by decide +kernel
theorem dX1_isBlank_6 : decode cX1_isBlank 6 = .ok (.iload_n 0, 1) := by decide +kernel
theorem dX1_isBlank_7 : decode cX1_isBlank 7 = .ok (.bipush 10, 2) := by decide +kernel
theorem dX1_isBlank_9 : decode cX1_isBlank 9 = .ok (.if_icmp .ne 7, 3) := by decide +kernel
theorem dX1_isBlank_12 : decode cX1_isBlank 12 = .ok (.iconst 1, 1) := by decide +kernel
theorem dX1_isBlank_13 : decode cX1_isBlank 13 = .ok (.goto 4, 3) := by decide +kernel
theorem dX1_isBlank_16 : decode cX1_isBlank 16 = .ok (.iconst 0, 1) := by decide +kernel
theorem dX1_isBlank_17 : decode cX1_isBlank 17 = .ok (.ireturn, 1) := by decide +kernel
theorem dX1_isLetter_0 : decode cX1_isLetter 0 = .ok (.iload_n 0, 1) := by decide +kernel
theorem dX1_isLetter_1 : decode cX1_isLetter 1 = .ok (.bipush 97, 2) := by decide +kernel
theorem dX1_isLetter_3 : decode cX1_isLetter 3 = .ok (.if_icmp .lt 9, 3) := by decide +kernel
theorem dX1_isLetter_6 : decode cX1_isLetter 6 = .ok (.iload_n 0, 1) := by decide +kernel
theorem dX1_isLetter_7 : decode cX1_isLetter 7 = .ok (.bipush 122, 2) := by decide +kernel
theorem dX1_isLetter_9 : decode cX1_isLetter 9 = .ok (.if_icmp .le 15, 3) := by decide +kernel
theorem dX1_isLetter_12 : decode cX1_isLetter 12 = .ok (.iload_n 0, 1) := by decide +kernel
theorem dX1_isLetter_13 : decode cX1_isLetter 13 = .ok (.bipush 65, 2) := by decide +kernel
theorem dX1_isLetter_15 : decode cX1_isLetter 15 = .ok (.if_icmp .lt 13, 3) := by decide +kernel
theorem dX1_isLetter_18 : decode cX1_isLetter 18 = .ok (.iload_n 0, 1) := by decide +kernel
theorem dX1_isLetter_19 : decode cX1_isLetter 19 = .ok (.bipush 90, 2) := by decide +kernel
theorem dX1_isLetter_21 : decode cX1_isLetter 21 = .ok (.if_icmp .gt 7, 3) := by decide +kernel
theorem dX1_isLetter_24 : decode cX1_isLetter 24 = .ok (.iconst 1, 1) := by decide +kernel
theorem dX1_isLetter_25 : decode cX1_isLetter 25 = .ok (.goto 4, 3) := by decide +kernel
theorem dX1_isLetter_28 : decode cX1_isLetter 28 = .ok (.iconst 0, 1) := by decide +kernel
theorem dX1_isLetter_29 : decode cX1_isLetter 29 = .ok (.ireturn, 1) := by decide +kernel
theorem dX1_isDigit_0 : decode cX1_isDigit 0 = .ok (.iload_n 0, 1) := by decide +kernel
theorem dX1_isDigit_1 : decode cX1_isDigit 1 = .ok (.bipush 48, 2) := by decide +kernel
theorem dX1_isDigit_3 : decode cX1_isDigit 3 = .ok (.if_icmp .lt 13, 3) := by decide +kernel
theorem dX1_isDigit_6 : decode cX1_isDigit 6 = .ok (.iload_n 0, 1) := by decide +kernel
theorem dX1_isDigit_7 : decode cX1_isDigit 7 = .ok (.bipush 57, 2) := by decide +kernel
theorem dX1_isDigit_9 : decode cX1_isDigit 9 = .ok (.if_icmp .gt 7, 3) := by decide +kernel
theorem dX1_isDigit_12 : decode cX1_isDigit 12 = .ok (.iconst 1, 1) := by decide +kernel
theorem dX1_isDigit_13 : decode cX1_isDigit 13 = .ok (.goto 4, 3) := by decide +kernel
theorem dX1_isDigit_16 : decode cX1_isDigit 16 = .ok (.iconst 0, 1) := by decide +kernel
theorem dX1_isDigit_17 : decode cX1_isDigit 17 = .ok (.ireturn, 1) := by decide +kernel
theorem dX2_init_0 : decode cX2_init 0 = .ok (.aload_n 0, 1) := by decide +kernel
theorem dX2_init_1 : decode cX2_init 1 = .ok (.invokespecial 3, 3) := by decide +kernel
theorem dX2_init_4 : decode cX2_init 4 = .ok (.aload_n 0, 1) := by decide +kernel
theorem dX2_init_5 : decode cX2_init 5 = .ok (.iconst 0, 1) := by decide +kernel
theorem dX2_init_6 : decode cX2_init 6 = .ok (.putfield 9, 3) := by decide +kernel
theorem dX2_init_9 : decode cX2_init 9 = .ok (.aload_n 0, 1) := by decide +kernel
theorem dX2_init_10 : decode cX2_init 10 = .ok (.bipush 60, 2) := by decide +kernel
theorem dX2_init_12 : decode cX2_init 12 = .ok (.newarray .int, 2) := by decide +kernel
theorem dX2_init_14 : decode cX2_init 14 = .ok (.putfield 15, 3) := by decide +kernel
theorem dX2_init_17 : decode cX2_init 17 = .ok (.aload_n 0, 1) := by decide +kernel
theorem dX2_init_18 : decode cX2_init 18 = .ok (.iconst 0, 1) := by decide +kernel
theorem dX2_init_19 : decode cX2_init 19 = .ok (.putfield 19, 3) := by decide +kernel
theorem dX2_init_22 : decode cX2_init 22 = .ok (.aload_n 0, 1) := by decide +kernel
theorem dX2_init_23 : decode cX2_init 23 = .ok (.bipush 60, 2) := by decide +kernel
theorem dX2_init_25 : decode cX2_init 25 = .ok (.newarray .int, 2) := by decide +kernel
theorem dX2_init_27 : decode cX2_init 27 = .ok (.putfield 22, 3) := by decide +kernel
theorem dX2_init_30 : decode cX2_init 30 = .ok (.aload_n 0, 1) := by decide +kernel
theorem dX2_init_31 : decode cX2_init 31 = .ok (.bipush 60, 2) := by decide +kernel
theorem dX2_init_33 : decode cX2_init 33 = .ok (.newarray .int, 2) := by decide +kernel
theorem dX2_init_35 : decode cX2_init 35 = .ok (.putfield 25, 3) := by decide +kernel
theorem dX2_init_38 : decode cX2_init 38 = .ok (.aload_n 0, 1) := by decide +kernel
theorem dX2_init_39 : decode cX2_init 39 = .ok (.bipush 60, 2) := by decide +kernel
theorem dX2_init_41 : decode cX2_init 41 = .ok (.newarray .int, 2) := by decide +kernel
theorem dX2_init_43 : decode cX2_init 43 = .ok (.putfield 28, 3) := by decide +kernel
theorem dX2_init_46 : decode cX2_init 46 = .ok (.aload_n 0, 1) := by decide +kernel
theorem dX2_init_47 : decode cX2_init 47 = .ok (.bipush 60, 2) := by decide +kernel
theorem dX2_init_49 : decode cX2_init 49 = .ok (.newarray .int, 2) := by decide +kernel
theorem dX2_init_51 : decode cX2_init 51 = .ok (.putfield 31, 3) := by decide +kernel
theorem dX2_init_54 : decode cX2_init 54 = .ok (.aload_n 0, 1) := by decide +kernel
theorem dX2_init_55 : decode cX2_init 55 = .ok (.bipush 60, 2) := by decide +kernel
theorem dX2_init_57 : decode cX2_init 57 = .ok (.newarray .int, 2) := by decide +kernel
theorem dX2_init_59 : decode cX2_init 59 = .ok (.putfield 34, 3) := by decide +kernel
theorem dX2_init_62 : decode cX2_init 62 = .ok (.return_, 1) := by decide +kernel
theorem dX2_tell_0 : decode cX2_tell 0 = .ok (.aload_n 0, 1) := by decide +kernel
theorem dX2_tell_1 : decode cX2_tell 1 = .ok (.getfield 9, 3) := by decide +kernel
theorem dX2_tell_4 : decode cX2_tell 4 = .ok (.bipush 60, 2) := by decide +kernel
theorem dX2_tell_6 : decode cX2_tell 6 = .ok (.if_icmp .lt 5, 3) := by decide +kernel
theorem dX2_tell_9 : decode cX2_tell 9 = .ok (.iconst 0, 1) := by decide +kernel
theorem dX2_tell_10 : decode cX2_tell 10 = .ok (.ireturn, 1) := by decide +kernel
theorem dX2_tell_11 : decode cX2_tell 11 = .ok (.aload_n 0, 1) := by decide +kernel
theorem dX2_tell_12 : decode cX2_tell 12 = .ok (.getfield 22, 3) := by decide +kernel
theorem dX2_tell_15 : decode cX2_tell 15 = .ok (.aload_n 0, 1) := by decide +kernel
theorem dX2_tell_16 : decode cX2_tell 16 = .ok (.getfield 9, 3) := by decide +kernel
theorem dX2_tell_19 : decode cX2_tell 19 = .ok (.iload_n 1, 1) := by decide +kernel
theorem dX2_tell_20 : decode cX2_tell 20 = .ok (.iastore, 1) := by decide +kernel
theorem dX2_tell_21 : decode cX2_tell 21 = .ok (.aload_n 0, 1) := by decide +kernel
theorem dX2_tell_22 : decode cX2_tell 22 = .ok (.getfield 25, 3) := by decide +kernel
theorem dX2_tell_25 : decode cX2_tell 25 = .ok (.aload_n 0, 1) := by decide +kernel
theorem dX2_tell_26 : decode cX2_tell 26 = .ok (.getfield 9, 3) := by decide +kernel
theorem dX2_tell_29 : decode cX2_tell 29 = .ok (.iload_n 2, 1) := by decide +kernel
theorem dX2_tell_30 : decode cX2_tell 30 = .ok (.iastore, 1) := by decide +kernel
theorem dX2_tell_31 : decode cX2_tell 31 = .ok (.aload_n 0, 1) := by decide +kernel
theorem dX2_tell_32 : decode cX2_tell 32 = .ok (.getfield 28, 3) := by decide +kernel
theorem dX2_tell_35 : decode cX2_tell 35 = .ok (.aload_n 0, 1) := by decide +kernel
theorem dX2_tell_36 : decode cX2_tell 36 = .ok (.getfield 9, 3) := by decide +kernel
theorem dX2_tell_39 : decode cX2_tell 39 = .ok (.iload_n 3, 1) := by decide +kernel
theorem dX2_tell_40 : decode cX2_tell 40 = .ok (.iastore, 1) := by decide +kernel
theorem dX2_tell_41 : decode cX2_tell 41 = .ok (.aload_n 0, 1) := by decide +kernel
theorem dX2_tell_42 : decode cX2_tell 42 = .ok (.getfield 31, 3) := by decide +kernel
theorem dX2_tell_45 : decode cX2_tell 45 = .ok (.aload_n 0, 1) := by decide +kernel
theorem dX2_tell_46 : decode cX2_tell 46 = .ok (.getfield 9, 3) := by decide +kernel
theorem dX2_tell_49 : decode cX2_tell 49 = .ok (.iload 4, 2) := by decide +kernel
theorem dX2_tell_51 : decode cX2_tell 51 = .ok (.iastore, 1) := by decide +kernel
theorem dX2_tell_52 : decode cX2_tell 52 = .ok (.aload_n 0, 1) := by decide +kernel
theorem dX2_tell_53 : decode cX2_tell 53 = .ok (.getfield 34, 3) := by decide +kernel
theorem dX2_tell_56 : decode cX2_tell 56 = .ok (.aload_n 0, 1) := by decide +kernel
theorem dX2_tell_57 : decode cX2_tell 57 = .ok (.getfield 9, 3) := by decide +kernel
theorem dX2_tell_60 : decode cX2_tell 60 = .ok (.iload 5, 2) := by decide +kernel
theorem dX2_tell_62 : decode cX2_tell 62 = .ok (.iastore, 1) := by decide +kernel
theorem dX2_tell_63 : decode cX2_tell 63 = .ok (.aload_n 0, 1) := by decide +kernel
theorem dX2_tell_64 : decode cX2_tell 64 = .ok (.dup, 1) := by decide +kernel
theorem dX2_tell_65 : decode cX2_tell 65 = .ok (.getfield 9, 3) := by decide +kernel
theorem dX2_tell_68 : decode cX2_tell 68 = .ok (.iconst 1, 1) := by decide +kernel
theorem dX2_tell_69 : decode cX2_tell 69 = .ok (.iadd, 1) := by decide +kernel
theorem dX2_tell_70 : decode cX2_tell 70 = .ok (.putfield 9, 3) := by decide +kernel
theorem dX2_tell_73 : decode cX2_tell 73 = .ok (.aload_n 0, 1) := by decide +kernel
theorem dX2_tell_74 : decode cX2_tell 74 = .ok (.iload 5, 2) := by decide +kernel
theorem dX2_tell_76 : decode cX2_tell 76 = .ok (.invokevirtual 37, 3) := by decide +kernel
theorem dX2_tell_79 : decode cX2_tell 79 = .ok (.iconst 1, 1) := by decide +kernel
theorem dX2_tell_80 : decode cX2_tell 80 = .ok (.ireturn, 1) := by decide +kernel
theorem dX2_noteYear_0 : decode cX2_noteYear 0 = .ok (.iconst 0, 1) := by decide +kernel
theorem dX2_noteYear_1 : decode cX2_noteYear 1 = .ok (.istore_n 2, 1) := by decide +kernel
theorem dX2_noteYear_2 : decode cX2_noteYear 2 = .ok (.iload_n 2, 1) := by decide +kernel
theorem dX2_noteYear_3 : decode cX2_noteYear 3 = .ok (.aload_n 0, 1) := by decide +kernel
theorem dX2_noteYear_4 : decode cX2_noteYear 4 = .ok (.getfield 19, 3) := by decide +kernel
theorem dX2_noteYear_7 : decode cX2_noteYear 7 = .ok (.if_icmp .ge 19, 3) := by decide +kernel
theorem dX2_noteYear_10 : decode cX2_noteYear 10 = .ok (.aload_n 0, 1) := by decide +kernel
theorem dX2_noteYear_11 : decode cX2_noteYear 11 = .ok (.getfield 15, 3) := by decide +kernel
theorem dX2_noteYear_14 : decode cX2_noteYear 14 = .ok (.iload_n 2, 1) := by decide +kernel
theorem dX2_noteYear_15 : decode cX2_noteYear 15 = .ok (.iaload, 1) := by decide +kernel
theorem dX2_noteYear_16 : decode cX2_noteYear 16 = .ok (.iload_n 1, 1) := by decide +kernel
theorem dX2_noteYear_17 : decode cX2_noteYear 17 = .ok (.if_icmp .ge 9, 3) := by decide +kernel
theorem dX2_noteYear_20 : decode cX2_noteYear 20 = .ok (.iinc 2 1, 3) := by decide +kernel
theorem dX2_noteYear_23 : decode cX2_noteYear 23 = .ok (.goto (-21), 3) := by decide +kernel
theorem dX2_noteYear_26 : decode cX2_noteYear 26 = .ok (.iload_n 2, 1) := by decide +kernel
theorem dX2_noteYear_27 : decode cX2_noteYear 27 = .ok (.aload_n 0, 1) := by decide +kernel
theorem dX2_noteYear_28 : decode cX2_noteYear 28 = .ok (.getfield 19, 3) := by decide +kernel
theorem dX2_noteYear_31 : decode cX2_noteYear 31 = .ok (.if_icmp .ge 17, 3) := by decide +kernel
theorem dX2_noteYear_34 : decode cX2_noteYear 34 = .ok (.aload_n 0, 1) := by decide +kernel
theorem dX2_noteYear_35 : decode cX2_noteYear 35 = .ok (.getfield 15, 3) := by decide +kernel
theorem dX2_noteYear_38 : decode cX2_noteYear 38 = .ok (.iload_n 2, 1) := by decide +kernel
theorem dX2_noteYear_39 : decode cX2_noteYear 39 = .ok (.iaload, 1) := by decide +kernel
theorem dX2_noteYear_40 : decode cX2_noteYear 40 = .ok (.iload_n 1, 1) := by decide +kernel
theorem dX2_noteYear_41 : decode cX2_noteYear 41 = .ok (.if_icmp .ne 7, 3) := by decide +kernel
theorem dX2_noteYear_44 : decode cX2_noteYear 44 = .ok (.iconst 1, 1) := by decide +kernel
theorem dX2_noteYear_45 : decode cX2_noteYear 45 = .ok (.goto 4, 3) := by decide +kernel
theorem dX2_noteYear_48 : decode cX2_noteYear 48 = .ok (.iconst 0, 1) := by decide +kernel
theorem dX2_noteYear_49 : decode cX2_noteYear 49 = .ok (.istore_n 3, 1) := by decide +kernel
theorem dX2_noteYear_50 : decode cX2_noteYear 50 = .ok (.iload_n 3, 1) := by decide +kernel
theorem dX2_noteYear_51 : decode cX2_noteYear 51 = .ok (.ifCond .ne 12, 3) := by decide +kernel
theorem dX2_noteYear_54 : decode cX2_noteYear 54 = .ok (.aload_n 0, 1) := by decide +kernel
theorem dX2_noteYear_55 : decode cX2_noteYear 55 = .ok (.getfield 19, 3) := by decide +kernel
theorem dX2_noteYear_58 : decode cX2_noteYear 58 = .ok (.bipush 60, 2) := by decide +kernel
theorem dX2_noteYear_60 : decode cX2_noteYear 60 = .ok (.if_icmp .lt 4, 3) := by decide +kernel
theorem dX2_noteYear_63 : decode cX2_noteYear 63 = .ok (.return_, 1) := by decide +kernel
theorem dX2_noteYear_64 : decode cX2_noteYear 64 = .ok (.aload_n 0, 1) := by decide +kernel
theorem dX2_noteYear_65 : decode cX2_noteYear 65 = .ok (.getfield 19, 3) := by decide +kernel
theorem dX2_noteYear_68 : decode cX2_noteYear 68 = .ok (.istore 4, 2) := by decide +kernel
theorem dX2_noteYear_70 : decode cX2_noteYear 70 = .ok (.iload 4, 2) := by decide +kernel
theorem dX2_noteYear_72 : decode cX2_noteYear 72 = .ok (.iload_n 2, 1) := by decide +kernel
theorem dX2_noteYear_73 : decode cX2_noteYear 73 = .ok (.if_icmp .le 25, 3) := by decide +kernel
theorem dX2_noteYear_76 : decode cX2_noteYear 76 = .ok (.aload_n 0, 1) := by decide +kernel
theorem dX2_noteYear_77 : decode cX2_noteYear 77 = .ok (.getfield 15, 3) := by decide +kernel
theorem dX2_noteYear_80 : decode cX2_noteYear 80 = .ok (.iload 4, 2) := by decide +kernel
theorem dX2_noteYear_82 : decode cX2_noteYear 82 = .ok (.aload_n 0, 1) := by decide +kernel
theorem dX2_noteYear_83 : decode cX2_noteYear 83 = .ok (.getfield 15, 3) := by decide +kernel
theorem dX2_noteYear_86 : decode cX2_noteYear 86 = .ok (.iload 4, 2) := by decide +kernel
theorem dX2_noteYear_88 : decode cX2_noteYear 88 = .ok (.iconst 1, 1) := by decide +kernel
theorem dX2_noteYear_89 : decode cX2_noteYear 89 = .ok (.isub, 1) := by decide +kernel
theorem dX2_noteYear_90 : decode cX2_noteYear 90 = .ok (.iaload, 1) := by decide +kernel
theorem dX2_noteYear_91 : decode cX2_noteYear 91 = .ok (.iastore, 1) := by decide +kernel
theorem dX2_noteYear_92 : decode cX2_noteYear 92 = .ok (.iinc 4 (-1), 3) := by decide +kernel
theorem dX2_noteYear_95 : decode cX2_noteYear 95 = .ok (.goto (-25), 3) := by decide +kernel
theorem dX2_noteYear_98 : decode cX2_noteYear 98 = .ok (.aload_n 0, 1) := by decide +kernel
theorem dX2_noteYear_99 : decode cX2_noteYear 99 = .ok (.getfield 15, 3) := by decide +kernel
theorem dX2_noteYear_102 : decode cX2_noteYear 102 = .ok (.iload_n 2, 1) := by decide +kernel
theorem dX2_noteYear_103 : decode cX2_noteYear 103 = .ok (.iload_n 1, 1) := by decide +kernel
theorem dX2_noteYear_104 : decode cX2_noteYear 104 = .ok (.iastore, 1) := by decide +kernel
theorem dX2_noteYear_105 : decode cX2_noteYear 105 = .ok (.aload_n 0, 1) := by decide +kernel
theorem dX2_noteYear_106 : decode cX2_noteYear 106 = .ok (.dup, 1) := by decide +kernel
theorem dX2_noteYear_107 : decode cX2_noteYear 107 = .ok (.getfield 19, 3) := by decide +kernel
theorem dX2_noteYear_110 : decode cX2_noteYear 110 = .ok (.iconst 1, 1) := by decide +kernel
theorem dX2_noteYear_111 : decode cX2_noteYear 111 = .ok (.iadd, 1) := by decide +kernel
theorem dX2_noteYear_112 : decode cX2_noteYear 112 = .ok (.putfield 19, 3) := by decide +kernel
theorem dX2_noteYear_115 : decode cX2_noteYear 115 = .ok (.return_, 1) := by decide +kernel
theorem dX2_reachOf_0 : decode cX2_reachOf 0 = .ok (.aload_n 0, 1) := by decide +kernel
theorem dX2_reachOf_1 : decode cX2_reachOf 1 = .ok (.getfield 9, 3) := by decide +kernel
theorem dX2_reachOf_4 : decode cX2_reachOf 4 = .ok (.iconst 1, 1) := by decide +kernel
theorem dX2_reachOf_5 : decode cX2_reachOf 5 = .ok (.isub, 1) := by decide +kernel
theorem dX2_reachOf_6 : decode cX2_reachOf 6 = .ok (.istore 4, 2) := by decide +kernel
theorem dX2_reachOf_8 : decode cX2_reachOf 8 = .ok (.iload 4, 2) := by decide +kernel
theorem dX2_reachOf_10 : decode cX2_reachOf 10 = .ok (.ifCond .lt 61, 3) := by decide +kernel
theorem dX2_reachOf_13 : decode cX2_reachOf 13 = .ok (.aload_n 0, 1) := by decide +kernel
theorem dX2_reachOf_14 : decode cX2_reachOf 14 = .ok (.getfield 22, 3) := by decide +kernel
theorem dX2_reachOf_17 : decode cX2_reachOf 17 = .ok (.iload 4, 2) := by decide +kernel
theorem dX2_reachOf_19 : decode cX2_reachOf 19 = .ok (.iaload, 1) := by decide +kernel
theorem dX2_reachOf_20 : decode cX2_reachOf 20 = .ok (.iload_n 1, 1) := by decide +kernel
theorem dX2_reachOf_21 : decode cX2_reachOf 21 = .ok (.if_icmp .ne 44, 3) := by decide +kernel
theorem dX2_reachOf_24 : decode cX2_reachOf 24 = .ok (.aload_n 0, 1) := by decide +kernel
theorem dX2_reachOf_25 : decode cX2_reachOf 25 = .ok (.getfield 34, 3) := by decide +kernel
theorem dX2_reachOf_28 : decode cX2_reachOf 28 = .ok (.iload 4, 2) := by decide +kernel
theorem dX2_reachOf_30 : decode cX2_reachOf 30 = .ok (.iaload, 1) := by decide +kernel
theorem dX2_reachOf_31 : decode cX2_reachOf 31 = .ok (.iload_n 3, 1) := by decide +kernel
theorem dX2_reachOf_32 : decode cX2_reachOf 32 = .ok (.if_icmp .ne 33, 3) := by decide +kernel
theorem dX2_reachOf_35 : decode cX2_reachOf 35 = .ok (.aload_n 0, 1) := by decide +kernel
theorem dX2_reachOf_36 : decode cX2_reachOf 36 = .ok (.getfield 25, 3) := by decide +kernel
theorem dX2_reachOf_39 : decode cX2_reachOf 39 = .ok (.iload 4, 2) := by decide +kernel
theorem dX2_reachOf_41 : decode cX2_reachOf 41 = .ok (.iaload, 1) := by decide +kernel
theorem dX2_reachOf_42 : decode cX2_reachOf 42 = .ok (.iload_n 2, 1) := by decide +kernel
theorem dX2_reachOf_43 : decode cX2_reachOf 43 = .ok (.if_icmp .gt 22, 3) := by decide +kernel
theorem dX2_reachOf_46 : decode cX2_reachOf 46 = .ok (.iload_n 2, 1) := by decide +kernel
theorem dX2_reachOf_47 : decode cX2_reachOf 47 = .ok (.aload_n 0, 1) := by decide +kernel
theorem dX2_reachOf_48 : decode cX2_reachOf 48 = .ok (.getfield 28, 3) := by decide +kernel
theorem dX2_reachOf_51 : decode cX2_reachOf 51 = .ok (.iload 4, 2) := by decide +kernel
theorem dX2_reachOf_53 : decode cX2_reachOf 53 = .ok (.iaload, 1) := by decide +kernel
theorem dX2_reachOf_54 : decode cX2_reachOf 54 = .ok (.if_icmp .gt 11, 3) := by decide +kernel
theorem dX2_reachOf_57 : decode cX2_reachOf 57 = .ok (.aload_n 0, 1) := by decide +kernel
theorem dX2_reachOf_58 : decode cX2_reachOf 58 = .ok (.getfield 31, 3) := by decide +kernel
theorem dX2_reachOf_61 : decode cX2_reachOf 61 = .ok (.iload 4, 2) := by decide +kernel
theorem dX2_reachOf_63 : decode cX2_reachOf 63 = .ok (.iaload, 1) := by decide +kernel
theorem dX2_reachOf_64 : decode cX2_reachOf 64 = .ok (.ireturn, 1) := by decide +kernel
theorem dX2_reachOf_65 : decode cX2_reachOf 65 = .ok (.iinc 4 (-1), 3) := by decide +kernel
theorem dX2_reachOf_68 : decode cX2_reachOf 68 = .ok (.goto (-60), 3) := by decide +kernel
theorem dX2_reachOf_71 : decode cX2_reachOf 71 = .ok (.iconst (-1), 1) := by decide +kernel
theorem dX2_reachOf_72 : decode cX2_reachOf 72 = .ok (.ireturn, 1) := by decide +kernel
theorem dX3_init_0 : decode cX3_init 0 = .ok (.aload_n 0, 1) := by decide +kernel
theorem dX3_init_1 : decode cX3_init 1 = .ok (.invokespecial 3, 3) := by decide +kernel
theorem dX3_init_4 : decode cX3_init 4 = .ok (.aload_n 0, 1) := by decide +kernel
theorem dX3_init_5 : decode cX3_init 5 = .ok (.bipush 10, 2) := by decide +kernel
theorem dX3_init_7 : decode cX3_init 7 = .ok (.newarray .int, 2) := by decide +kernel
theorem dX3_init_9 : decode cX3_init 9 = .ok (.putfield 9, 3) := by decide +kernel
theorem dX3_init_12 : decode cX3_init 12 = .ok (.aload_n 0, 1) := by decide +kernel
theorem dX3_init_13 : decode cX3_init 13 = .ok (.iconst 0, 1) := by decide +kernel
theorem dX3_init_14 : decode cX3_init 14 = .ok (.putfield 15, 3) := by decide +kernel
theorem dX3_init_17 : decode cX3_init 17 = .ok (.aload_n 0, 1) := by decide +kernel
theorem dX3_init_18 : decode cX3_init 18 = .ok (.bipush 10, 2) := by decide +kernel
theorem dX3_init_20 : decode cX3_init 20 = .ok (.bipush 80, 2) := by decide +kernel
theorem dX3_init_22 : decode cX3_init 22 = .ok (.multianewarray 19 2, 4) := by decide +kernel
theorem dX3_init_26 : decode cX3_init 26 = .ok (.putfield 21, 3) := by decide +kernel
theorem dX3_init_29 : decode cX3_init 29 = .ok (.return_, 1) := by decide +kernel
theorem dX3_draw_0 : decode cX3_draw 0 = .ok (.bipush 9, 2) := by decide +kernel
theorem dX3_draw_2 : decode cX3_draw 2 = .ok (.istore_n 3, 1) := by decide +kernel
theorem dX3_draw_3 : decode cX3_draw 3 = .ok (.iload_n 3, 1) := by decide +kernel
theorem dX3_draw_4 : decode cX3_draw 4 = .ok (.ifCond .lt 57, 3) := by decide +kernel
theorem dX3_draw_7 : decode cX3_draw 7 = .ok (.aload_n 0, 1) := by decide +kernel
theorem dX3_draw_8 : decode cX3_draw 8 = .ok (.getfield 21, 3) := by decide +kernel
theorem dX3_draw_11 : decode cX3_draw 11 = .ok (.iload_n 3, 1) := by decide +kernel
theorem dX3_draw_12 : decode cX3_draw 12 = .ok (.aaload, 1) := by decide +kernel
theorem dX3_draw_13 : decode cX3_draw 13 = .ok (.astore 4, 2) := by decide +kernel
theorem dX3_draw_15 : decode cX3_draw 15 = .ok (.iload_n 3, 1) := by decide +kernel
theorem dX3_draw_16 : decode cX3_draw 16 = .ok (.bipush 9, 2) := by decide +kernel
theorem dX3_draw_18 : decode cX3_draw 18 = .ok (.if_icmp .ne 12, 3) := by decide +kernel
theorem dX3_draw_21 : decode cX3_draw 21 = .ok (.aload 4, 2) := by decide +kernel
theorem dX3_draw_23 : decode cX3_draw 23 = .ok (.iconst 0, 1) := by decide +kernel
theorem dX3_draw_24 : decode cX3_draw 24 = .ok (.invokestatic 24, 3) := by decide +kernel
theorem dX3_draw_27 : decode cX3_draw 27 = .ok (.goto 20, 3) := by decide +kernel
theorem dX3_draw_30 : decode cX3_draw 30 = .ok (.aload_n 0, 1) := by decide +kernel
theorem dX3_draw_31 : decode cX3_draw 31 = .ok (.getfield 21, 3) := by decide +kernel
theorem dX3_draw_34 : decode cX3_draw 34 = .ok (.iload_n 3, 1) := by decide +kernel
theorem dX3_draw_35 : decode cX3_draw 35 = .ok (.iconst 1, 1) := by decide +kernel
theorem dX3_draw_36 : decode cX3_draw 36 = .ok (.iadd, 1) := by decide +kernel
theorem dX3_draw_37 : decode cX3_draw 37 = .ok (.aaload, 1) := by decide +kernel
theorem dX3_draw_38 : decode cX3_draw 38 = .ok (.aload 4, 2) := by decide +kernel
theorem dX3_draw_40 : decode cX3_draw 40 = .ok (.aload_n 2, 1) := by decide +kernel
theorem dX3_draw_41 : decode cX3_draw 41 = .ok (.getfield 30, 3) := by decide +kernel
theorem dX3_draw_44 : decode cX3_draw 44 = .ok (.invokestatic 35, 3) := by decide +kernel
theorem dX3_draw_47 : decode cX3_draw 47 = .ok (.aload 4, 2) := by decide +kernel
theorem dX3_draw_49 : decode cX3_draw 49 = .ok (.iload_n 3, 1) := by decide +kernel
theorem dX3_draw_50 : decode cX3_draw 50 = .ok (.aload_n 1, 1) := by decide +kernel
theorem dX3_draw_51 : decode cX3_draw 51 = .ok (.aload_n 2, 1) := by decide +kernel
theorem dX3_draw_52 : decode cX3_draw 52 = .ok (.invokestatic 39, 3) := by decide +kernel
theorem dX3_draw_55 : decode cX3_draw 55 = .ok (.iinc 3 (-1), 3) := by decide +kernel
theorem dX3_draw_58 : decode cX3_draw 58 = .ok (.goto (-55), 3) := by decide +kernel
theorem dX3_draw_61 : decode cX3_draw 61 = .ok (.aload_n 0, 1) := by decide +kernel
theorem dX3_draw_62 : decode cX3_draw 62 = .ok (.aload_n 2, 1) := by decide +kernel
theorem dX3_draw_63 : decode cX3_draw 63 = .ok (.getfield 30, 3) := by decide +kernel
theorem dX3_draw_66 : decode cX3_draw 66 = .ok (.invokevirtual 43, 3) := by decide +kernel
theorem dX3_draw_69 : decode cX3_draw 69 = .ok (.return_, 1) := by decide +kernel
theorem dX3_bendTowards_0 : decode cX3_bendTowards 0 = .ok (.aload_n 0, 1) := by decide +kernel
theorem dX3_bendTowards_1 : decode cX3_bendTowards 1 = .ok (.iconst 0, 1) := by decide +kernel
theorem dX3_bendTowards_2 : decode cX3_bendTowards 2 = .ok (.aload_n 1, 1) := by decide +kernel
theorem dX3_bendTowards_3 : decode cX3_bendTowards 3 = .ok (.iconst 0, 1) := by decide +kernel
theorem dX3_bendTowards_4 : decode cX3_bendTowards 4 = .ok (.bipush 80, 2) := by decide +kernel
theorem dX3_bendTowards_6 : decode cX3_bendTowards 6 = .ok (.invokestatic 47, 3) := by decide +kernel
theorem dX3_bendTowards_9 : decode cX3_bendTowards 9 = .ok (.iconst 1, 1) := by decide +kernel
theorem dX3_bendTowards_10 : decode cX3_bendTowards 10 = .ok (.istore_n 3, 1) := by decide +kernel
theorem dX3_bendTowards_11 : decode cX3_bendTowards 11 = .ok (.iload_n 3, 1) := by decide +kernel
theorem dX3_bendTowards_12 : decode cX3_bendTowards 12 = .ok (.bipush 80, 2) := by decide +kernel
theorem dX3_bendTowards_14 : decode cX3_bendTowards 14 = .ok (.if_icmp .ge 25, 3) := by decide +kernel
theorem dX3_bendTowards_17 : decode cX3_bendTowards 17 = .ok (.aload_n 1, 1) := by decide +kernel
theorem dX3_bendTowards_18 : decode cX3_bendTowards 18 = .ok (.iload_n 3, 1) := by decide +kernel
theorem dX3_bendTowards_19 : decode cX3_bendTowards 19 = .ok (.aload_n 1, 1) := by decide +kernel
theorem dX3_bendTowards_20 : decode cX3_bendTowards 20 = .ok (.iload_n 3, 1) := by decide +kernel
theorem dX3_bendTowards_21 : decode cX3_bendTowards 21 = .ok (.iaload, 1) := by decide +kernel
theorem dX3_bendTowards_22 : decode cX3_bendTowards 22 = .ok (.aload_n 1, 1) := by decide +kernel
theorem dX3_bendTowards_23 : decode cX3_bendTowards 23 = .ok (.iload_n 3, 1) := by decide +kernel
theorem dX3_bendTowards_24 : decode cX3_bendTowards 24 = .ok (.iconst 1, 1) := by decide +kernel
theorem dX3_bendTowards_25 : decode cX3_bendTowards 25 = .ok (.isub, 1) := by decide +kernel
theorem dX3_bendTowards_26 : decode cX3_bendTowards 26 = .ok (.iaload, 1) := by decide +kernel
theorem dX3_bendTowards_27 : decode cX3_bendTowards 27 = .ok (.iload_n 2, 1) := by decide +kernel
theorem dX3_bendTowards_28 : decode cX3_bendTowards 28 = .ok (.iadd, 1) := by decide +kernel
theorem dX3_bendTowards_29 : decode cX3_bendTowards 29 = .ok (.invokestatic 53, 3) := by decide +kernel
theorem dX3_bendTowards_32 : decode cX3_bendTowards 32 = .ok (.iastore, 1) := by decide +kernel
theorem dX3_bendTowards_33 : decode cX3_bendTowards 33 = .ok (.iinc 3 1, 3) := by decide +kernel
theorem dX3_bendTowards_36 : decode cX3_bendTowards 36 = .ok (.goto (-25), 3) := by decide +kernel
theorem dX3_bendTowards_39 : decode cX3_bendTowards 39 = .ok (.bipush 78, 2) := by decide +kernel
theorem dX3_bendTowards_41 : decode cX3_bendTowards 41 = .ok (.istore_n 3, 1) := by decide +kernel
theorem dX3_bendTowards_42 : decode cX3_bendTowards 42 = .ok (.iload_n 3, 1) := by decide +kernel
theorem dX3_bendTowards_43 : decode cX3_bendTowards 43 = .ok (.ifCond .lt 25, 3) := by decide +kernel
theorem dX3_bendTowards_46 : decode cX3_bendTowards 46 = .ok (.aload_n 1, 1) := by decide +kernel
theorem dX3_bendTowards_47 : decode cX3_bendTowards 47 = .ok (.iload_n 3, 1) := by decide +kernel
theorem dX3_bendTowards_48 : decode cX3_bendTowards 48 = .ok (.aload_n 1, 1) := by decide +kernel
theorem dX3_bendTowards_49 : decode cX3_bendTowards 49 = .ok (.iload_n 3, 1) := by decide +kernel
theorem dX3_bendTowards_50 : decode cX3_bendTowards 50 = .ok (.iaload, 1) := by decide +kernel
theorem dX3_bendTowards_51 : decode cX3_bendTowards 51 = .ok (.aload_n 1, 1) := by decide +kernel
theorem dX3_bendTowards_52 : decode cX3_bendTowards 52 = .ok (.iload_n 3, 1) := by decide +kernel
theorem dX3_bendTowards_53 : decode cX3_bendTowards 53 = .ok (.iconst 1, 1) := by decide +kernel
theorem dX3_bendTowards_54 : decode cX3_bendTowards 54 = .ok (.iadd, 1) := by decide +kernel
theorem dX3_bendTowards_55 : decode cX3_bendTowards 55 = .ok (.iaload, 1) := by decide +kernel
theorem dX3_bendTowards_56 : decode cX3_bendTowards 56 = .ok (.iload_n 2, 1) := by decide +kernel
theorem dX3_bendTowards_57 : decode cX3_bendTowards 57 = .ok (.iadd, 1) := by decide +kernel
theorem dX3_bendTowards_58 : decode cX3_bendTowards 58 = .ok (.invokestatic 53, 3) := by decide +kernel
theorem dX3_bendTowards_61 : decode cX3_bendTowards 61 = .ok (.iastore, 1) := by decide +kernel
theorem dX3_bendTowards_62 : decode cX3_bendTowards 62 = .ok (.iinc 3 (-1), 3) := by decide +kernel
theorem dX3_bendTowards_65 : decode cX3_bendTowards 65 = .ok (.goto (-23), 3) := by decide +kernel
theorem dX3_bendTowards_68 : decode cX3_bendTowards 68 = .ok (.return_, 1) := by decide +kernel
theorem dX3_addMisses_0 : decode cX3_addMisses 0 = .ok (.iconst 0, 1) := by decide +kernel
theorem dX3_addMisses_1 : decode cX3_addMisses 1 = .ok (.istore 4, 2) := by decide +kernel
theorem dX3_addMisses_3 : decode cX3_addMisses 3 = .ok (.iload 4, 2) := by decide +kernel
theorem dX3_addMisses_5 : decode cX3_addMisses 5 = .ok (.aload_n 2, 1) := by decide +kernel
theorem dX3_addMisses_6 : decode cX3_addMisses 6 = .ok (.invokevirtual 59, 3) := by decide +kernel
theorem dX3_addMisses_9 : decode cX3_addMisses 9 = .ok (.if_icmp .ge 104, 3) := by decide +kernel
theorem dX3_addMisses_12 : decode cX3_addMisses 12 = .ok (.aload_n 2, 1) := by decide +kernel
theorem dX3_addMisses_13 : decode cX3_addMisses 13 = .ok (.iload 4, 2) := by decide +kernel
theorem dX3_addMisses_15 : decode cX3_addMisses 15 = .ok (.invokevirtual 65, 3) := by decide +kernel
theorem dX3_addMisses_18 : decode cX3_addMisses 18 = .ok (.checkcast 69, 3) := by decide +kernel
theorem dX3_addMisses_21 : decode cX3_addMisses 21 = .ok (.astore 5, 2) := by decide +kernel
theorem dX3_addMisses_23 : decode cX3_addMisses 23 = .ok (.aload 5, 2) := by decide +kernel
theorem dX3_addMisses_25 : decode cX3_addMisses 25 = .ok (.iload_n 1, 1) := by decide +kernel
theorem dX3_addMisses_26 : decode cX3_addMisses 26 = .ok (.aload_n 2, 1) := by decide +kernel
theorem dX3_addMisses_27 : decode cX3_addMisses 27 = .ok (.aload_n 3, 1) := by decide +kernel
theorem dX3_addMisses_28 : decode cX3_addMisses 28 = .ok (.invokevirtual 71, 3) := by decide +kernel
theorem dX3_addMisses_31 : decode cX3_addMisses 31 = .ok (.ifCond .eq 76, 3) := by decide +kernel
theorem dX3_addMisses_34 : decode cX3_addMisses 34 = .ok (.aload_n 3, 1) := by decide +kernel
theorem dX3_addMisses_35 : decode cX3_addMisses 35 = .ok (.getfield 75, 3) := by decide +kernel
theorem dX3_addMisses_38 : decode cX3_addMisses 38 = .ok (.aload 5, 2) := by decide +kernel
theorem dX3_addMisses_40 : decode cX3_addMisses 40 = .ok (.getfield 78, 3) := by decide +kernel
theorem dX3_addMisses_43 : decode cX3_addMisses 43 = .ok (.iaload, 1) := by decide +kernel
theorem dX3_addMisses_44 : decode cX3_addMisses 44 = .ok (.istore 6, 2) := by decide +kernel
theorem dX3_addMisses_46 : decode cX3_addMisses 46 = .ok (.aload 5, 2) := by decide +kernel
theorem dX3_addMisses_48 : decode cX3_addMisses 48 = .ok (.aload 5, 2) := by decide +kernel
theorem dX3_addMisses_50 : decode cX3_addMisses 50 = .ok (.getfield 81, 3) := by decide +kernel
theorem dX3_addMisses_53 : decode cX3_addMisses 53 = .ok (.aload_n 3, 1) := by decide +kernel
theorem dX3_addMisses_54 : decode cX3_addMisses 54 = .ok (.invokevirtual 84, 3) := by decide +kernel
theorem dX3_addMisses_57 : decode cX3_addMisses 57 = .ok (.istore 7, 2) := by decide +kernel
theorem dX3_addMisses_59 : decode cX3_addMisses 59 = .ok (.aload 5, 2) := by decide +kernel
theorem dX3_addMisses_61 : decode cX3_addMisses 61 = .ok (.aload 5, 2) := by decide +kernel
theorem dX3_addMisses_63 : decode cX3_addMisses 63 = .ok (.getfield 88, 3) := by decide +kernel
theorem dX3_addMisses_66 : decode cX3_addMisses 66 = .ok (.aload_n 3, 1) := by decide +kernel
theorem dX3_addMisses_67 : decode cX3_addMisses 67 = .ok (.invokevirtual 84, 3) := by decide +kernel
theorem dX3_addMisses_70 : decode cX3_addMisses 70 = .ok (.istore 8, 2) := by decide +kernel
theorem dX3_addMisses_72 : decode cX3_addMisses 72 = .ok (.iconst 0, 1) := by decide +kernel
theorem dX3_addMisses_73 : decode cX3_addMisses 73 = .ok (.istore 9, 2) := by decide +kernel
theorem dX3_addMisses_75 : decode cX3_addMisses 75 = .ok (.iload 9, 2) := by decide +kernel
theorem dX3_addMisses_77 : decode cX3_addMisses 77 = .ok (.bipush 80, 2) := by decide +kernel
theorem dX3_addMisses_79 : decode cX3_addMisses 79 = .ok (.if_icmp .ge 28, 3) := by decide +kernel
theorem dX3_addMisses_82 : decode cX3_addMisses 82 = .ok (.aload_n 0, 1) := by decide +kernel
theorem dX3_addMisses_83 : decode cX3_addMisses 83 = .ok (.iload 9, 2) := by decide +kernel
theorem dX3_addMisses_85 : decode cX3_addMisses 85 = .ok (.dup2, 1) := by decide +kernel
theorem dX3_addMisses_86 : decode cX3_addMisses 86 = .ok (.iaload, 1) := by decide +kernel
theorem dX3_addMisses_87 : decode cX3_addMisses 87 = .ok (.iload 6, 2) := by decide +kernel
theorem dX3_addMisses_89 : decode cX3_addMisses 89 = .ok (.iload 9, 2) := by decide +kernel
theorem dX3_addMisses_91 : decode cX3_addMisses 91 = .ok (.iload 7, 2) := by decide +kernel
theorem dX3_addMisses_93 : decode cX3_addMisses 93 = .ok (.iload 8, 2) := by decide +kernel
theorem dX3_addMisses_95 : decode cX3_addMisses 95 = .ok (.invokestatic 91, 3) := by decide +kernel
theorem dX3_addMisses_98 : decode cX3_addMisses 98 = .ok (.imul, 1) := by decide +kernel
theorem dX3_addMisses_99 : decode cX3_addMisses 99 = .ok (.iadd, 1) := by decide +kernel
theorem dX3_addMisses_100 : decode cX3_addMisses 100 = .ok (.iastore, 1) := by decide +kernel
theorem dX3_addMisses_101 : decode cX3_addMisses 101 = .ok (.iinc 9 1, 3) := by decide +kernel
theorem dX3_addMisses_104 : decode cX3_addMisses 104 = .ok (.goto (-29), 3) := by decide +kernel
theorem dX3_addMisses_107 : decode cX3_addMisses 107 = .ok (.iinc 4 1, 3) := by decide +kernel
theorem dX3_addMisses_110 : decode cX3_addMisses 110 = .ok (.goto (-107), 3) := by decide +kernel
theorem dX3_addMisses_113 : decode cX3_addMisses 113 = .ok (.return_, 1) := by decide +kernel
theorem dX3_chooseFeet_0 : decode cX3_chooseFeet 0 = .ok (.aload_n 0, 1) := by decide +kernel
theorem dX3_chooseFeet_1 : decode cX3_chooseFeet 1 = .ok (.getfield 9, 3) := by decide +kernel
theorem dX3_chooseFeet_4 : decode cX3_chooseFeet 4 = .ok (.iconst 0, 1) := by decide +kernel
theorem dX3_chooseFeet_5 : decode cX3_chooseFeet 5 = .ok (.aload_n 0, 1) := by decide +kernel
theorem dX3_chooseFeet_6 : decode cX3_chooseFeet 6 = .ok (.getfield 21, 3) := by decide +kernel
theorem dX3_chooseFeet_9 : decode cX3_chooseFeet 9 = .ok (.iconst 0, 1) := by decide +kernel
theorem dX3_chooseFeet_10 : decode cX3_chooseFeet 10 = .ok (.aaload, 1) := by decide +kernel
theorem dX3_chooseFeet_11 : decode cX3_chooseFeet 11 = .ok (.iconst 0, 1) := by decide +kernel
theorem dX3_chooseFeet_12 : decode cX3_chooseFeet 12 = .ok (.iconst 0, 1) := by decide +kernel
theorem dX3_chooseFeet_13 : decode cX3_chooseFeet 13 = .ok (.invokestatic 95, 3) := by decide +kernel
theorem dX3_chooseFeet_16 : decode cX3_chooseFeet 16 = .ok (.iastore, 1) := by decide +kernel
theorem dX3_chooseFeet_17 : decode cX3_chooseFeet 17 = .ok (.aload_n 0, 1) := by decide +kernel
theorem dX3_chooseFeet_18 : decode cX3_chooseFeet 18 = .ok (.aload_n 0, 1) := by decide +kernel
theorem dX3_chooseFeet_19 : decode cX3_chooseFeet 19 = .ok (.getfield 21, 3) := by decide +kernel
theorem dX3_chooseFeet_22 : decode cX3_chooseFeet 22 = .ok (.iconst 0, 1) := by decide +kernel
theorem dX3_chooseFeet_23 : decode cX3_chooseFeet 23 = .ok (.aaload, 1) := by decide +kernel
theorem dX3_chooseFeet_24 : decode cX3_chooseFeet 24 = .ok (.aload_n 0, 1) := by decide +kernel
theorem dX3_chooseFeet_25 : decode cX3_chooseFeet 25 = .ok (.getfield 9, 3) := by decide +kernel
theorem dX3_chooseFeet_28 : decode cX3_chooseFeet 28 = .ok (.iconst 0, 1) := by decide +kernel
theorem dX3_chooseFeet_29 : decode cX3_chooseFeet 29 = .ok (.iaload, 1) := by decide +kernel
theorem dX3_chooseFeet_30 : decode cX3_chooseFeet 30 = .ok (.iaload, 1) := by decide +kernel
theorem dX3_chooseFeet_31 : decode cX3_chooseFeet 31 = .ok (.putfield 15, 3) := by decide +kernel
theorem dX3_chooseFeet_34 : decode cX3_chooseFeet 34 = .ok (.iconst 1, 1) := by decide +kernel
theorem dX3_chooseFeet_35 : decode cX3_chooseFeet 35 = .ok (.istore_n 2, 1) := by decide +kernel
theorem dX3_chooseFeet_36 : decode cX3_chooseFeet 36 = .ok (.iload_n 2, 1) := by decide +kernel
theorem dX3_chooseFeet_37 : decode cX3_chooseFeet 37 = .ok (.bipush 10, 2) := by decide +kernel
theorem dX3_chooseFeet_39 : decode cX3_chooseFeet 39 = .ok (.if_icmp .ge 33, 3) := by decide +kernel
theorem dX3_chooseFeet_42 : decode cX3_chooseFeet 42 = .ok (.aload_n 0, 1) := by decide +kernel
theorem dX3_chooseFeet_43 : decode cX3_chooseFeet 43 = .ok (.getfield 9, 3) := by decide +kernel
theorem dX3_chooseFeet_46 : decode cX3_chooseFeet 46 = .ok (.iload_n 2, 1) := by decide +kernel
theorem dX3_chooseFeet_47 : decode cX3_chooseFeet 47 = .ok (.aload_n 0, 1) := by decide +kernel
theorem dX3_chooseFeet_48 : decode cX3_chooseFeet 48 = .ok (.getfield 21, 3) := by decide +kernel
theorem dX3_chooseFeet_51 : decode cX3_chooseFeet 51 = .ok (.iload_n 2, 1) := by decide +kernel
theorem dX3_chooseFeet_52 : decode cX3_chooseFeet 52 = .ok (.aaload, 1) := by decide +kernel
theorem dX3_chooseFeet_53 : decode cX3_chooseFeet 53 = .ok (.aload_n 0, 1) := by decide +kernel
theorem dX3_chooseFeet_54 : decode cX3_chooseFeet 54 = .ok (.getfield 9, 3) := by decide +kernel
theorem dX3_chooseFeet_57 : decode cX3_chooseFeet 57 = .ok (.iload_n 2, 1) := by decide +kernel
theorem dX3_chooseFeet_58 : decode cX3_chooseFeet 58 = .ok (.iconst 1, 1) := by decide +kernel
theorem dX3_chooseFeet_59 : decode cX3_chooseFeet 59 = .ok (.isub, 1) := by decide +kernel
theorem dX3_chooseFeet_60 : decode cX3_chooseFeet 60 = .ok (.iaload, 1) := by decide +kernel
theorem dX3_chooseFeet_61 : decode cX3_chooseFeet 61 = .ok (.iload_n 1, 1) := by decide +kernel
theorem dX3_chooseFeet_62 : decode cX3_chooseFeet 62 = .ok (.invokestatic 95, 3) := by decide +kernel
theorem dX3_chooseFeet_65 : decode cX3_chooseFeet 65 = .ok (.iastore, 1) := by decide +kernel
theorem dX3_chooseFeet_66 : decode cX3_chooseFeet 66 = .ok (.iinc 2 1, 3) := by decide +kernel
theorem dX3_chooseFeet_69 : decode cX3_chooseFeet 69 = .ok (.goto (-33), 3) := by decide +kernel
theorem dX3_chooseFeet_72 : decode cX3_chooseFeet 72 = .ok (.return_, 1) := by decide +kernel
theorem dX3_cheapest_0 : decode cX3_cheapest 0 = .ok (.iconst 0, 1) := by decide +kernel
theorem dX3_cheapest_1 : decode cX3_cheapest 1 = .ok (.istore_n 3, 1) := by decide +kernel
theorem dX3_cheapest_2 : decode cX3_cheapest 2 = .ok (.iconst 1, 1) := by decide +kernel
theorem dX3_cheapest_3 : decode cX3_cheapest 3 = .ok (.istore 4, 2) := by decide +kernel
theorem dX3_cheapest_5 : decode cX3_cheapest 5 = .ok (.iload 4, 2) := by decide +kernel
theorem dX3_cheapest_7 : decode cX3_cheapest 7 = .ok (.bipush 80, 2) := by decide +kernel
theorem dX3_cheapest_9 : decode cX3_cheapest 9 = .ok (.if_icmp .ge 30, 3) := by decide +kernel
theorem dX3_cheapest_12 : decode cX3_cheapest 12 = .ok (.aload_n 0, 1) := by decide +kernel
theorem dX3_cheapest_13 : decode cX3_cheapest 13 = .ok (.iload 4, 2) := by decide +kernel
theorem dX3_cheapest_15 : decode cX3_cheapest 15 = .ok (.iload_n 1, 1) := by decide +kernel
theorem dX3_cheapest_16 : decode cX3_cheapest 16 = .ok (.iload_n 2, 1) := by decide +kernel
theorem dX3_cheapest_17 : decode cX3_cheapest 17 = .ok (.invokestatic 99, 3) := by decide +kernel
theorem dX3_cheapest_20 : decode cX3_cheapest 20 = .ok (.aload_n 0, 1) := by decide +kernel
theorem dX3_cheapest_21 : decode cX3_cheapest 21 = .ok (.iload_n 3, 1) := by decide +kernel
theorem dX3_cheapest_22 : decode cX3_cheapest 22 = .ok (.iload_n 1, 1) := by decide +kernel
theorem dX3_cheapest_23 : decode cX3_cheapest 23 = .ok (.iload_n 2, 1) := by decide +kernel
theorem dX3_cheapest_24 : decode cX3_cheapest 24 = .ok (.invokestatic 99, 3) := by decide +kernel
theorem dX3_cheapest_27 : decode cX3_cheapest 27 = .ok (.if_icmp .ge 6, 3) := by decide +kernel
theorem dX3_cheapest_30 : decode cX3_cheapest 30 = .ok (.iload 4, 2) := by decide +kernel
theorem dX3_cheapest_32 : decode cX3_cheapest 32 = .ok (.istore_n 3, 1) := by decide +kernel
theorem dX3_cheapest_33 : decode cX3_cheapest 33 = .ok (.iinc 4 1, 3) := by decide +kernel
theorem dX3_cheapest_36 : decode cX3_cheapest 36 = .ok (.goto (-31), 3) := by decide +kernel
theorem dX3_cheapest_39 : decode cX3_cheapest 39 = .ok (.iload_n 3, 1) := by decide +kernel
theorem dX3_cheapest_40 : decode cX3_cheapest 40 = .ok (.ireturn, 1) := by decide +kernel
theorem dX3_priceOf_0 : decode cX3_priceOf 0 = .ok (.aload_n 0, 1) := by decide +kernel
theorem dX3_priceOf_1 : decode cX3_priceOf 1 = .ok (.iload_n 1, 1) := by decide +kernel
theorem dX3_priceOf_2 : decode cX3_priceOf 2 = .ok (.iaload, 1) := by decide +kernel
theorem dX3_priceOf_3 : decode cX3_priceOf 3 = .ok (.iload_n 3, 1) := by decide +kernel
theorem dX3_priceOf_4 : decode cX3_priceOf 4 = .ok (.iload_n 1, 1) := by decide +kernel
theorem dX3_priceOf_5 : decode cX3_priceOf 5 = .ok (.iload_n 2, 1) := by decide +kernel
theorem dX3_priceOf_6 : decode cX3_priceOf 6 = .ok (.isub, 1) := by decide +kernel
theorem dX3_priceOf_7 : decode cX3_priceOf 7 = .ok (.invokestatic 103, 3) := by decide +kernel
theorem dX3_priceOf_10 : decode cX3_priceOf 10 = .ok (.imul, 1) := by decide +kernel
theorem dX3_priceOf_11 : decode cX3_priceOf 11 = .ok (.iadd, 1) := by decide +kernel
theorem dX3_priceOf_12 : decode cX3_priceOf 12 = .ok (.ireturn, 1) := by decide +kernel
theorem dX4_init_0 : decode cX4_init 0 = .ok (.aload_n 0, 1) := by decide +kernel
theorem dX4_init_1 : decode cX4_init 1 = .ok (.invokespecial 3, 3) := by decide +kernel
theorem dX4_init_4 : decode cX4_init 4 = .ok (.aload_n 0, 1) := by decide +kernel
theorem dX4_init_5 : decode cX4_init 5 = .ok (.bipush 20, 2) := by decide +kernel
theorem dX4_init_7 : decode cX4_init 7 = .ok (.newarray .int, 2) := by decide +kernel
theorem dX4_init_9 : decode cX4_init 9 = .ok (.putfield 9, 3) := by decide +kernel
theorem dX4_init_12 : decode cX4_init 12 = .ok (.aload_n 0, 1) := by decide +kernel
theorem dX4_init_13 : decode cX4_init 13 = .ok (.bipush 20, 2) := by decide +kernel
theorem dX4_init_15 : decode cX4_init 15 = .ok (.newarray .int, 2) := by decide +kernel
theorem dX4_init_17 : decode cX4_init 17 = .ok (.putfield 15, 3) := by decide +kernel
theorem dX4_init_20 : decode cX4_init 20 = .ok (.aload_n 0, 1) := by decide +kernel
theorem dX4_init_21 : decode cX4_init 21 = .ok (.iconst 0, 1) := by decide +kernel
theorem dX4_init_22 : decode cX4_init 22 = .ok (.putfield 18, 3) := by decide +kernel
theorem dX4_init_25 : decode cX4_init 25 = .ok (.return_, 1) := by decide +kernel
theorem dX4_tell_0 : decode cX4_tell 0 = .ok (.aload_n 0, 1) := by decide +kernel
theorem dX4_tell_1 : decode cX4_tell 1 = .ok (.getfield 18, 3) := by decide +kernel
theorem dX4_tell_4 : decode cX4_tell 4 = .ok (.bipush 20, 2) := by decide +kernel
theorem dX4_tell_6 : decode cX4_tell 6 = .ok (.if_icmp .ge 12, 3) := by decide +kernel
theorem dX4_tell_9 : decode cX4_tell 9 = .ok (.aload_n 0, 1) := by decide +kernel
theorem dX4_tell_10 : decode cX4_tell 10 = .ok (.iload_n 1, 1) := by decide +kernel
theorem dX4_tell_11 : decode cX4_tell 11 = .ok (.iload_n 2, 1) := by decide +kernel
theorem dX4_tell_12 : decode cX4_tell 12 = .ok (.invokevirtual 22, 3) := by decide +kernel
theorem dX4_tell_15 : decode cX4_tell 15 = .ok (.ifCond .eq 5, 3) := by decide +kernel
theorem dX4_tell_18 : decode cX4_tell 18 = .ok (.iconst 0, 1) := by decide +kernel
theorem dX4_tell_19 : decode cX4_tell 19 = .ok (.ireturn, 1) := by decide +kernel
theorem dX4_tell_20 : decode cX4_tell 20 = .ok (.aload_n 0, 1) := by decide +kernel
theorem dX4_tell_21 : decode cX4_tell 21 = .ok (.getfield 9, 3) := by decide +kernel
theorem dX4_tell_24 : decode cX4_tell 24 = .ok (.aload_n 0, 1) := by decide +kernel
theorem dX4_tell_25 : decode cX4_tell 25 = .ok (.getfield 18, 3) := by decide +kernel
theorem dX4_tell_28 : decode cX4_tell 28 = .ok (.iload_n 1, 1) := by decide +kernel
theorem dX4_tell_29 : decode cX4_tell 29 = .ok (.iastore, 1) := by decide +kernel
theorem dX4_tell_30 : decode cX4_tell 30 = .ok (.aload_n 0, 1) := by decide +kernel
theorem dX4_tell_31 : decode cX4_tell 31 = .ok (.getfield 15, 3) := by decide +kernel
theorem dX4_tell_34 : decode cX4_tell 34 = .ok (.aload_n 0, 1) := by decide +kernel
theorem dX4_tell_35 : decode cX4_tell 35 = .ok (.getfield 18, 3) := by decide +kernel
theorem dX4_tell_38 : decode cX4_tell 38 = .ok (.iload_n 2, 1) := by decide +kernel
theorem dX4_tell_39 : decode cX4_tell 39 = .ok (.iastore, 1) := by decide +kernel
theorem dX4_tell_40 : decode cX4_tell 40 = .ok (.aload_n 0, 1) := by decide +kernel
theorem dX4_tell_41 : decode cX4_tell 41 = .ok (.dup, 1) := by decide +kernel
theorem dX4_tell_42 : decode cX4_tell 42 = .ok (.getfield 18, 3) := by decide +kernel
theorem dX4_tell_45 : decode cX4_tell 45 = .ok (.iconst 1, 1) := by decide +kernel
theorem dX4_tell_46 : decode cX4_tell 46 = .ok (.iadd, 1) := by decide +kernel
theorem dX4_tell_47 : decode cX4_tell 47 = .ok (.putfield 18, 3) := by decide +kernel
theorem dX4_tell_50 : decode cX4_tell 50 = .ok (.iconst 1, 1) := by decide +kernel
theorem dX4_tell_51 : decode cX4_tell 51 = .ok (.ireturn, 1) := by decide +kernel
theorem dX4_isTold_0 : decode cX4_isTold 0 = .ok (.iconst 0, 1) := by decide +kernel
theorem dX4_isTold_1 : decode cX4_isTold 1 = .ok (.istore_n 3, 1) := by decide +kernel
theorem dX4_isTold_2 : decode cX4_isTold 2 = .ok (.iload_n 3, 1) := by decide +kernel
theorem dX4_isTold_3 : decode cX4_isTold 3 = .ok (.aload_n 0, 1) := by decide +kernel
theorem dX4_isTold_4 : decode cX4_isTold 4 = .ok (.getfield 18, 3) := by decide +kernel
theorem dX4_isTold_7 : decode cX4_isTold 7 = .ok (.if_icmp .ge 31, 3) := by decide +kernel
theorem dX4_isTold_10 : decode cX4_isTold 10 = .ok (.aload_n 0, 1) := by decide +kernel
theorem dX4_isTold_11 : decode cX4_isTold 11 = .ok (.getfield 9, 3) := by decide +kernel
theorem dX4_isTold_14 : decode cX4_isTold 14 = .ok (.iload_n 3, 1) := by decide +kernel
theorem dX4_isTold_15 : decode cX4_isTold 15 = .ok (.iaload, 1) := by decide +kernel
theorem dX4_isTold_16 : decode cX4_isTold 16 = .ok (.iload_n 1, 1) := by decide +kernel
theorem dX4_isTold_17 : decode cX4_isTold 17 = .ok (.if_icmp .ne 15, 3) := by decide +kernel
theorem dX4_isTold_20 : decode cX4_isTold 20 = .ok (.aload_n 0, 1) := by decide +kernel
theorem dX4_isTold_21 : decode cX4_isTold 21 = .ok (.getfield 15, 3) := by decide +kernel
theorem dX4_isTold_24 : decode cX4_isTold 24 = .ok (.iload_n 3, 1) := by decide +kernel
theorem dX4_isTold_25 : decode cX4_isTold 25 = .ok (.iaload, 1) := by decide +kernel
theorem dX4_isTold_26 : decode cX4_isTold 26 = .ok (.iload_n 2, 1) := by decide +kernel
theorem dX4_isTold_27 : decode cX4_isTold 27 = .ok (.if_icmp .ne 5, 3) := by decide +kernel
theorem dX4_isTold_30 : decode cX4_isTold 30 = .ok (.iconst 1, 1) := by decide +kernel
theorem dX4_isTold_31 : decode cX4_isTold 31 = .ok (.ireturn, 1) := by decide +kernel
theorem dX4_isTold_32 : decode cX4_isTold 32 = .ok (.iinc 3 1, 3) := by decide +kernel
theorem dX4_isTold_35 : decode cX4_isTold 35 = .ok (.goto (-33), 3) := by decide +kernel
theorem dX4_isTold_38 : decode cX4_isTold 38 = .ok (.iconst 0, 1) := by decide +kernel
theorem dX4_isTold_39 : decode cX4_isTold 39 = .ok (.ireturn, 1) := by decide +kernel
theorem dX5_init_0 : decode cX5_init 0 = .ok (.aload_n 0, 1) := by decide +kernel
theorem dX5_init_1 : decode cX5_init 1 = .ok (.invokespecial 3, 3) := by decide +kernel
theorem dX5_init_4 : decode cX5_init 4 = .ok (.aload_n 0, 1) := by decide +kernel
theorem dX5_init_5 : decode cX5_init 5 = .ok (.iconst 0, 1) := by decide +kernel
theorem dX5_init_6 : decode cX5_init 6 = .ok (.putfield 9, 3) := by decide +kernel
theorem dX5_init_9 : decode cX5_init 9 = .ok (.aload_n 0, 1) := by decide +kernel
theorem dX5_init_10 : decode cX5_init 10 = .ok (.iconst 0, 1) := by decide +kernel
theorem dX5_init_11 : decode cX5_init 11 = .ok (.putfield 15, 3) := by decide +kernel
theorem dX5_init_14 : decode cX5_init 14 = .ok (.aload_n 0, 1) := by decide +kernel
theorem dX5_init_15 : decode cX5_init 15 = .ok (.iconst (-1), 1) := by decide +kernel
theorem dX5_init_16 : decode cX5_init 16 = .ok (.putfield 19, 3) := by decide +kernel
theorem dX5_init_19 : decode cX5_init 19 = .ok (.aload_n 0, 1) := by decide +kernel
theorem dX5_init_20 : decode cX5_init 20 = .ok (.iconst (-1), 1) := by decide +kernel
theorem dX5_init_21 : decode cX5_init 21 = .ok (.putfield 22, 3) := by decide +kernel
theorem dX5_init_24 : decode cX5_init 24 = .ok (.aload_n 0, 1) := by decide +kernel
theorem dX5_init_25 : decode cX5_init 25 = .ok (.iconst (-1), 1) := by decide +kernel
theorem dX5_init_26 : decode cX5_init 26 = .ok (.putfield 25, 3) := by decide +kernel
theorem dX5_init_29 : decode cX5_init 29 = .ok (.aload_n 0, 1) := by decide +kernel
theorem dX5_init_30 : decode cX5_init 30 = .ok (.iconst 0, 1) := by decide +kernel
theorem dX5_init_31 : decode cX5_init 31 = .ok (.putfield 28, 3) := by decide +kernel
theorem dX5_init_34 : decode cX5_init 34 = .ok (.aload_n 0, 1) := by decide +kernel
theorem dX5_init_35 : decode cX5_init 35 = .ok (.iconst 0, 1) := by decide +kernel
theorem dX5_init_36 : decode cX5_init 36 = .ok (.putfield 31, 3) := by decide +kernel
theorem dX5_init_39 : decode cX5_init 39 = .ok (.aload_n 0, 1) := by decide +kernel
theorem dX5_init_40 : decode cX5_init 40 = .ok (.iconst 2, 1) := by decide +kernel
theorem dX5_init_41 : decode cX5_init 41 = .ok (.newarray .int, 2) := by decide +kernel
theorem dX5_init_43 : decode cX5_init 43 = .ok (.putfield 34, 3) := by decide +kernel
theorem dX5_init_46 : decode cX5_init 46 = .ok (.aload_n 0, 1) := by decide +kernel
theorem dX5_init_47 : decode cX5_init 47 = .ok (.iconst 2, 1) := by decide +kernel
theorem dX5_init_48 : decode cX5_init 48 = .ok (.newarray .int, 2) := by decide +kernel
theorem dX5_init_50 : decode cX5_init 50 = .ok (.putfield 38, 3) := by decide +kernel
theorem dX5_init_53 : decode cX5_init 53 = .ok (.aload_n 0, 1) := by decide +kernel
theorem dX5_init_54 : decode cX5_init 54 = .ok (.iconst 2, 1) := by decide +kernel
theorem dX5_init_55 : decode cX5_init 55 = .ok (.newarray .int, 2) := by decide +kernel
theorem dX5_init_57 : decode cX5_init 57 = .ok (.putfield 41, 3) := by decide +kernel
theorem dX5_init_60 : decode cX5_init 60 = .ok (.return_, 1) := by decide +kernel
theorem dX5_isParty_0 : decode cX5_isParty 0 = .ok (.iload_n 0, 1) := by decide +kernel
theorem dX5_isParty_1 : decode cX5_isParty 1 = .ok (.bipush 100, 2) := by decide +kernel
theorem dX5_isParty_3 : decode cX5_isParty 3 = .ok (.invokestatic 44, 3) := by decide +kernel
theorem dX5_isParty_6 : decode cX5_isParty 6 = .ok (.ifCond .eq 28, 3) := by decide +kernel
theorem dX5_isParty_9 : decode cX5_isParty 9 = .ok (.iload_n 1, 1) := by decide +kernel
theorem dX5_isParty_10 : decode cX5_isParty 10 = .ok (.sipush 1000, 3) := by decide +kernel
theorem dX5_isParty_13 : decode cX5_isParty 13 = .ok (.invokestatic 44, 3) := by decide +kernel
theorem dX5_isParty_16 : decode cX5_isParty 16 = .ok (.ifCond .eq 18, 3) := by decide +kernel
theorem dX5_isParty_19 : decode cX5_isParty 19 = .ok (.iload_n 2, 1) := by decide +kernel
theorem dX5_isParty_20 : decode cX5_isParty 20 = .ok (.iconst 1, 1) := by decide +kernel
theorem dX5_isParty_21 : decode cX5_isParty 21 = .ok (.if_icmp .lt 13, 3) := by decide +kernel
theorem dX5_isParty_24 : decode cX5_isParty 24 = .ok (.iload_n 2, 1) := by decide +kernel
theorem dX5_isParty_25 : decode cX5_isParty 25 = .ok (.bipush 99, 2) := by decide +kernel
theorem dX5_isParty_27 : decode cX5_isParty 27 = .ok (.if_icmp .gt 7, 3) := by decide +kernel
theorem dX5_isParty_30 : decode cX5_isParty 30 = .ok (.iconst 1, 1) := by decide +kernel
theorem dX5_isParty_31 : decode cX5_isParty 31 = .ok (.goto 4, 3) := by decide +kernel
theorem dX5_isParty_34 : decode cX5_isParty 34 = .ok (.iconst 0, 1) := by decide +kernel
theorem dX5_isParty_35 : decode cX5_isParty 35 = .ok (.ireturn, 1) := by decide +kernel
theorem dX5_open_0 : decode cX5_open 0 = .ok (.aload_n 0, 1) := by decide +kernel
theorem dX5_open_1 : decode cX5_open 1 = .ok (.iconst 1, 1) := by decide +kernel
theorem dX5_open_2 : decode cX5_open 2 = .ok (.putfield 9, 3) := by decide +kernel
theorem dX5_open_5 : decode cX5_open 5 = .ok (.aload_n 0, 1) := by decide +kernel
theorem dX5_open_6 : decode cX5_open 6 = .ok (.iload_n 1, 1) := by decide +kernel
theorem dX5_open_7 : decode cX5_open 7 = .ok (.putfield 28, 3) := by decide +kernel
theorem dX5_open_10 : decode cX5_open 10 = .ok (.aload_n 0, 1) := by decide +kernel
theorem dX5_open_11 : decode cX5_open 11 = .ok (.iload_n 2, 1) := by decide +kernel
theorem dX5_open_12 : decode cX5_open 12 = .ok (.putfield 31, 3) := by decide +kernel
theorem dX5_open_15 : decode cX5_open 15 = .ok (.return_, 1) := by decide +kernel
theorem dX5_setParty_0 : decode cX5_setParty 0 = .ok (.aload_n 0, 1) := by decide +kernel
theorem dX5_setParty_1 : decode cX5_setParty 1 = .ok (.getfield 34, 3) := by decide +kernel
theorem dX5_setParty_4 : decode cX5_setParty 4 = .ok (.iload_n 1, 1) := by decide +kernel
theorem dX5_setParty_5 : decode cX5_setParty 5 = .ok (.iload_n 2, 1) := by decide +kernel
theorem dX5_setParty_6 : decode cX5_setParty 6 = .ok (.iastore, 1) := by decide +kernel
theorem dX5_setParty_7 : decode cX5_setParty 7 = .ok (.aload_n 0, 1) := by decide +kernel
theorem dX5_setParty_8 : decode cX5_setParty 8 = .ok (.getfield 38, 3) := by decide +kernel
theorem dX5_setParty_11 : decode cX5_setParty 11 = .ok (.iload_n 1, 1) := by decide +kernel
theorem dX5_setParty_12 : decode cX5_setParty 12 = .ok (.iload_n 3, 1) := by decide +kernel
theorem dX5_setParty_13 : decode cX5_setParty 13 = .ok (.iastore, 1) := by decide +kernel
theorem dX5_setParty_14 : decode cX5_setParty 14 = .ok (.aload_n 0, 1) := by decide +kernel
theorem dX5_setParty_15 : decode cX5_setParty 15 = .ok (.getfield 41, 3) := by decide +kernel
theorem dX5_setParty_18 : decode cX5_setParty 18 = .ok (.iload_n 1, 1) := by decide +kernel
theorem dX5_setParty_19 : decode cX5_setParty 19 = .ok (.iload 4, 2) := by decide +kernel
theorem dX5_setParty_21 : decode cX5_setParty 21 = .ok (.iastore, 1) := by decide +kernel
theorem dX5_setParty_22 : decode cX5_setParty 22 = .ok (.return_, 1) := by decide +kernel
theorem dX5_judge_0 : decode cX5_judge 0 = .ok (.aload_n 0, 1) := by decide +kernel
theorem dX5_judge_1 : decode cX5_judge 1 = .ok (.iconst 0, 1) := by decide +kernel
theorem dX5_judge_2 : decode cX5_judge 2 = .ok (.putfield 15, 3) := by decide +kernel
theorem dX5_judge_5 : decode cX5_judge 5 = .ok (.aload_n 0, 1) := by decide +kernel
theorem dX5_judge_6 : decode cX5_judge 6 = .ok (.iconst (-1), 1) := by decide +kernel
theorem dX5_judge_7 : decode cX5_judge 7 = .ok (.putfield 19, 3) := by decide +kernel
theorem dX5_judge_10 : decode cX5_judge 10 = .ok (.aload_n 0, 1) := by decide +kernel
theorem dX5_judge_11 : decode cX5_judge 11 = .ok (.iconst (-1), 1) := by decide +kernel
theorem dX5_judge_12 : decode cX5_judge 12 = .ok (.putfield 22, 3) := by decide +kernel
theorem dX5_judge_15 : decode cX5_judge 15 = .ok (.aload_n 0, 1) := by decide +kernel
theorem dX5_judge_16 : decode cX5_judge 16 = .ok (.iconst (-1), 1) := by decide +kernel
theorem dX5_judge_17 : decode cX5_judge 17 = .ok (.putfield 25, 3) := by decide +kernel
theorem dX5_judge_20 : decode cX5_judge 20 = .ok (.iconst 0, 1) := by decide +kernel
theorem dX5_judge_21 : decode cX5_judge 21 = .ok (.istore_n 1, 1) := by decide +kernel
theorem dX5_judge_22 : decode cX5_judge 22 = .ok (.aload_n 0, 1) := by decide +kernel
theorem dX5_judge_23 : decode cX5_judge 23 = .ok (.getfield 31, 3) := by decide +kernel
theorem dX5_judge_26 : decode cX5_judge 26 = .ok (.istore_n 2, 1) := by decide +kernel
theorem dX5_judge_27 : decode cX5_judge 27 = .ok (.iload_n 2, 1) := by decide +kernel
theorem dX5_judge_28 : decode cX5_judge 28 = .ok (.aload_n 0, 1) := by decide +kernel
theorem dX5_judge_29 : decode cX5_judge 29 = .ok (.getfield 28, 3) := by decide +kernel
theorem dX5_judge_32 : decode cX5_judge 32 = .ok (.if_icmp .gt 94, 3) := by decide +kernel
theorem dX5_judge_35 : decode cX5_judge 35 = .ok (.aload_n 0, 1) := by decide +kernel
theorem dX5_judge_36 : decode cX5_judge 36 = .ok (.iconst 0, 1) := by decide +kernel
theorem dX5_judge_37 : decode cX5_judge 37 = .ok (.iload_n 2, 1) := by decide +kernel
theorem dX5_judge_38 : decode cX5_judge 38 = .ok (.aload_n 0, 1) := by decide +kernel
theorem dX5_judge_39 : decode cX5_judge 39 = .ok (.getfield 31, 3) := by decide +kernel
theorem dX5_judge_42 : decode cX5_judge 42 = .ok (.isub, 1) := by decide +kernel
theorem dX5_judge_43 : decode cX5_judge 43 = .ok (.invokevirtual 48, 3) := by decide +kernel
theorem dX5_judge_46 : decode cX5_judge 46 = .ok (.aload_n 0, 1) := by decide +kernel
theorem dX5_judge_47 : decode cX5_judge 47 = .ok (.iconst 1, 1) := by decide +kernel
theorem dX5_judge_48 : decode cX5_judge 48 = .ok (.aload_n 0, 1) := by decide +kernel
theorem dX5_judge_49 : decode cX5_judge 49 = .ok (.getfield 28, 3) := by decide +kernel
theorem dX5_judge_52 : decode cX5_judge 52 = .ok (.iload_n 2, 1) := by decide +kernel
theorem dX5_judge_53 : decode cX5_judge 53 = .ok (.isub, 1) := by decide +kernel
theorem dX5_judge_54 : decode cX5_judge 54 = .ok (.invokevirtual 48, 3) := by decide +kernel
theorem dX5_judge_57 : decode cX5_judge 57 = .ok (.invokestatic 52, 3) := by decide +kernel
theorem dX5_judge_60 : decode cX5_judge 60 = .ok (.istore_n 3, 1) := by decide +kernel
theorem dX5_judge_61 : decode cX5_judge 61 = .ok (.iload_n 3, 1) := by decide +kernel
theorem dX5_judge_62 : decode cX5_judge 62 = .ok (.ifCond .lt 58, 3) := by decide +kernel
theorem dX5_judge_65 : decode cX5_judge 65 = .ok (.aload_n 0, 1) := by decide +kernel
theorem dX5_judge_66 : decode cX5_judge 66 = .ok (.dup, 1) := by decide +kernel
theorem dX5_judge_67 : decode cX5_judge 67 = .ok (.getfield 15, 3) := by decide +kernel
theorem dX5_judge_70 : decode cX5_judge 70 = .ok (.iconst 1, 1) := by decide +kernel
theorem dX5_judge_71 : decode cX5_judge 71 = .ok (.iadd, 1) := by decide +kernel
theorem dX5_judge_72 : decode cX5_judge 72 = .ok (.putfield 15, 3) := by decide +kernel
theorem dX5_judge_75 : decode cX5_judge 75 = .ok (.aload_n 0, 1) := by decide +kernel
theorem dX5_judge_76 : decode cX5_judge 76 = .ok (.aload_n 0, 1) := by decide +kernel
theorem dX5_judge_77 : decode cX5_judge 77 = .ok (.getfield 19, 3) := by decide +kernel
theorem dX5_judge_80 : decode cX5_judge 80 = .ok (.iconst (-1), 1) := by decide +kernel
theorem dX5_judge_81 : decode cX5_judge 81 = .ok (.if_icmp .ne 7, 3) := by decide +kernel
theorem dX5_judge_84 : decode cX5_judge 84 = .ok (.iload_n 2, 1) := by decide +kernel
theorem dX5_judge_85 : decode cX5_judge 85 = .ok (.goto 7, 3) := by decide +kernel
theorem dX5_judge_88 : decode cX5_judge 88 = .ok (.aload_n 0, 1) := by decide +kernel
theorem dX5_judge_89 : decode cX5_judge 89 = .ok (.getfield 19, 3) := by decide +kernel
theorem dX5_judge_92 : decode cX5_judge 92 = .ok (.putfield 19, 3) := by decide +kernel
theorem dX5_judge_95 : decode cX5_judge 95 = .ok (.aload_n 0, 1) := by decide +kernel
theorem dX5_judge_96 : decode cX5_judge 96 = .ok (.iload_n 2, 1) := by decide +kernel
theorem dX5_judge_97 : decode cX5_judge 97 = .ok (.putfield 22, 3) := by decide +kernel
theorem dX5_judge_100 : decode cX5_judge 100 = .ok (.aload_n 0, 1) := by decide +kernel
theorem dX5_judge_101 : decode cX5_judge 101 = .ok (.getfield 25, 3) := by decide +kernel
theorem dX5_judge_104 : decode cX5_judge 104 = .ok (.iconst (-1), 1) := by decide +kernel
theorem dX5_judge_105 : decode cX5_judge 105 = .ok (.if_icmp .eq 8, 3) := by decide +kernel
theorem dX5_judge_108 : decode cX5_judge 108 = .ok (.iload_n 3, 1) := by decide +kernel
theorem dX5_judge_109 : decode cX5_judge 109 = .ok (.iload_n 1, 1) := by decide +kernel
theorem dX5_judge_110 : decode cX5_judge 110 = .ok (.if_icmp .le 10, 3) := by decide +kernel
theorem dX5_judge_113 : decode cX5_judge 113 = .ok (.iload_n 3, 1) := by decide +kernel
theorem dX5_judge_114 : decode cX5_judge 114 = .ok (.istore_n 1, 1) := by decide +kernel
theorem dX5_judge_115 : decode cX5_judge 115 = .ok (.aload_n 0, 1) := by decide +kernel
theorem dX5_judge_116 : decode cX5_judge 116 = .ok (.iload_n 2, 1) := by decide +kernel
theorem dX5_judge_117 : decode cX5_judge 117 = .ok (.putfield 25, 3) := by decide +kernel
theorem dX5_judge_120 : decode cX5_judge 120 = .ok (.iinc 2 1, 3) := by decide +kernel
theorem dX5_judge_123 : decode cX5_judge 123 = .ok (.goto (-96), 3) := by decide +kernel
theorem dX5_judge_126 : decode cX5_judge 126 = .ok (.return_, 1) := by decide +kernel
theorem dX5_gainOf_0 : decode cX5_gainOf 0 = .ok (.aload_n 0, 1) := by decide +kernel
theorem dX5_gainOf_1 : decode cX5_gainOf 1 = .ok (.getfield 41, 3) := by decide +kernel
theorem dX5_gainOf_4 : decode cX5_gainOf 4 = .ok (.iconst 0, 1) := by decide +kernel
theorem dX5_gainOf_5 : decode cX5_gainOf 5 = .ok (.iaload, 1) := by decide +kernel
theorem dX5_gainOf_6 : decode cX5_gainOf 6 = .ok (.aload_n 0, 1) := by decide +kernel
theorem dX5_gainOf_7 : decode cX5_gainOf 7 = .ok (.getfield 41, 3) := by decide +kernel
theorem dX5_gainOf_10 : decode cX5_gainOf 10 = .ok (.iconst 1, 1) := by decide +kernel
theorem dX5_gainOf_11 : decode cX5_gainOf 11 = .ok (.iaload, 1) := by decide +kernel
theorem dX5_gainOf_12 : decode cX5_gainOf 12 = .ok (.iadd, 1) := by decide +kernel
theorem dX5_gainOf_13 : decode cX5_gainOf 13 = .ok (.istore_n 3, 1) := by decide +kernel
theorem dX5_gainOf_14 : decode cX5_gainOf 14 = .ok (.aload_n 0, 1) := by decide +kernel
theorem dX5_gainOf_15 : decode cX5_gainOf 15 = .ok (.getfield 34, 3) := by decide +kernel
theorem dX5_gainOf_18 : decode cX5_gainOf 18 = .ok (.iload_n 1, 1) := by decide +kernel
theorem dX5_gainOf_19 : decode cX5_gainOf 19 = .ok (.iaload, 1) := by decide +kernel
theorem dX5_gainOf_20 : decode cX5_gainOf 20 = .ok (.iload_n 2, 1) := by decide +kernel
theorem dX5_gainOf_21 : decode cX5_gainOf 21 = .ok (.imul, 1) := by decide +kernel
theorem dX5_gainOf_22 : decode cX5_gainOf 22 = .ok (.iload_n 3, 1) := by decide +kernel
theorem dX5_gainOf_23 : decode cX5_gainOf 23 = .ok (.imul, 1) := by decide +kernel
theorem dX5_gainOf_24 : decode cX5_gainOf 24 = .ok (.aload_n 0, 1) := by decide +kernel
theorem dX5_gainOf_25 : decode cX5_gainOf 25 = .ok (.getfield 34, 3) := by decide +kernel
theorem dX5_gainOf_28 : decode cX5_gainOf 28 = .ok (.iload_n 1, 1) := by decide +kernel
theorem dX5_gainOf_29 : decode cX5_gainOf 29 = .ok (.iaload, 1) := by decide +kernel
theorem dX5_gainOf_30 : decode cX5_gainOf 30 = .ok (.aload_n 0, 1) := by decide +kernel
theorem dX5_gainOf_31 : decode cX5_gainOf 31 = .ok (.getfield 28, 3) := by decide +kernel
theorem dX5_gainOf_34 : decode cX5_gainOf 34 = .ok (.aload_n 0, 1) := by decide +kernel
theorem dX5_gainOf_35 : decode cX5_gainOf 35 = .ok (.getfield 31, 3) := by decide +kernel
theorem dX5_gainOf_38 : decode cX5_gainOf 38 = .ok (.isub, 1) := by decide +kernel
theorem dX5_gainOf_39 : decode cX5_gainOf 39 = .ok (.imul, 1) := by decide +kernel
theorem dX5_gainOf_40 : decode cX5_gainOf 40 = .ok (.aload_n 0, 1) := by decide +kernel
theorem dX5_gainOf_41 : decode cX5_gainOf 41 = .ok (.getfield 41, 3) := by decide +kernel
theorem dX5_gainOf_44 : decode cX5_gainOf 44 = .ok (.iload_n 1, 1) := by decide +kernel
theorem dX5_gainOf_45 : decode cX5_gainOf 45 = .ok (.iaload, 1) := by decide +kernel
theorem dX5_gainOf_46 : decode cX5_gainOf 46 = .ok (.imul, 1) := by decide +kernel
theorem dX5_gainOf_47 : decode cX5_gainOf 47 = .ok (.isub, 1) := by decide +kernel
theorem dX5_gainOf_48 : decode cX5_gainOf 48 = .ok (.aload_n 0, 1) := by decide +kernel
theorem dX5_gainOf_49 : decode cX5_gainOf 49 = .ok (.getfield 38, 3) := by decide +kernel
theorem dX5_gainOf_52 : decode cX5_gainOf 52 = .ok (.iload_n 1, 1) := by decide +kernel
theorem dX5_gainOf_53 : decode cX5_gainOf 53 = .ok (.iaload, 1) := by decide +kernel
theorem dX5_gainOf_54 : decode cX5_gainOf 54 = .ok (.iload_n 3, 1) := by decide +kernel
theorem dX5_gainOf_55 : decode cX5_gainOf 55 = .ok (.imul, 1) := by decide +kernel
theorem dX5_gainOf_56 : decode cX5_gainOf 56 = .ok (.iadd, 1) := by decide +kernel
theorem dX5_gainOf_57 : decode cX5_gainOf 57 = .ok (.ireturn, 1) := by decide +kernel
theorem dX6_init_0 : decode cX6_init 0 = .ok (.aload_n 0, 1) := by decide +kernel
theorem dX6_init_1 : decode cX6_init 1 = .ok (.invokespecial 3, 3) := by decide +kernel
theorem dX6_init_4 : decode cX6_init 4 = .ok (.aload_n 0, 1) := by decide +kernel
theorem dX6_init_5 : decode cX6_init 5 = .ok (.iload_n 1, 1) := by decide +kernel
theorem dX6_init_6 : decode cX6_init 6 = .ok (.putfield 9, 3) := by decide +kernel
theorem dX6_init_9 : decode cX6_init 9 = .ok (.aload_n 0, 1) := by decide +kernel
theorem dX6_init_10 : decode cX6_init 10 = .ok (.iload_n 2, 1) := by decide +kernel
theorem dX6_init_11 : decode cX6_init 11 = .ok (.putfield 15, 3) := by decide +kernel
theorem dX6_init_14 : decode cX6_init 14 = .ok (.aload_n 0, 1) := by decide +kernel
theorem dX6_init_15 : decode cX6_init 15 = .ok (.iload_n 3, 1) := by decide +kernel
theorem dX6_init_16 : decode cX6_init 16 = .ok (.putfield 18, 3) := by decide +kernel
theorem dX6_init_19 : decode cX6_init 19 = .ok (.aload_n 0, 1) := by decide +kernel
theorem dX6_init_20 : decode cX6_init 20 = .ok (.iload 4, 2) := by decide +kernel
theorem dX6_init_22 : decode cX6_init 22 = .ok (.putfield 21, 3) := by decide +kernel
theorem dX6_init_25 : decode cX6_init 25 = .ok (.aload_n 0, 1) := by decide +kernel
theorem dX6_init_26 : decode cX6_init 26 = .ok (.iload 5, 2) := by decide +kernel
theorem dX6_init_28 : decode cX6_init 28 = .ok (.putfield 24, 3) := by decide +kernel
theorem dX6_init_31 : decode cX6_init 31 = .ok (.aload_n 0, 1) := by decide +kernel
theorem dX6_init_32 : decode cX6_init 32 = .ok (.iload 6, 2) := by decide +kernel
theorem dX6_init_34 : decode cX6_init 34 = .ok (.putfield 27, 3) := by decide +kernel
theorem dX6_init_37 : decode cX6_init 37 = .ok (.aload_n 0, 1) := by decide +kernel
theorem dX6_init_38 : decode cX6_init 38 = .ok (.iload 7, 2) := by decide +kernel
theorem dX6_init_40 : decode cX6_init 40 = .ok (.putfield 30, 3) := by decide +kernel
theorem dX6_init_43 : decode cX6_init 43 = .ok (.return_, 1) := by decide +kernel
theorem dX6_counted_0 : decode cX6_counted 0 = .ok (.aload_n 0, 1) := by decide +kernel
theorem dX6_counted_1 : decode cX6_counted 1 = .ok (.getfield 9, 3) := by decide +kernel
theorem dX6_counted_4 : decode cX6_counted 4 = .ok (.iconst 2, 1) := by decide +kernel
theorem dX6_counted_5 : decode cX6_counted 5 = .ok (.if_icmp .eq 5, 3) := by decide +kernel
theorem dX6_counted_8 : decode cX6_counted 8 = .ok (.iload_n 1, 1) := by decide +kernel
theorem dX6_counted_9 : decode cX6_counted 9 = .ok (.ireturn, 1) := by decide +kernel
theorem dX6_counted_10 : decode cX6_counted 10 = .ok (.aload_n 0, 1) := by decide +kernel
theorem dX6_counted_11 : decode cX6_counted 11 = .ok (.getfield 30, 3) := by decide +kernel
theorem dX6_counted_14 : decode cX6_counted 14 = .ok (.ifCond .ne 12, 3) := by decide +kernel
theorem dX6_counted_17 : decode cX6_counted 17 = .ok (.iload_n 1, 1) := by decide +kernel
theorem dX6_counted_18 : decode cX6_counted 18 = .ok (.aload_n 2, 1) := by decide +kernel
theorem dX6_counted_19 : decode cX6_counted 19 = .ok (.getfield 33, 3) := by decide +kernel
theorem dX6_counted_22 : decode cX6_counted 22 = .ok (.iadd, 1) := by decide +kernel
theorem dX6_counted_23 : decode cX6_counted 23 = .ok (.goto 9, 3) := by decide +kernel
theorem dX6_counted_26 : decode cX6_counted 26 = .ok (.iload_n 1, 1) := by decide +kernel
theorem dX6_counted_27 : decode cX6_counted 27 = .ok (.aload_n 2, 1) := by decide +kernel
theorem dX6_counted_28 : decode cX6_counted 28 = .ok (.getfield 33, 3) := by decide +kernel
theorem dX6_counted_31 : decode cX6_counted 31 = .ok (.isub, 1) := by decide +kernel
theorem dX6_counted_32 : decode cX6_counted 32 = .ok (.istore_n 3, 1) := by decide +kernel
theorem dX6_counted_33 : decode cX6_counted 33 = .ok (.iconst 0, 1) := by decide +kernel
theorem dX6_counted_34 : decode cX6_counted 34 = .ok (.bipush 79, 2) := by decide +kernel
theorem dX6_counted_36 : decode cX6_counted 36 = .ok (.iload_n 3, 1) := by decide +kernel
theorem dX6_counted_37 : decode cX6_counted 37 = .ok (.invokestatic 38, 3) := by decide +kernel
theorem dX6_counted_40 : decode cX6_counted 40 = .ok (.invokestatic 44, 3) := by decide +kernel
theorem dX6_counted_43 : decode cX6_counted 43 = .ok (.ireturn, 1) := by decide +kernel
theorem dX6_has_0 : decode cX6_has 0 = .ok (.iload_n 1, 1) := by decide +kernel
theorem dX6_has_1 : decode cX6_has 1 = .ok (.aload_n 0, 1) := by decide +kernel
theorem dX6_has_2 : decode cX6_has 2 = .ok (.getfield 15, 3) := by decide +kernel
theorem dX6_has_5 : decode cX6_has 5 = .ok (.if_icmp .lt 15, 3) := by decide +kernel
theorem dX6_has_8 : decode cX6_has 8 = .ok (.iload_n 1, 1) := by decide +kernel
theorem dX6_has_9 : decode cX6_has 9 = .ok (.aload_n 0, 1) := by decide +kernel
theorem dX6_has_10 : decode cX6_has 10 = .ok (.getfield 18, 3) := by decide +kernel
theorem dX6_has_13 : decode cX6_has 13 = .ok (.if_icmp .gt 7, 3) := by decide +kernel
theorem dX6_has_16 : decode cX6_has 16 = .ok (.iconst 1, 1) := by decide +kernel
theorem dX6_has_17 : decode cX6_has 17 = .ok (.goto 4, 3) := by decide +kernel
theorem dX6_has_20 : decode cX6_has 20 = .ok (.iconst 0, 1) := by decide +kernel
theorem dX6_has_21 : decode cX6_has 21 = .ok (.ireturn, 1) := by decide +kernel
theorem dX6_countsAt_0 : decode cX6_countsAt 0 = .ok (.aload_n 0, 1) := by decide +kernel
theorem dX6_countsAt_1 : decode cX6_countsAt 1 = .ok (.iload_n 1, 1) := by decide +kernel
theorem dX6_countsAt_2 : decode cX6_countsAt 2 = .ok (.invokevirtual 47, 3) := by decide +kernel
theorem dX6_countsAt_5 : decode cX6_countsAt 5 = .ok (.ifCond .ne 5, 3) := by decide +kernel
theorem dX6_countsAt_8 : decode cX6_countsAt 8 = .ok (.iconst 0, 1) := by decide +kernel
theorem dX6_countsAt_9 : decode cX6_countsAt 9 = .ok (.ireturn, 1) := by decide +kernel
theorem dX6_countsAt_10 : decode cX6_countsAt 10 = .ok (.aload_n 3, 1) := by decide +kernel
theorem dX6_countsAt_11 : decode cX6_countsAt 11 = .ok (.getfield 51, 3) := by decide +kernel
theorem dX6_countsAt_14 : decode cX6_countsAt 14 = .ok (.aload_n 0, 1) := by decide +kernel
theorem dX6_countsAt_15 : decode cX6_countsAt 15 = .ok (.getfield 9, 3) := by decide +kernel
theorem dX6_countsAt_18 : decode cX6_countsAt 18 = .ok (.baload, 1) := by decide +kernel
theorem dX6_countsAt_19 : decode cX6_countsAt 19 = .ok (.ifCond .ne 5, 3) := by decide +kernel
theorem dX6_countsAt_22 : decode cX6_countsAt 22 = .ok (.iconst 1, 1) := by decide +kernel
theorem dX6_countsAt_23 : decode cX6_countsAt 23 = .ok (.ireturn, 1) := by decide +kernel
theorem dX6_countsAt_24 : decode cX6_countsAt 24 = .ok (.iconst 0, 1) := by decide +kernel
theorem dX6_countsAt_25 : decode cX6_countsAt 25 = .ok (.istore 4, 2) := by decide +kernel
theorem dX6_countsAt_27 : decode cX6_countsAt 27 = .ok (.iload 4, 2) := by decide +kernel
theorem dX6_countsAt_29 : decode cX6_countsAt 29 = .ok (.aload_n 2, 1) := by decide +kernel
theorem dX6_countsAt_30 : decode cX6_countsAt 30 = .ok (.invokevirtual 55, 3) := by decide +kernel
theorem dX6_countsAt_33 : decode cX6_countsAt 33 = .ok (.if_icmp .ge 55, 3) := by decide +kernel
theorem dX6_countsAt_36 : decode cX6_countsAt 36 = .ok (.aload_n 2, 1) := by decide +kernel
theorem dX6_countsAt_37 : decode cX6_countsAt 37 = .ok (.iload 4, 2) := by decide +kernel
theorem dX6_countsAt_39 : decode cX6_countsAt 39 = .ok (.invokevirtual 61, 3) := by decide +kernel
theorem dX6_countsAt_42 : decode cX6_countsAt 42 = .ok (.checkcast 10, 3) := by decide +kernel
theorem dX6_countsAt_45 : decode cX6_countsAt 45 = .ok (.astore 5, 2) := by decide +kernel
theorem dX6_countsAt_47 : decode cX6_countsAt 47 = .ok (.aload 5, 2) := by decide +kernel
theorem dX6_countsAt_49 : decode cX6_countsAt 49 = .ok (.getfield 9, 3) := by decide +kernel
theorem dX6_countsAt_52 : decode cX6_countsAt 52 = .ok (.aload_n 0, 1) := by decide +kernel
theorem dX6_countsAt_53 : decode cX6_countsAt 53 = .ok (.getfield 9, 3) := by decide +kernel
theorem dX6_countsAt_56 : decode cX6_countsAt 56 = .ok (.if_icmp .ne 26, 3) := by decide +kernel
theorem dX6_countsAt_59 : decode cX6_countsAt 59 = .ok (.aload 5, 2) := by decide +kernel
theorem dX6_countsAt_61 : decode cX6_countsAt 61 = .ok (.iload_n 1, 1) := by decide +kernel
theorem dX6_countsAt_62 : decode cX6_countsAt 62 = .ok (.invokevirtual 47, 3) := by decide +kernel
theorem dX6_countsAt_65 : decode cX6_countsAt 65 = .ok (.ifCond .eq 17, 3) := by decide +kernel
theorem dX6_countsAt_68 : decode cX6_countsAt 68 = .ok (.aload 5, 2) := by decide +kernel
theorem dX6_countsAt_70 : decode cX6_countsAt 70 = .ok (.getfield 27, 3) := by decide +kernel
theorem dX6_countsAt_73 : decode cX6_countsAt 73 = .ok (.aload_n 0, 1) := by decide +kernel
theorem dX6_countsAt_74 : decode cX6_countsAt 74 = .ok (.getfield 27, 3) := by decide +kernel
theorem dX6_countsAt_77 : decode cX6_countsAt 77 = .ok (.if_icmp .le 5, 3) := by decide +kernel
theorem dX6_countsAt_80 : decode cX6_countsAt 80 = .ok (.iconst 0, 1) := by decide +kernel
theorem dX6_countsAt_81 : decode cX6_countsAt 81 = .ok (.ireturn, 1) := by decide +kernel
theorem dX6_countsAt_82 : decode cX6_countsAt 82 = .ok (.iinc 4 1, 3) := by decide +kernel
theorem dX6_countsAt_85 : decode cX6_countsAt 85 = .ok (.goto (-58), 3) := by decide +kernel
theorem dX6_countsAt_88 : decode cX6_countsAt 88 = .ok (.iconst 1, 1) := by decide +kernel
theorem dX6_countsAt_89 : decode cX6_countsAt 89 = .ok (.ireturn, 1) := by decide +kernel
theorem dX7_init_0 : decode cX7_init 0 = .ok (.aload_n 0, 1) := by decide +kernel
theorem dX7_init_1 : decode cX7_init 1 = .ok (.invokespecial 3, 3) := by decide +kernel
theorem dX7_init_4 : decode cX7_init 4 = .ok (.aload_n 0, 1) := by decide +kernel
theorem dX7_init_5 : decode cX7_init 5 = .ok (.sipush 400, 3) := by decide +kernel
theorem dX7_init_8 : decode cX7_init 8 = .ok (.newarray .byte, 2) := by decide +kernel
theorem dX7_init_10 : decode cX7_init 10 = .ok (.putfield 9, 3) := by decide +kernel
theorem dX7_init_13 : decode cX7_init 13 = .ok (.aload_n 0, 1) := by decide +kernel
theorem dX7_init_14 : decode cX7_init 14 = .ok (.iconst 0, 1) := by decide +kernel
theorem dX7_init_15 : decode cX7_init 15 = .ok (.putfield 15, 3) := by decide +kernel
theorem dX7_init_18 : decode cX7_init 18 = .ok (.return_, 1) := by decide +kernel
theorem dX7_append_0 : decode cX7_append 0 = .ok (.bipush 24, 2) := by decide +kernel
theorem dX7_append_2 : decode cX7_append 2 = .ok (.istore_n 2, 1) := by decide +kernel
theorem dX7_append_3 : decode cX7_append 3 = .ok (.iload_n 2, 1) := by decide +kernel
theorem dX7_append_4 : decode cX7_append 4 = .ok (.ifCond .lt 42, 3) := by decide +kernel
theorem dX7_append_7 : decode cX7_append 7 = .ok (.aload_n 0, 1) := by decide +kernel
theorem dX7_append_8 : decode cX7_append 8 = .ok (.getfield 15, 3) := by decide +kernel
theorem dX7_append_11 : decode cX7_append 11 = .ok (.sipush 400, 3) := by decide +kernel
theorem dX7_append_14 : decode cX7_append 14 = .ok (.if_icmp .ge 32, 3) := by decide +kernel
theorem dX7_append_17 : decode cX7_append 17 = .ok (.aload_n 0, 1) := by decide +kernel
theorem dX7_append_18 : decode cX7_append 18 = .ok (.getfield 9, 3) := by decide +kernel
theorem dX7_append_21 : decode cX7_append 21 = .ok (.aload_n 0, 1) := by decide +kernel
theorem dX7_append_22 : decode cX7_append 22 = .ok (.getfield 15, 3) := by decide +kernel
theorem dX7_append_25 : decode cX7_append 25 = .ok (.iload_n 1, 1) := by decide +kernel
theorem dX7_append_26 : decode cX7_append 26 = .ok (.iload_n 2, 1) := by decide +kernel
theorem dX7_append_27 : decode cX7_append 27 = .ok (.ishr, 1) := by decide +kernel
theorem dX7_append_28 : decode cX7_append 28 = .ok (.i2b, 1) := by decide +kernel
theorem dX7_append_29 : decode cX7_append 29 = .ok (.bastore, 1) := by decide +kernel
theorem dX7_append_30 : decode cX7_append 30 = .ok (.aload_n 0, 1) := by decide +kernel
theorem dX7_append_31 : decode cX7_append 31 = .ok (.dup, 1) := by decide +kernel
theorem dX7_append_32 : decode cX7_append 32 = .ok (.getfield 15, 3) := by decide +kernel
theorem dX7_append_35 : decode cX7_append 35 = .ok (.iconst 1, 1) := by decide +kernel
theorem dX7_append_36 : decode cX7_append 36 = .ok (.iadd, 1) := by decide +kernel
theorem dX7_append_37 : decode cX7_append 37 = .ok (.putfield 15, 3) := by decide +kernel
theorem dX7_append_40 : decode cX7_append 40 = .ok (.iinc 2 (-8), 3) := by decide +kernel
theorem dX7_append_43 : decode cX7_append 43 = .ok (.goto (-40), 3) := by decide +kernel
theorem dX7_append_46 : decode cX7_append 46 = .ok (.return_, 1) := by decide +kernel
theorem dX7_cut_0 : decode cX7_cut 0 = .ok (.iload_n 1, 1) := by decide +kernel
theorem dX7_cut_1 : decode cX7_cut 1 = .ok (.ifCond .lt 11, 3) := by decide +kernel
theorem dX7_cut_4 : decode cX7_cut 4 = .ok (.iload_n 1, 1) := by decide +kernel
theorem dX7_cut_5 : decode cX7_cut 5 = .ok (.aload_n 0, 1) := by decide +kernel
theorem dX7_cut_6 : decode cX7_cut 6 = .ok (.getfield 15, 3) := by decide +kernel
theorem dX7_cut_9 : decode cX7_cut 9 = .ok (.if_icmp .le 5, 3) := by decide +kernel
theorem dX7_cut_12 : decode cX7_cut 12 = .ok (.iconst 0, 1) := by decide +kernel
theorem dX7_cut_13 : decode cX7_cut 13 = .ok (.ireturn, 1) := by decide +kernel
theorem dX7_cut_14 : decode cX7_cut 14 = .ok (.aload_n 0, 1) := by decide +kernel
theorem dX7_cut_15 : decode cX7_cut 15 = .ok (.iload_n 1, 1) := by decide +kernel
theorem dX7_cut_16 : decode cX7_cut 16 = .ok (.putfield 15, 3) := by decide +kernel
theorem dX7_cut_19 : decode cX7_cut 19 = .ok (.iconst 1, 1) := by decide +kernel
theorem dX7_cut_20 : decode cX7_cut 20 = .ok (.ireturn, 1) := by decide +kernel
theorem dX8_init_0 : decode cX8_init 0 = .ok (.aload_n 0, 1) := by decide +kernel
theorem dX8_init_1 : decode cX8_init 1 = .ok (.invokespecial 3, 3) := by decide +kernel
theorem dX8_init_4 : decode cX8_init 4 = .ok (.aload_n 0, 1) := by decide +kernel
theorem dX8_init_5 : decode cX8_init 5 = .ok (.iconst 0, 1) := by decide +kernel
theorem dX8_init_6 : decode cX8_init 6 = .ok (.putfield 9, 3) := by decide +kernel
theorem dX8_init_9 : decode cX8_init 9 = .ok (.aload_n 0, 1) := by decide +kernel
theorem dX8_init_10 : decode cX8_init 10 = .ok (.iconst (-1), 1) := by decide +kernel
theorem dX8_init_11 : decode cX8_init 11 = .ok (.putfield 15, 3) := by decide +kernel
theorem dX8_init_14 : decode cX8_init 14 = .ok (.aload_n 0, 1) := by decide +kernel
theorem dX8_init_15 : decode cX8_init 15 = .ok (.iconst 2, 1) := by decide +kernel
theorem dX8_init_16 : decode cX8_init 16 = .ok (.newarray .int, 2) := by decide +kernel
theorem dX8_init_18 : decode cX8_init 18 = .ok (.putfield 18, 3) := by decide +kernel
theorem dX8_init_21 : decode cX8_init 21 = .ok (.aload_n 0, 1) := by decide +kernel
theorem dX8_init_22 : decode cX8_init 22 = .ok (.iconst 2, 1) := by decide +kernel
theorem dX8_init_23 : decode cX8_init 23 = .ok (.newarray .int, 2) := by decide +kernel
theorem dX8_init_25 : decode cX8_init 25 = .ok (.putfield 22, 3) := by decide +kernel
theorem dX8_init_28 : decode cX8_init 28 = .ok (.aload_n 0, 1) := by decide +kernel
theorem dX8_init_29 : decode cX8_init 29 = .ok (.iconst 2, 1) := by decide +kernel
theorem dX8_init_30 : decode cX8_init 30 = .ok (.bipush 60, 2) := by decide +kernel
theorem dX8_init_32 : decode cX8_init 32 = .ok (.multianewarray 25 2, 4) := by decide +kernel
theorem dX8_init_36 : decode cX8_init 36 = .ok (.putfield 27, 3) := by decide +kernel
theorem dX8_init_39 : decode cX8_init 39 = .ok (.aload_n 0, 1) := by decide +kernel
theorem dX8_init_40 : decode cX8_init 40 = .ok (.aload_n 1, 1) := by decide +kernel
theorem dX8_init_41 : decode cX8_init 41 = .ok (.putfield 30, 3) := by decide +kernel
theorem dX8_init_44 : decode cX8_init 44 = .ok (.aload_n 0, 1) := by decide +kernel
theorem dX8_init_45 : decode cX8_init 45 = .ok (.aload_n 2, 1) := by decide +kernel
theorem dX8_init_46 : decode cX8_init 46 = .ok (.putfield 34, 3) := by decide +kernel
theorem dX8_init_49 : decode cX8_init 49 = .ok (.return_, 1) := by decide +kernel
theorem dX8_draw_0 : decode cX8_draw 0 = .ok (.aload_n 0, 1) := by decide +kernel
theorem dX8_draw_1 : decode cX8_draw 1 = .ok (.iload_n 2, 1) := by decide +kernel
theorem dX8_draw_2 : decode cX8_draw 2 = .ok (.putfield 9, 3) := by decide +kernel
theorem dX8_draw_5 : decode cX8_draw 5 = .ok (.aload_n 0, 1) := by decide +kernel
theorem dX8_draw_6 : decode cX8_draw 6 = .ok (.iconst (-1), 1) := by decide +kernel
theorem dX8_draw_7 : decode cX8_draw 7 = .ok (.putfield 15, 3) := by decide +kernel
theorem dX8_draw_10 : decode cX8_draw 10 = .ok (.aload_n 0, 1) := by decide +kernel
theorem dX8_draw_11 : decode cX8_draw 11 = .ok (.getfield 18, 3) := by decide +kernel
theorem dX8_draw_14 : decode cX8_draw 14 = .ok (.iconst 0, 1) := by decide +kernel
theorem dX8_draw_15 : decode cX8_draw 15 = .ok (.invokestatic 38, 3) := by decide +kernel
theorem dX8_draw_18 : decode cX8_draw 18 = .ok (.aload_n 0, 1) := by decide +kernel
theorem dX8_draw_19 : decode cX8_draw 19 = .ok (.getfield 22, 3) := by decide +kernel
theorem dX8_draw_22 : decode cX8_draw 22 = .ok (.iconst 0, 1) := by decide +kernel
theorem dX8_draw_23 : decode cX8_draw 23 = .ok (.invokestatic 38, 3) := by decide +kernel
theorem dX8_draw_26 : decode cX8_draw 26 = .ok (.iconst 0, 1) := by decide +kernel
theorem dX8_draw_27 : decode cX8_draw 27 = .ok (.istore 4, 2) := by decide +kernel
theorem dX8_draw_29 : decode cX8_draw 29 = .ok (.iload 4, 2) := by decide +kernel
theorem dX8_draw_31 : decode cX8_draw 31 = .ok (.aload_n 0, 1) := by decide +kernel
theorem dX8_draw_32 : decode cX8_draw 32 = .ok (.getfield 30, 3) := by decide +kernel
theorem dX8_draw_35 : decode cX8_draw 35 = .ok (.getfield 44, 3) := by decide +kernel
theorem dX8_draw_38 : decode cX8_draw 38 = .ok (.if_icmp .ge 81, 3) := by decide +kernel
theorem dX8_draw_41 : decode cX8_draw 41 = .ok (.iconst 0, 1) := by decide +kernel
theorem dX8_draw_42 : decode cX8_draw 42 = .ok (.istore 5, 2) := by decide +kernel
theorem dX8_draw_44 : decode cX8_draw 44 = .ok (.iload 5, 2) := by decide +kernel
theorem dX8_draw_46 : decode cX8_draw 46 = .ok (.iconst 2, 1) := by decide +kernel
theorem dX8_draw_47 : decode cX8_draw 47 = .ok (.if_icmp .ge 66, 3) := by decide +kernel
theorem dX8_draw_50 : decode cX8_draw 50 = .ok (.aload_n 0, 1) := by decide +kernel
theorem dX8_draw_51 : decode cX8_draw 51 = .ok (.iload 5, 2) := by decide +kernel
theorem dX8_draw_53 : decode cX8_draw 53 = .ok (.iload_n 1, 1) := by decide +kernel
theorem dX8_draw_54 : decode cX8_draw 54 = .ok (.iload 4, 2) := by decide +kernel
theorem dX8_draw_56 : decode cX8_draw 56 = .ok (.iload_n 2, 1) := by decide +kernel
theorem dX8_draw_57 : decode cX8_draw 57 = .ok (.invokevirtual 49, 3) := by decide +kernel
theorem dX8_draw_60 : decode cX8_draw 60 = .ok (.aload_n 0, 1) := by decide +kernel
theorem dX8_draw_61 : decode cX8_draw 61 = .ok (.getfield 22, 3) := by decide +kernel
theorem dX8_draw_64 : decode cX8_draw 64 = .ok (.iload 5, 2) := by decide +kernel
theorem dX8_draw_66 : decode cX8_draw 66 = .ok (.iaload, 1) := by decide +kernel
theorem dX8_draw_67 : decode cX8_draw 67 = .ok (.iload_n 3, 1) := by decide +kernel
theorem dX8_draw_68 : decode cX8_draw 68 = .ok (.if_icmp .lt 39, 3) := by decide +kernel
theorem dX8_draw_71 : decode cX8_draw 71 = .ok (.aload_n 0, 1) := by decide +kernel
theorem dX8_draw_72 : decode cX8_draw 72 = .ok (.getfield 18, 3) := by decide +kernel
theorem dX8_draw_75 : decode cX8_draw 75 = .ok (.iload 5, 2) := by decide +kernel
theorem dX8_draw_77 : decode cX8_draw 77 = .ok (.dup2, 1) := by decide +kernel
theorem dX8_draw_78 : decode cX8_draw 78 = .ok (.iaload, 1) := by decide +kernel
theorem dX8_draw_79 : decode cX8_draw 79 = .ok (.iconst 1, 1) := by decide +kernel
theorem dX8_draw_80 : decode cX8_draw 80 = .ok (.iadd, 1) := by decide +kernel
theorem dX8_draw_81 : decode cX8_draw 81 = .ok (.iastore, 1) := by decide +kernel
theorem dX8_draw_82 : decode cX8_draw 82 = .ok (.aload_n 0, 1) := by decide +kernel
theorem dX8_draw_83 : decode cX8_draw 83 = .ok (.iload 5, 2) := by decide +kernel
theorem dX8_draw_85 : decode cX8_draw 85 = .ok (.aload_n 0, 1) := by decide +kernel
theorem dX8_draw_86 : decode cX8_draw 86 = .ok (.iload 5, 2) := by decide +kernel
theorem dX8_draw_88 : decode cX8_draw 88 = .ok (.iload 4, 2) := by decide +kernel
theorem dX8_draw_90 : decode cX8_draw 90 = .ok (.iload_n 3, 1) := by decide +kernel
theorem dX8_draw_91 : decode cX8_draw 91 = .ok (.invokevirtual 53, 3) := by decide +kernel
theorem dX8_draw_94 : decode cX8_draw 94 = .ok (.aload_n 0, 1) := by decide +kernel
theorem dX8_draw_95 : decode cX8_draw 95 = .ok (.getfield 30, 3) := by decide +kernel
theorem dX8_draw_98 : decode cX8_draw 98 = .ok (.getfield 57, 3) := by decide +kernel
theorem dX8_draw_101 : decode cX8_draw 101 = .ok (.iload 4, 2) := by decide +kernel
theorem dX8_draw_103 : decode cX8_draw 103 = .ok (.iaload, 1) := by decide +kernel
theorem dX8_draw_104 : decode cX8_draw 104 = .ok (.invokevirtual 60, 3) := by decide +kernel
theorem dX8_draw_107 : decode cX8_draw 107 = .ok (.iinc 5 1, 3) := by decide +kernel
theorem dX8_draw_110 : decode cX8_draw 110 = .ok (.goto (-66), 3) := by decide +kernel
theorem dX8_draw_113 : decode cX8_draw 113 = .ok (.iinc 4 1, 3) := by decide +kernel
theorem dX8_draw_116 : decode cX8_draw 116 = .ok (.goto (-87), 3) := by decide +kernel
theorem dX8_draw_119 : decode cX8_draw 119 = .ok (.return_, 1) := by decide +kernel
theorem dX8_extendRun_0 : decode cX8_extendRun 0 = .ok (.aload_n 0, 1) := by decide +kernel
theorem dX8_extendRun_1 : decode cX8_extendRun 1 = .ok (.getfield 30, 3) := by decide +kernel
theorem dX8_extendRun_4 : decode cX8_extendRun 4 = .ok (.getfield 57, 3) := by decide +kernel
theorem dX8_extendRun_7 : decode cX8_extendRun 7 = .ok (.iload_n 3, 1) := by decide +kernel
theorem dX8_extendRun_8 : decode cX8_extendRun 8 = .ok (.iaload, 1) := by decide +kernel
theorem dX8_extendRun_9 : decode cX8_extendRun 9 = .ok (.istore 5, 2) := by decide +kernel
theorem dX8_extendRun_11 : decode cX8_extendRun 11 = .ok (.aload_n 0, 1) := by decide +kernel
theorem dX8_extendRun_12 : decode cX8_extendRun 12 = .ok (.getfield 30, 3) := by decide +kernel
theorem dX8_extendRun_15 : decode cX8_extendRun 15 = .ok (.iload_n 1, 1) := by decide +kernel
theorem dX8_extendRun_16 : decode cX8_extendRun 16 = .ok (.iload_n 2, 1) := by decide +kernel
theorem dX8_extendRun_17 : decode cX8_extendRun 17 = .ok (.iload 5, 2) := by decide +kernel
theorem dX8_extendRun_19 : decode cX8_extendRun 19 = .ok (.invokevirtual 64, 3) := by decide +kernel
theorem dX8_extendRun_22 : decode cX8_extendRun 22 = .ok (.istore 6, 2) := by decide +kernel
theorem dX8_extendRun_24 : decode cX8_extendRun 24 = .ok (.aload_n 0, 1) := by decide +kernel
theorem dX8_extendRun_25 : decode cX8_extendRun 25 = .ok (.getfield 27, 3) := by decide +kernel
theorem dX8_extendRun_28 : decode cX8_extendRun 28 = .ok (.iload_n 1, 1) := by decide +kernel
theorem dX8_extendRun_29 : decode cX8_extendRun 29 = .ok (.aaload, 1) := by decide +kernel
theorem dX8_extendRun_30 : decode cX8_extendRun 30 = .ok (.iload_n 3, 1) := by decide +kernel
theorem dX8_extendRun_31 : decode cX8_extendRun 31 = .ok (.iload 6, 2) := by decide +kernel
theorem dX8_extendRun_33 : decode cX8_extendRun 33 = .ok (.iastore, 1) := by decide +kernel
theorem dX8_extendRun_34 : decode cX8_extendRun 34 = .ok (.iload 6, 2) := by decide +kernel
theorem dX8_extendRun_36 : decode cX8_extendRun 36 = .ok (.iconst (-1), 1) := by decide +kernel
theorem dX8_extendRun_37 : decode cX8_extendRun 37 = .ok (.if_icmp .eq 31, 3) := by decide +kernel
theorem dX8_extendRun_40 : decode cX8_extendRun 40 = .ok (.iload_n 1, 1) := by decide +kernel
theorem dX8_extendRun_41 : decode cX8_extendRun 41 = .ok (.iload 6, 2) := by decide +kernel
theorem dX8_extendRun_43 : decode cX8_extendRun 43 = .ok (.iload 4, 2) := by decide +kernel
theorem dX8_extendRun_45 : decode cX8_extendRun 45 = .ok (.invokestatic 67, 3) := by decide +kernel
theorem dX8_extendRun_48 : decode cX8_extendRun 48 = .ok (.ifCond .eq 20, 3) := by decide +kernel
theorem dX8_extendRun_51 : decode cX8_extendRun 51 = .ok (.aload_n 0, 1) := by decide +kernel
theorem dX8_extendRun_52 : decode cX8_extendRun 52 = .ok (.getfield 34, 3) := by decide +kernel
theorem dX8_extendRun_55 : decode cX8_extendRun 55 = .ok (.iload_n 2, 1) := by decide +kernel
theorem dX8_extendRun_56 : decode cX8_extendRun 56 = .ok (.iload 5, 2) := by decide +kernel
theorem dX8_extendRun_58 : decode cX8_extendRun 58 = .ok (.invokevirtual 71, 3) := by decide +kernel
theorem dX8_extendRun_61 : decode cX8_extendRun 61 = .ok (.ifCond .ne 7, 3) := by decide +kernel
theorem dX8_extendRun_64 : decode cX8_extendRun 64 = .ok (.iconst 1, 1) := by decide +kernel
theorem dX8_extendRun_65 : decode cX8_extendRun 65 = .ok (.goto 4, 3) := by decide +kernel
theorem dX8_extendRun_68 : decode cX8_extendRun 68 = .ok (.iconst 0, 1) := by decide +kernel
theorem dX8_extendRun_69 : decode cX8_extendRun 69 = .ok (.istore 7, 2) := by decide +kernel
theorem dX8_extendRun_71 : decode cX8_extendRun 71 = .ok (.iload_n 3, 1) := by decide +kernel
theorem dX8_extendRun_72 : decode cX8_extendRun 72 = .ok (.ifCond .le 25, 3) := by decide +kernel
theorem dX8_extendRun_75 : decode cX8_extendRun 75 = .ok (.aload_n 0, 1) := by decide +kernel
theorem dX8_extendRun_76 : decode cX8_extendRun 76 = .ok (.getfield 30, 3) := by decide +kernel
theorem dX8_extendRun_79 : decode cX8_extendRun 79 = .ok (.getfield 57, 3) := by decide +kernel
theorem dX8_extendRun_82 : decode cX8_extendRun 82 = .ok (.iload_n 3, 1) := by decide +kernel
theorem dX8_extendRun_83 : decode cX8_extendRun 83 = .ok (.iconst 1, 1) := by decide +kernel
theorem dX8_extendRun_84 : decode cX8_extendRun 84 = .ok (.isub, 1) := by decide +kernel
theorem dX8_extendRun_85 : decode cX8_extendRun 85 = .ok (.iaload, 1) := by decide +kernel
theorem dX8_extendRun_86 : decode cX8_extendRun 86 = .ok (.iload 5, 2) := by decide +kernel
theorem dX8_extendRun_88 : decode cX8_extendRun 88 = .ok (.iconst 1, 1) := by decide +kernel
theorem dX8_extendRun_89 : decode cX8_extendRun 89 = .ok (.isub, 1) := by decide +kernel
theorem dX8_extendRun_90 : decode cX8_extendRun 90 = .ok (.if_icmp .ne 7, 3) := by decide +kernel
theorem dX8_extendRun_93 : decode cX8_extendRun 93 = .ok (.iconst 1, 1) := by decide +kernel
theorem dX8_extendRun_94 : decode cX8_extendRun 94 = .ok (.goto 4, 3) := by decide +kernel
theorem dX8_extendRun_97 : decode cX8_extendRun 97 = .ok (.iconst 0, 1) := by decide +kernel
theorem dX8_extendRun_98 : decode cX8_extendRun 98 = .ok (.istore 8, 2) := by decide +kernel
theorem dX8_extendRun_100 : decode cX8_extendRun 100 = .ok (.iload 7, 2) := by decide +kernel
theorem dX8_extendRun_102 : decode cX8_extendRun 102 = .ok (.ifCond .ne 13, 3) := by decide +kernel
theorem dX8_extendRun_105 : decode cX8_extendRun 105 = .ok (.aload_n 0, 1) := by decide +kernel
theorem dX8_extendRun_106 : decode cX8_extendRun 106 = .ok (.getfield 22, 3) := by decide +kernel
theorem dX8_extendRun_109 : decode cX8_extendRun 109 = .ok (.iload_n 1, 1) := by decide +kernel
theorem dX8_extendRun_110 : decode cX8_extendRun 110 = .ok (.iconst 0, 1) := by decide +kernel
theorem dX8_extendRun_111 : decode cX8_extendRun 111 = .ok (.iastore, 1) := by decide +kernel
theorem dX8_extendRun_112 : decode cX8_extendRun 112 = .ok (.goto 26, 3) := by decide +kernel
theorem dX8_extendRun_115 : decode cX8_extendRun 115 = .ok (.aload_n 0, 1) := by decide +kernel
theorem dX8_extendRun_116 : decode cX8_extendRun 116 = .ok (.getfield 22, 3) := by decide +kernel
theorem dX8_extendRun_119 : decode cX8_extendRun 119 = .ok (.iload_n 1, 1) := by decide +kernel
theorem dX8_extendRun_120 : decode cX8_extendRun 120 = .ok (.iload 8, 2) := by decide +kernel
theorem dX8_extendRun_122 : decode cX8_extendRun 122 = .ok (.ifCond .eq 14, 3) := by decide +kernel
theorem dX8_extendRun_125 : decode cX8_extendRun 125 = .ok (.aload_n 0, 1) := by decide +kernel
theorem dX8_extendRun_126 : decode cX8_extendRun 126 = .ok (.getfield 22, 3) := by decide +kernel
theorem dX8_extendRun_129 : decode cX8_extendRun 129 = .ok (.iload_n 1, 1) := by decide +kernel
theorem dX8_extendRun_130 : decode cX8_extendRun 130 = .ok (.iaload, 1) := by decide +kernel
theorem dX8_extendRun_131 : decode cX8_extendRun 131 = .ok (.iconst 1, 1) := by decide +kernel
theorem dX8_extendRun_132 : decode cX8_extendRun 132 = .ok (.iadd, 1) := by decide +kernel
theorem dX8_extendRun_133 : decode cX8_extendRun 133 = .ok (.goto 4, 3) := by decide +kernel
theorem dX8_extendRun_136 : decode cX8_extendRun 136 = .ok (.iconst 1, 1) := by decide +kernel
theorem dX8_extendRun_137 : decode cX8_extendRun 137 = .ok (.iastore, 1) := by decide +kernel
theorem dX8_extendRun_138 : decode cX8_extendRun 138 = .ok (.return_, 1) := by decide +kernel
theorem dX8_nearest_0 : decode cX8_nearest 0 = .ok (.aload_n 0, 1) := by decide +kernel
theorem dX8_nearest_1 : decode cX8_nearest 1 = .ok (.getfield 27, 3) := by decide +kernel
theorem dX8_nearest_4 : decode cX8_nearest 4 = .ok (.iload_n 1, 1) := by decide +kernel
theorem dX8_nearest_5 : decode cX8_nearest 5 = .ok (.aaload, 1) := by decide +kernel
theorem dX8_nearest_6 : decode cX8_nearest 6 = .ok (.iload_n 2, 1) := by decide +kernel
theorem dX8_nearest_7 : decode cX8_nearest 7 = .ok (.iaload, 1) := by decide +kernel
theorem dX8_nearest_8 : decode cX8_nearest 8 = .ok (.istore 4, 2) := by decide +kernel
theorem dX8_nearest_10 : decode cX8_nearest 10 = .ok (.iload_n 2, 1) := by decide +kernel
theorem dX8_nearest_11 : decode cX8_nearest 11 = .ok (.istore 5, 2) := by decide +kernel
theorem dX8_nearest_13 : decode cX8_nearest 13 = .ok (.iload 5, 2) := by decide +kernel
theorem dX8_nearest_15 : decode cX8_nearest 15 = .ok (.ifCond .lt 46, 3) := by decide +kernel
theorem dX8_nearest_18 : decode cX8_nearest 18 = .ok (.iload 5, 2) := by decide +kernel
theorem dX8_nearest_20 : decode cX8_nearest 20 = .ok (.iload_n 2, 1) := by decide +kernel
theorem dX8_nearest_21 : decode cX8_nearest 21 = .ok (.iload_n 3, 1) := by decide +kernel
theorem dX8_nearest_22 : decode cX8_nearest 22 = .ok (.isub, 1) := by decide +kernel
theorem dX8_nearest_23 : decode cX8_nearest 23 = .ok (.if_icmp .le 38, 3) := by decide +kernel
theorem dX8_nearest_26 : decode cX8_nearest 26 = .ok (.iload_n 1, 1) := by decide +kernel
theorem dX8_nearest_27 : decode cX8_nearest 27 = .ok (.iload 4, 2) := by decide +kernel
theorem dX8_nearest_29 : decode cX8_nearest 29 = .ok (.aload_n 0, 1) := by decide +kernel
theorem dX8_nearest_30 : decode cX8_nearest 30 = .ok (.getfield 27, 3) := by decide +kernel
theorem dX8_nearest_33 : decode cX8_nearest 33 = .ok (.iload_n 1, 1) := by decide +kernel
theorem dX8_nearest_34 : decode cX8_nearest 34 = .ok (.aaload, 1) := by decide +kernel
theorem dX8_nearest_35 : decode cX8_nearest 35 = .ok (.iload 5, 2) := by decide +kernel
theorem dX8_nearest_37 : decode cX8_nearest 37 = .ok (.iaload, 1) := by decide +kernel
theorem dX8_nearest_38 : decode cX8_nearest 38 = .ok (.invokestatic 67, 3) := by decide +kernel
theorem dX8_nearest_41 : decode cX8_nearest 41 = .ok (.ifCond .eq 14, 3) := by decide +kernel
theorem dX8_nearest_44 : decode cX8_nearest 44 = .ok (.aload_n 0, 1) := by decide +kernel
theorem dX8_nearest_45 : decode cX8_nearest 45 = .ok (.getfield 27, 3) := by decide +kernel
theorem dX8_nearest_48 : decode cX8_nearest 48 = .ok (.iload_n 1, 1) := by decide +kernel
theorem dX8_nearest_49 : decode cX8_nearest 49 = .ok (.aaload, 1) := by decide +kernel
theorem dX8_nearest_50 : decode cX8_nearest 50 = .ok (.iload 5, 2) := by decide +kernel
theorem dX8_nearest_52 : decode cX8_nearest 52 = .ok (.iaload, 1) := by decide +kernel
theorem dX8_nearest_53 : decode cX8_nearest 53 = .ok (.istore 4, 2) := by decide +kernel
theorem dX8_nearest_55 : decode cX8_nearest 55 = .ok (.iinc 5 (-1), 3) := by decide +kernel
theorem dX8_nearest_58 : decode cX8_nearest 58 = .ok (.goto (-45), 3) := by decide +kernel
theorem dX8_nearest_61 : decode cX8_nearest 61 = .ok (.iload 4, 2) := by decide +kernel
theorem dX8_nearest_63 : decode cX8_nearest 63 = .ok (.ireturn, 1) := by decide +kernel
theorem dX8_moveLine_0 : decode cX8_moveLine 0 = .ok (.iload_n 1, 1) := by decide +kernel
theorem dX8_moveLine_1 : decode cX8_moveLine 1 = .ok (.iload_n 2, 1) := by decide +kernel
theorem dX8_moveLine_2 : decode cX8_moveLine 2 = .ok (.aload_n 0, 1) := by decide +kernel
theorem dX8_moveLine_3 : decode cX8_moveLine 3 = .ok (.getfield 9, 3) := by decide +kernel
theorem dX8_moveLine_6 : decode cX8_moveLine 6 = .ok (.invokestatic 67, 3) := by decide +kernel
theorem dX8_moveLine_9 : decode cX8_moveLine 9 = .ok (.ifCond .eq 13, 3) := by decide +kernel
theorem dX8_moveLine_12 : decode cX8_moveLine 12 = .ok (.aload_n 0, 1) := by decide +kernel
theorem dX8_moveLine_13 : decode cX8_moveLine 13 = .ok (.iload_n 2, 1) := by decide +kernel
theorem dX8_moveLine_14 : decode cX8_moveLine 14 = .ok (.putfield 9, 3) := by decide +kernel
theorem dX8_moveLine_17 : decode cX8_moveLine 17 = .ok (.aload_n 0, 1) := by decide +kernel
theorem dX8_moveLine_18 : decode cX8_moveLine 18 = .ok (.iload_n 3, 1) := by decide +kernel
theorem dX8_moveLine_19 : decode cX8_moveLine 19 = .ok (.putfield 15, 3) := by decide +kernel
theorem dX8_moveLine_22 : decode cX8_moveLine 22 = .ok (.return_, 1) := by decide +kernel
theorem dX8_isBeyond_0 : decode cX8_isBeyond 0 = .ok (.iload_n 0, 1) := by decide +kernel
theorem dX8_isBeyond_1 : decode cX8_isBeyond 1 = .ok (.ifCond .ne 16, 3) := by decide +kernel
theorem dX8_isBeyond_4 : decode cX8_isBeyond 4 = .ok (.iload_n 1, 1) := by decide +kernel
theorem dX8_isBeyond_5 : decode cX8_isBeyond 5 = .ok (.iload_n 2, 1) := by decide +kernel
theorem dX8_isBeyond_6 : decode cX8_isBeyond 6 = .ok (.if_icmp .le 7, 3) := by decide +kernel
theorem dX8_isBeyond_9 : decode cX8_isBeyond 9 = .ok (.iconst 1, 1) := by decide +kernel
theorem dX8_isBeyond_10 : decode cX8_isBeyond 10 = .ok (.goto 17, 3) := by decide +kernel
theorem dX8_isBeyond_13 : decode cX8_isBeyond 13 = .ok (.iconst 0, 1) := by decide +kernel
theorem dX8_isBeyond_14 : decode cX8_isBeyond 14 = .ok (.goto 13, 3) := by decide +kernel
theorem dX8_isBeyond_17 : decode cX8_isBeyond 17 = .ok (.iload_n 1, 1) := by decide +kernel
theorem dX8_isBeyond_18 : decode cX8_isBeyond 18 = .ok (.iload_n 2, 1) := by decide +kernel
theorem dX8_isBeyond_19 : decode cX8_isBeyond 19 = .ok (.if_icmp .ge 7, 3) := by decide +kernel
theorem dX8_isBeyond_22 : decode cX8_isBeyond 22 = .ok (.iconst 1, 1) := by decide +kernel
theorem dX8_isBeyond_23 : decode cX8_isBeyond 23 = .ok (.goto 4, 3) := by decide +kernel
theorem dX8_isBeyond_26 : decode cX8_isBeyond 26 = .ok (.iconst 0, 1) := by decide +kernel
theorem dX8_isBeyond_27 : decode cX8_isBeyond 27 = .ok (.ireturn, 1) := by decide +kernel
theorem dX9_init_0 : decode cX9_init 0 = .ok (.aload_n 0, 1) := by decide +kernel
theorem dX9_init_1 : decode cX9_init 1 = .ok (.invokespecial 1, 3) := by decide +kernel
theorem dX9_init_4 : decode cX9_init 4 = .ok (.aload_n 0, 1) := by decide +kernel
theorem dX9_init_5 : decode cX9_init 5 = .ok (.new 7, 3) := by decide +kernel
theorem dX9_init_8 : decode cX9_init 8 = .ok (.dup, 1) := by decide +kernel
theorem dX9_init_9 : decode cX9_init 9 = .ok (.invokespecial 9, 3) := by decide +kernel
theorem dX9_init_12 : decode cX9_init 12 = .ok (.putfield 10, 3) := by decide +kernel
theorem dX9_init_15 : decode cX9_init 15 = .ok (.aload_n 0, 1) := by decide +kernel
theorem dX9_init_16 : decode cX9_init 16 = .ok (.new 16, 3) := by decide +kernel
theorem dX9_init_19 : decode cX9_init 19 = .ok (.dup, 1) := by decide +kernel
theorem dX9_init_20 : decode cX9_init 20 = .ok (.invokespecial 18, 3) := by decide +kernel
theorem dX9_init_23 : decode cX9_init 23 = .ok (.putfield 19, 3) := by decide +kernel
theorem dX9_init_26 : decode cX9_init 26 = .ok (.aload_n 0, 1) := by decide +kernel
theorem dX9_init_27 : decode cX9_init 27 = .ok (.new 23, 3) := by decide +kernel
theorem dX9_init_30 : decode cX9_init 30 = .ok (.dup, 1) := by decide +kernel
theorem dX9_init_31 : decode cX9_init 31 = .ok (.aload_n 0, 1) := by decide +kernel
theorem dX9_init_32 : decode cX9_init 32 = .ok (.getfield 19, 3) := by decide +kernel
theorem dX9_init_35 : decode cX9_init 35 = .ok (.invokespecial 25, 3) := by decide +kernel
theorem dX9_init_38 : decode cX9_init 38 = .ok (.putfield 28, 3) := by decide +kernel
theorem dX9_init_41 : decode cX9_init 41 = .ok (.aload_n 0, 1) := by decide +kernel
theorem dX9_init_42 : decode cX9_init 42 = .ok (.new 32, 3) := by decide +kernel
theorem dX9_init_45 : decode cX9_init 45 = .ok (.dup, 1) := by decide +kernel
theorem dX9_init_46 : decode cX9_init 46 = .ok (.invokespecial 34, 3) := by decide +kernel
theorem dX9_init_49 : decode cX9_init 49 = .ok (.putfield 35, 3) := by decide +kernel
theorem dX9_init_52 : decode cX9_init 52 = .ok (.aload_n 0, 1) := by decide +kernel
theorem dX9_init_53 : decode cX9_init 53 = .ok (.new 39, 3) := by decide +kernel
theorem dX9_init_56 : decode cX9_init 56 = .ok (.dup, 1) := by decide +kernel
theorem dX9_init_57 : decode cX9_init 57 = .ok (.invokespecial 41, 3) := by decide +kernel
theorem dX9_init_60 : decode cX9_init 60 = .ok (.putfield 42, 3) := by decide +kernel
theorem dX9_init_63 : decode cX9_init 63 = .ok (.aload_n 0, 1) := by decide +kernel
theorem dX9_init_64 : decode cX9_init 64 = .ok (.new 46, 3) := by decide +kernel
theorem dX9_init_67 : decode cX9_init 67 = .ok (.dup, 1) := by decide +kernel
theorem dX9_init_68 : decode cX9_init 68 = .ok (.invokespecial 48, 3) := by decide +kernel
theorem dX9_init_71 : decode cX9_init 71 = .ok (.putfield 49, 3) := by decide +kernel
theorem dX9_init_74 : decode cX9_init 74 = .ok (.aload_n 0, 1) := by decide +kernel
theorem dX9_init_75 : decode cX9_init 75 = .ok (.new 53, 3) := by decide +kernel
theorem dX9_init_78 : decode cX9_init 78 = .ok (.dup, 1) := by decide +kernel
theorem dX9_init_79 : decode cX9_init 79 = .ok (.aload_n 0, 1) := by decide +kernel
theorem dX9_init_80 : decode cX9_init 80 = .ok (.getfield 42, 3) := by decide +kernel
theorem dX9_init_83 : decode cX9_init 83 = .ok (.aload_n 0, 1) := by decide +kernel
theorem dX9_init_84 : decode cX9_init 84 = .ok (.getfield 49, 3) := by decide +kernel
theorem dX9_init_87 : decode cX9_init 87 = .ok (.invokespecial 55, 3) := by decide +kernel
theorem dX9_init_90 : decode cX9_init 90 = .ok (.putfield 58, 3) := by decide +kernel
theorem dX9_init_93 : decode cX9_init 93 = .ok (.aload_n 0, 1) := by decide +kernel
theorem dX9_init_94 : decode cX9_init 94 = .ok (.new 62, 3) := by decide +kernel
theorem dX9_init_97 : decode cX9_init 97 = .ok (.dup, 1) := by decide +kernel
theorem dX9_init_98 : decode cX9_init 98 = .ok (.invokespecial 64, 3) := by decide +kernel
theorem dX9_init_101 : decode cX9_init 101 = .ok (.putfield 65, 3) := by decide +kernel
theorem dX9_init_104 : decode cX9_init 104 = .ok (.aload_n 0, 1) := by decide +kernel
theorem dX9_init_105 : decode cX9_init 105 = .ok (.new 69, 3) := by decide +kernel
theorem dX9_init_108 : decode cX9_init 108 = .ok (.dup, 1) := by decide +kernel
theorem dX9_init_109 : decode cX9_init 109 = .ok (.invokespecial 71, 3) := by decide +kernel
theorem dX9_init_112 : decode cX9_init 112 = .ok (.putfield 72, 3) := by decide +kernel
theorem dX9_init_115 : decode cX9_init 115 = .ok (.aload_n 0, 1) := by decide +kernel
theorem dX9_init_116 : decode cX9_init 116 = .ok (.new 69, 3) := by decide +kernel
theorem dX9_init_119 : decode cX9_init 119 = .ok (.dup, 1) := by decide +kernel
theorem dX9_init_120 : decode cX9_init 120 = .ok (.invokespecial 71, 3) := by decide +kernel
theorem dX9_init_123 : decode cX9_init 123 = .ok (.putfield 76, 3) := by decide +kernel
theorem dX9_init_126 : decode cX9_init 126 = .ok (.aload_n 0, 1) := by decide +kernel
theorem dX9_init_127 : decode cX9_init 127 = .ok (.iconst 0, 1) := by decide +kernel
theorem dX9_init_128 : decode cX9_init 128 = .ok (.putfield 79, 3) := by decide +kernel
theorem dX9_init_131 : decode cX9_init 131 = .ok (.return_, 1) := by decide +kernel
theorem dX9_say_0 : decode cX9_say 0 = .ok (.iload_n 1, 1) := by decide +kernel
theorem dX9_say_1 : decode cX9_say 1 = .ok (.bipush 6, 2) := by decide +kernel
theorem dX9_say_3 : decode cX9_say 3 = .ok (.invokestatic 83, 3) := by decide +kernel
theorem dX9_say_6 : decode cX9_say 6 = .ok (.ifCond .eq 49, 3) := by decide +kernel
theorem dX9_say_9 : decode cX9_say 9 = .ok (.iload_n 2, 1) := by decide +kernel
theorem dX9_say_10 : decode cX9_say 10 = .ok (.iload_n 3, 1) := by decide +kernel
theorem dX9_say_11 : decode cX9_say 11 = .ok (.bipush 10, 2) := by decide +kernel
theorem dX9_say_13 : decode cX9_say 13 = .ok (.invokestatic 87, 3) := by decide +kernel
theorem dX9_say_16 : decode cX9_say 16 = .ok (.ifCond .eq 39, 3) := by decide +kernel
theorem dX9_say_19 : decode cX9_say 19 = .ok (.iload 4, 2) := by decide +kernel
theorem dX9_say_21 : decode cX9_say 21 = .ok (.iload 5, 2) := by decide +kernel
theorem dX9_say_23 : decode cX9_say 23 = .ok (.bipush 80, 2) := by decide +kernel
theorem dX9_say_25 : decode cX9_say 25 = .ok (.invokestatic 87, 3) := by decide +kernel
theorem dX9_say_28 : decode cX9_say 28 = .ok (.ifCond .eq 27, 3) := by decide +kernel
theorem dX9_say_31 : decode cX9_say 31 = .ok (.iload 6, 2) := by decide +kernel
theorem dX9_say_33 : decode cX9_say 33 = .ok (.sipush 1000, 3) := by decide +kernel
theorem dX9_say_36 : decode cX9_say 36 = .ok (.invokestatic 83, 3) := by decide +kernel
theorem dX9_say_39 : decode cX9_say 39 = .ok (.ifCond .eq 16, 3) := by decide +kernel
theorem dX9_say_42 : decode cX9_say 42 = .ok (.iload 7, 2) := by decide +kernel
theorem dX9_say_44 : decode cX9_say 44 = .ok (.iconst 2, 1) := by decide +kernel
theorem dX9_say_45 : decode cX9_say 45 = .ok (.invokestatic 83, 3) := by decide +kernel
theorem dX9_say_48 : decode cX9_say 48 = .ok (.ifCond .eq 7, 3) := by decide +kernel
theorem dX9_say_51 : decode cX9_say 51 = .ok (.iconst 1, 1) := by decide +kernel
theorem dX9_say_52 : decode cX9_say 52 = .ok (.goto 4, 3) := by decide +kernel
theorem dX9_say_55 : decode cX9_say 55 = .ok (.iconst 0, 1) := by decide +kernel
theorem dX9_say_56 : decode cX9_say 56 = .ok (.istore 8, 2) := by decide +kernel
theorem dX9_say_58 : decode cX9_say 58 = .ok (.iload 8, 2) := by decide +kernel
theorem dX9_say_60 : decode cX9_say 60 = .ok (.ifCond .eq 15, 3) := by decide +kernel
theorem dX9_say_63 : decode cX9_say 63 = .ok (.aload_n 0, 1) := by decide +kernel
theorem dX9_say_64 : decode cX9_say 64 = .ok (.getfield 10, 3) := by decide +kernel
theorem dX9_say_67 : decode cX9_say 67 = .ok (.invokevirtual 91, 3) := by decide +kernel
theorem dX9_say_70 : decode cX9_say 70 = .ok (.bipush 12, 2) := by decide +kernel
theorem dX9_say_72 : decode cX9_say 72 = .ok (.if_icmp .lt 5, 3) := by decide +kernel
theorem dX9_say_75 : decode cX9_say 75 = .ok (.iconst (-1), 1) := by decide +kernel
theorem dX9_say_76 : decode cX9_say 76 = .ok (.ireturn, 1) := by decide +kernel
theorem dX9_say_77 : decode cX9_say 77 = .ok (.aload_n 0, 1) := by decide +kernel
theorem dX9_say_78 : decode cX9_say 78 = .ok (.getfield 10, 3) := by decide +kernel
theorem dX9_say_81 : decode cX9_say 81 = .ok (.new 95, 3) := by decide +kernel
theorem dX9_say_84 : decode cX9_say 84 = .ok (.dup, 1) := by decide +kernel
theorem dX9_say_85 : decode cX9_say 85 = .ok (.iload_n 1, 1) := by decide +kernel
theorem dX9_say_86 : decode cX9_say 86 = .ok (.iload_n 2, 1) := by decide +kernel
theorem dX9_say_87 : decode cX9_say 87 = .ok (.iload_n 3, 1) := by decide +kernel
theorem dX9_say_88 : decode cX9_say 88 = .ok (.iload 4, 2) := by decide +kernel
theorem dX9_say_90 : decode cX9_say 90 = .ok (.iload 5, 2) := by decide +kernel
theorem dX9_say_92 : decode cX9_say 92 = .ok (.iload 6, 2) := by decide +kernel
theorem dX9_say_94 : decode cX9_say 94 = .ok (.iload 7, 2) := by decide +kernel
theorem dX9_say_96 : decode cX9_say 96 = .ok (.invokespecial 97, 3) := by decide +kernel
theorem dX9_say_99 : decode cX9_say 99 = .ok (.invokevirtual 100, 3) := by decide +kernel
theorem dX9_say_102 : decode cX9_say 102 = .ok (.pop, 1) := by decide +kernel
theorem dX9_say_103 : decode cX9_say 103 = .ok (.aload_n 0, 1) := by decide +kernel
theorem dX9_say_104 : decode cX9_say 104 = .ok (.iconst 0, 1) := by decide +kernel
theorem dX9_say_105 : decode cX9_say 105 = .ok (.putfield 79, 3) := by decide +kernel
theorem dX9_say_108 : decode cX9_say 108 = .ok (.aload_n 0, 1) := by decide +kernel
theorem dX9_say_109 : decode cX9_say 109 = .ok (.getfield 10, 3) := by decide +kernel
theorem dX9_say_112 : decode cX9_say 112 = .ok (.invokevirtual 91, 3) := by decide +kernel
theorem dX9_say_115 : decode cX9_say 115 = .ok (.iconst 1, 1) := by decide +kernel
theorem dX9_say_116 : decode cX9_say 116 = .ok (.isub, 1) := by decide +kernel
theorem dX9_say_117 : decode cX9_say 117 = .ok (.ireturn, 1) := by decide +kernel
theorem dX9_feed_0 : decode cX9_feed 0 = .ok (.aload_n 0, 1) := by decide +kernel
theorem dX9_feed_1 : decode cX9_feed 1 = .ok (.getfield 19, 3) := by decide +kernel
theorem dX9_feed_4 : decode cX9_feed 4 = .ok (.getfield 104, 3) := by decide +kernel
theorem dX9_feed_7 : decode cX9_feed 7 = .ok (.sipush 380, 3) := by decide +kernel
theorem dX9_feed_10 : decode cX9_feed 10 = .ok (.if_icmp .le 5, 3) := by decide +kernel
theorem dX9_feed_13 : decode cX9_feed 13 = .ok (.iconst (-1), 1) := by decide +kernel
theorem dX9_feed_14 : decode cX9_feed 14 = .ok (.ireturn, 1) := by decide +kernel
theorem dX9_feed_15 : decode cX9_feed 15 = .ok (.aload_n 0, 1) := by decide +kernel
theorem dX9_feed_16 : decode cX9_feed 16 = .ok (.getfield 19, 3) := by decide +kernel
theorem dX9_feed_19 : decode cX9_feed 19 = .ok (.iload_n 1, 1) := by decide +kernel
theorem dX9_feed_20 : decode cX9_feed 20 = .ok (.invokevirtual 108, 3) := by decide +kernel
theorem dX9_feed_23 : decode cX9_feed 23 = .ok (.aload_n 0, 1) := by decide +kernel
theorem dX9_feed_24 : decode cX9_feed 24 = .ok (.getfield 19, 3) := by decide +kernel
theorem dX9_feed_27 : decode cX9_feed 27 = .ok (.iload_n 2, 1) := by decide +kernel
theorem dX9_feed_28 : decode cX9_feed 28 = .ok (.invokevirtual 108, 3) := by decide +kernel
theorem dX9_feed_31 : decode cX9_feed 31 = .ok (.aload_n 0, 1) := by decide +kernel
theorem dX9_feed_32 : decode cX9_feed 32 = .ok (.getfield 19, 3) := by decide +kernel
theorem dX9_feed_35 : decode cX9_feed 35 = .ok (.iload_n 3, 1) := by decide +kernel
theorem dX9_feed_36 : decode cX9_feed 36 = .ok (.invokevirtual 108, 3) := by decide +kernel
theorem dX9_feed_39 : decode cX9_feed 39 = .ok (.aload_n 0, 1) := by decide +kernel
theorem dX9_feed_40 : decode cX9_feed 40 = .ok (.getfield 19, 3) := by decide +kernel
theorem dX9_feed_43 : decode cX9_feed 43 = .ok (.iload 4, 2) := by decide +kernel
theorem dX9_feed_45 : decode cX9_feed 45 = .ok (.invokevirtual 108, 3) := by decide +kernel
theorem dX9_feed_48 : decode cX9_feed 48 = .ok (.aload_n 0, 1) := by decide +kernel
theorem dX9_feed_49 : decode cX9_feed 49 = .ok (.getfield 19, 3) := by decide +kernel
theorem dX9_feed_52 : decode cX9_feed 52 = .ok (.iload 5, 2) := by decide +kernel
theorem dX9_feed_54 : decode cX9_feed 54 = .ok (.invokevirtual 108, 3) := by decide +kernel
theorem dX9_feed_57 : decode cX9_feed 57 = .ok (.aload_n 0, 1) := by decide +kernel
theorem dX9_feed_58 : decode cX9_feed 58 = .ok (.getfield 19, 3) := by decide +kernel
theorem dX9_feed_61 : decode cX9_feed 61 = .ok (.getfield 104, 3) := by decide +kernel
theorem dX9_feed_64 : decode cX9_feed 64 = .ok (.ireturn, 1) := by decide +kernel
theorem dX9_end_0 : decode cX9_end 0 = .ok (.aload_n 0, 1) := by decide +kernel
theorem dX9_end_1 : decode cX9_end 1 = .ok (.getfield 19, 3) := by decide +kernel
theorem dX9_end_4 : decode cX9_end 4 = .ok (.iload_n 1, 1) := by decide +kernel
theorem dX9_end_5 : decode cX9_end 5 = .ok (.invokevirtual 112, 3) := by decide +kernel
theorem dX9_end_8 : decode cX9_end 8 = .ok (.ireturn, 1) := by decide +kernel
theorem dX9_rules_0 : decode cX9_rules 0 = .ok (.aload_n 0, 1) := by decide +kernel
theorem dX9_rules_1 : decode cX9_rules 1 = .ok (.getfield 28, 3) := by decide +kernel
theorem dX9_rules_4 : decode cX9_rules 4 = .ok (.aload_n 0, 1) := by decide +kernel
theorem dX9_rules_5 : decode cX9_rules 5 = .ok (.getfield 76, 3) := by decide +kernel
theorem dX9_rules_8 : decode cX9_rules 8 = .ok (.invokevirtual 116, 3) := by decide +kernel
theorem dX9_rules_11 : decode cX9_rules 11 = .ok (.aload_n 0, 1) := by decide +kernel
theorem dX9_rules_12 : decode cX9_rules 12 = .ok (.getfield 19, 3) := by decide +kernel
theorem dX9_rules_15 : decode cX9_rules 15 = .ok (.iconst 0, 1) := by decide +kernel
theorem dX9_rules_16 : decode cX9_rules 16 = .ok (.invokevirtual 112, 3) := by decide +kernel
theorem dX9_rules_19 : decode cX9_rules 19 = .ok (.pop, 1) := by decide +kernel
theorem dX9_rules_20 : decode cX9_rules 20 = .ok (.aload_n 0, 1) := by decide +kernel
theorem dX9_rules_21 : decode cX9_rules 21 = .ok (.getfield 28, 3) := by decide +kernel
theorem dX9_rules_24 : decode cX9_rules 24 = .ok (.getfield 120, 3) := by decide +kernel
theorem dX9_rules_27 : decode cX9_rules 27 = .ok (.ifCond .eq 5, 3) := by decide +kernel
theorem dX9_rules_30 : decode cX9_rules 30 = .ok (.iconst (-1), 1) := by decide +kernel
theorem dX9_rules_31 : decode cX9_rules 31 = .ok (.ireturn, 1) := by decide +kernel
theorem dX9_rules_32 : decode cX9_rules 32 = .ok (.aload_n 0, 1) := by decide +kernel
theorem dX9_rules_33 : decode cX9_rules 33 = .ok (.getfield 72, 3) := by decide +kernel
theorem dX9_rules_36 : decode cX9_rules 36 = .ok (.astore_n 1, 1) := by decide +kernel
theorem dX9_rules_37 : decode cX9_rules 37 = .ok (.aload_n 0, 1) := by decide +kernel
theorem dX9_rules_38 : decode cX9_rules 38 = .ok (.aload_n 0, 1) := by decide +kernel
theorem dX9_rules_39 : decode cX9_rules 39 = .ok (.getfield 76, 3) := by decide +kernel
theorem dX9_rules_42 : decode cX9_rules 42 = .ok (.putfield 72, 3) := by decide +kernel
theorem dX9_rules_45 : decode cX9_rules 45 = .ok (.aload_n 0, 1) := by decide +kernel
theorem dX9_rules_46 : decode cX9_rules 46 = .ok (.aload_n 1, 1) := by decide +kernel
theorem dX9_rules_47 : decode cX9_rules 47 = .ok (.putfield 76, 3) := by decide +kernel
theorem dX9_rules_50 : decode cX9_rules 50 = .ok (.aload_n 0, 1) := by decide +kernel
theorem dX9_rules_51 : decode cX9_rules 51 = .ok (.iconst 0, 1) := by decide +kernel
theorem dX9_rules_52 : decode cX9_rules 52 = .ok (.putfield 79, 3) := by decide +kernel
theorem dX9_rules_55 : decode cX9_rules 55 = .ok (.aload_n 0, 1) := by decide +kernel
theorem dX9_rules_56 : decode cX9_rules 56 = .ok (.getfield 28, 3) := by decide +kernel
theorem dX9_rules_59 : decode cX9_rules 59 = .ok (.getfield 123, 3) := by decide +kernel
theorem dX9_rules_62 : decode cX9_rules 62 = .ok (.ireturn, 1) := by decide +kernel
theorem dX9_fault_0 : decode cX9_fault 0 = .ok (.iload_n 1, 1) := by decide +kernel
theorem dX9_fault_1 : decode cX9_fault 1 = .ok (.lookupswitch 43 #[(0, 27), (1, 35)], 27) := by decide +kernel
theorem dX9_fault_28 : decode cX9_fault 28 = .ok (.aload_n 0, 1) := by decide +kernel
theorem dX9_fault_29 : decode cX9_fault 29 = .ok (.getfield 28, 3) := by decide +kernel
theorem dX9_fault_32 : decode cX9_fault 32 = .ok (.getfield 120, 3) := by decide +kernel
theorem dX9_fault_35 : decode cX9_fault 35 = .ok (.ireturn, 1) := by decide +kernel
theorem dX9_fault_36 : decode cX9_fault 36 = .ok (.aload_n 0, 1) := by decide +kernel
theorem dX9_fault_37 : decode cX9_fault 37 = .ok (.getfield 28, 3) := by decide +kernel
theorem dX9_fault_40 : decode cX9_fault 40 = .ok (.getfield 126, 3) := by decide +kernel
theorem dX9_fault_43 : decode cX9_fault 43 = .ok (.ireturn, 1) := by decide +kernel
theorem dX9_fault_44 : decode cX9_fault 44 = .ok (.iconst (-1), 1) := by decide +kernel
theorem dX9_fault_45 : decode cX9_fault 45 = .ok (.ireturn, 1) := by decide +kernel
theorem dX9_look_0 : decode cX9_look 0 = .ok (.iload_n 1, 1) := by decide +kernel
theorem dX9_look_1 : decode cX9_look 1 = .ok (.tableswitch 75 0 4 #[35, 43, 51, 59, 67], 35) := by decide +kernel
theorem dX9_look_36 : decode cX9_look 36 = .ok (.aload_n 0, 1) := by decide +kernel
theorem dX9_look_37 : decode cX9_look 37 = .ok (.getfield 10, 3) := by decide +kernel
theorem dX9_look_40 : decode cX9_look 40 = .ok (.invokevirtual 91, 3) := by decide +kernel
theorem dX9_look_43 : decode cX9_look 43 = .ok (.ireturn, 1) := by decide +kernel
theorem dX9_look_44 : decode cX9_look 44 = .ok (.aload_n 0, 1) := by decide +kernel
theorem dX9_look_45 : decode cX9_look 45 = .ok (.getfield 72, 3) := by decide +kernel
theorem dX9_look_48 : decode cX9_look 48 = .ok (.getfield 129, 3) := by decide +kernel
theorem dX9_look_51 : decode cX9_look 51 = .ok (.ireturn, 1) := by decide +kernel
theorem dX9_look_52 : decode cX9_look 52 = .ok (.aload_n 0, 1) := by decide +kernel
theorem dX9_look_53 : decode cX9_look 53 = .ok (.getfield 72, 3) := by decide +kernel
theorem dX9_look_56 : decode cX9_look 56 = .ok (.getfield 132, 3) := by decide +kernel
theorem dX9_look_59 : decode cX9_look 59 = .ok (.ireturn, 1) := by decide +kernel
theorem dX9_look_60 : decode cX9_look 60 = .ok (.aload_n 0, 1) := by decide +kernel
theorem dX9_look_61 : decode cX9_look 61 = .ok (.getfield 72, 3) := by decide +kernel
theorem dX9_look_64 : decode cX9_look 64 = .ok (.getfield 135, 3) := by decide +kernel
theorem dX9_look_67 : decode cX9_look 67 = .ok (.ireturn, 1) := by decide +kernel
theorem dX9_look_68 : decode cX9_look 68 = .ok (.aload_n 0, 1) := by decide +kernel
theorem dX9_look_69 : decode cX9_look 69 = .ok (.getfield 42, 3) := by decide +kernel
theorem dX9_look_72 : decode cX9_look 72 = .ok (.getfield 138, 3) := by decide +kernel
theorem dX9_look_75 : decode cX9_look 75 = .ok (.ireturn, 1) := by decide +kernel
theorem dX9_look_76 : decode cX9_look 76 = .ok (.aload_n 0, 1) := by decide +kernel
theorem dX9_look_77 : decode cX9_look 77 = .ok (.iload_n 1, 1) := by decide +kernel
theorem dX9_look_78 : decode cX9_look 78 = .ok (.invokevirtual 141, 3) := by decide +kernel
theorem dX9_look_81 : decode cX9_look 81 = .ok (.ireturn, 1) := by decide +kernel
theorem dX9_lookAtKinds_0 : decode cX9_lookAtKinds 0 = .ok (.iload_n 1, 1) := by decide +kernel
theorem dX9_lookAtKinds_1 : decode cX9_lookAtKinds 1 = .ok (.bipush 10, 2) := by decide +kernel
theorem dX9_lookAtKinds_3 : decode cX9_lookAtKinds 3 = .ok (.if_icmp .lt 22, 3) := by decide +kernel
theorem dX9_lookAtKinds_6 : decode cX9_lookAtKinds 6 = .ok (.iload_n 1, 1) := by decide +kernel
theorem dX9_lookAtKinds_7 : decode cX9_lookAtKinds 7 = .ok (.bipush 16, 2) := by decide +kernel
theorem dX9_lookAtKinds_9 : decode cX9_lookAtKinds 9 = .ok (.if_icmp .ge 16, 3) := by decide +kernel
theorem dX9_lookAtKinds_12 : decode cX9_lookAtKinds 12 = .ok (.aload_n 0, 1) := by decide +kernel
theorem dX9_lookAtKinds_13 : decode cX9_lookAtKinds 13 = .ok (.getfield 72, 3) := by decide +kernel
theorem dX9_lookAtKinds_16 : decode cX9_lookAtKinds 16 = .ok (.getfield 145, 3) := by decide +kernel
theorem dX9_lookAtKinds_19 : decode cX9_lookAtKinds 19 = .ok (.iload_n 1, 1) := by decide +kernel
theorem dX9_lookAtKinds_20 : decode cX9_lookAtKinds 20 = .ok (.bipush 10, 2) := by decide +kernel
theorem dX9_lookAtKinds_22 : decode cX9_lookAtKinds 22 = .ok (.isub, 1) := by decide +kernel
theorem dX9_lookAtKinds_23 : decode cX9_lookAtKinds 23 = .ok (.iaload, 1) := by decide +kernel
theorem dX9_lookAtKinds_24 : decode cX9_lookAtKinds 24 = .ok (.ireturn, 1) := by decide +kernel
theorem dX9_lookAtKinds_25 : decode cX9_lookAtKinds 25 = .ok (.iload_n 1, 1) := by decide +kernel
theorem dX9_lookAtKinds_26 : decode cX9_lookAtKinds 26 = .ok (.bipush 20, 2) := by decide +kernel
theorem dX9_lookAtKinds_28 : decode cX9_lookAtKinds 28 = .ok (.if_icmp .lt 30, 3) := by decide +kernel
theorem dX9_lookAtKinds_31 : decode cX9_lookAtKinds 31 = .ok (.iload_n 1, 1) := by decide +kernel
theorem dX9_lookAtKinds_32 : decode cX9_lookAtKinds 32 = .ok (.bipush 26, 2) := by decide +kernel
theorem dX9_lookAtKinds_34 : decode cX9_lookAtKinds 34 = .ok (.if_icmp .ge 24, 3) := by decide +kernel
theorem dX9_lookAtKinds_37 : decode cX9_lookAtKinds 37 = .ok (.aload_n 0, 1) := by decide +kernel
theorem dX9_lookAtKinds_38 : decode cX9_lookAtKinds 38 = .ok (.getfield 72, 3) := by decide +kernel
theorem dX9_lookAtKinds_41 : decode cX9_lookAtKinds 41 = .ok (.getfield 149, 3) := by decide +kernel
theorem dX9_lookAtKinds_44 : decode cX9_lookAtKinds 44 = .ok (.iload_n 1, 1) := by decide +kernel
theorem dX9_lookAtKinds_45 : decode cX9_lookAtKinds 45 = .ok (.bipush 20, 2) := by decide +kernel
theorem dX9_lookAtKinds_47 : decode cX9_lookAtKinds 47 = .ok (.isub, 1) := by decide +kernel
theorem dX9_lookAtKinds_48 : decode cX9_lookAtKinds 48 = .ok (.baload, 1) := by decide +kernel
theorem dX9_lookAtKinds_49 : decode cX9_lookAtKinds 49 = .ok (.ifCond .eq 7, 3) := by decide +kernel
theorem dX9_lookAtKinds_52 : decode cX9_lookAtKinds 52 = .ok (.iconst 1, 1) := by decide +kernel
theorem dX9_lookAtKinds_53 : decode cX9_lookAtKinds 53 = .ok (.goto 4, 3) := by decide +kernel
theorem dX9_lookAtKinds_56 : decode cX9_lookAtKinds 56 = .ok (.iconst 0, 1) := by decide +kernel
theorem dX9_lookAtKinds_57 : decode cX9_lookAtKinds 57 = .ok (.ireturn, 1) := by decide +kernel
theorem dX9_lookAtKinds_58 : decode cX9_lookAtKinds 58 = .ok (.iconst (-1), 1) := by decide +kernel
theorem dX9_lookAtKinds_59 : decode cX9_lookAtKinds 59 = .ok (.ireturn, 1) := by decide +kernel
theorem dX9_said_0 : decode cX9_said 0 = .ok (.iload_n 1, 1) := by decide +kernel
theorem dX9_said_1 : decode cX9_said 1 = .ok (.aload_n 0, 1) := by decide +kernel
theorem dX9_said_2 : decode cX9_said 2 = .ok (.getfield 10, 3) := by decide +kernel
theorem dX9_said_5 : decode cX9_said 5 = .ok (.invokevirtual 91, 3) := by decide +kernel
theorem dX9_said_8 : decode cX9_said 8 = .ok (.invokestatic 83, 3) := by decide +kernel
theorem dX9_said_11 : decode cX9_said 11 = .ok (.ifCond .ne 5, 3) := by decide +kernel
theorem dX9_said_14 : decode cX9_said 14 = .ok (.iconst (-1), 1) := by decide +kernel
theorem dX9_said_15 : decode cX9_said 15 = .ok (.ireturn, 1) := by decide +kernel
theorem dX9_said_16 : decode cX9_said 16 = .ok (.aload_n 0, 1) := by decide +kernel
theorem dX9_said_17 : decode cX9_said 17 = .ok (.getfield 10, 3) := by decide +kernel
theorem dX9_said_20 : decode cX9_said 20 = .ok (.iload_n 1, 1) := by decide +kernel
theorem dX9_said_21 : decode cX9_said 21 = .ok (.invokevirtual 153, 3) := by decide +kernel
theorem dX9_said_24 : decode cX9_said 24 = .ok (.checkcast 95, 3) := by decide +kernel
theorem dX9_said_27 : decode cX9_said 27 = .ok (.astore_n 3, 1) := by decide +kernel
theorem dX9_said_28 : decode cX9_said 28 = .ok (.iload_n 2, 1) := by decide +kernel
theorem dX9_said_29 : decode cX9_said 29 = .ok (.tableswitch 77 0 4 #[35, 40, 53, 66, 71], 35) := by decide +kernel
theorem dX9_said_64 : decode cX9_said 64 = .ok (.aload_n 3, 1) := by decide +kernel
theorem dX9_said_65 : decode cX9_said 65 = .ok (.getfield 157, 3) := by decide +kernel
theorem dX9_said_68 : decode cX9_said 68 = .ok (.ireturn, 1) := by decide +kernel
theorem dX9_said_69 : decode cX9_said 69 = .ok (.aload_n 3, 1) := by decide +kernel
theorem dX9_said_70 : decode cX9_said 70 = .ok (.aload_n 3, 1) := by decide +kernel
theorem dX9_said_71 : decode cX9_said 71 = .ok (.getfield 160, 3) := by decide +kernel
theorem dX9_said_74 : decode cX9_said 74 = .ok (.aload_n 0, 1) := by decide +kernel
theorem dX9_said_75 : decode cX9_said 75 = .ok (.getfield 72, 3) := by decide +kernel
theorem dX9_said_78 : decode cX9_said 78 = .ok (.invokevirtual 163, 3) := by decide +kernel
theorem dX9_said_81 : decode cX9_said 81 = .ok (.ireturn, 1) := by decide +kernel
theorem dX9_said_82 : decode cX9_said 82 = .ok (.aload_n 3, 1) := by decide +kernel
theorem dX9_said_83 : decode cX9_said 83 = .ok (.aload_n 3, 1) := by decide +kernel
theorem dX9_said_84 : decode cX9_said 84 = .ok (.getfield 167, 3) := by decide +kernel
theorem dX9_said_87 : decode cX9_said 87 = .ok (.aload_n 0, 1) := by decide +kernel
theorem dX9_said_88 : decode cX9_said 88 = .ok (.getfield 72, 3) := by decide +kernel
theorem dX9_said_91 : decode cX9_said 91 = .ok (.invokevirtual 163, 3) := by decide +kernel
theorem dX9_said_94 : decode cX9_said 94 = .ok (.ireturn, 1) := by decide +kernel
theorem dX9_said_95 : decode cX9_said 95 = .ok (.aload_n 3, 1) := by decide +kernel
theorem dX9_said_96 : decode cX9_said 96 = .ok (.getfield 170, 3) := by decide +kernel
theorem dX9_said_99 : decode cX9_said 99 = .ok (.ireturn, 1) := by decide +kernel
theorem dX9_said_100 : decode cX9_said 100 = .ok (.aload_n 0, 1) := by decide +kernel
theorem dX9_said_101 : decode cX9_said 101 = .ok (.aload_n 3, 1) := by decide +kernel
theorem dX9_said_102 : decode cX9_said 102 = .ok (.invokevirtual 173, 3) := by decide +kernel
theorem dX9_said_105 : decode cX9_said 105 = .ok (.ireturn, 1) := by decide +kernel
theorem dX9_said_106 : decode cX9_said 106 = .ok (.iconst (-1), 1) := by decide +kernel
theorem dX9_said_107 : decode cX9_said 107 = .ok (.ireturn, 1) := by decide +kernel
theorem dX9_stationsOf_0 : decode cX9_stationsOf 0 = .ok (.iconst 0, 1) := by decide +kernel
theorem dX9_stationsOf_1 : decode cX9_stationsOf 1 = .ok (.istore_n 2, 1) := by decide +kernel
theorem dX9_stationsOf_2 : decode cX9_stationsOf 2 = .ok (.aload_n 1, 1) := by decide +kernel
theorem dX9_stationsOf_3 : decode cX9_stationsOf 3 = .ok (.getfield 177, 3) := by decide +kernel
theorem dX9_stationsOf_6 : decode cX9_stationsOf 6 = .ok (.istore_n 3, 1) := by decide +kernel
theorem dX9_stationsOf_7 : decode cX9_stationsOf 7 = .ok (.iload_n 3, 1) := by decide +kernel
theorem dX9_stationsOf_8 : decode cX9_stationsOf 8 = .ok (.aload_n 1, 1) := by decide +kernel
theorem dX9_stationsOf_9 : decode cX9_stationsOf 9 = .ok (.getfield 180, 3) := by decide +kernel
theorem dX9_stationsOf_12 : decode cX9_stationsOf 12 = .ok (.if_icmp .gt 31, 3) := by decide +kernel
theorem dX9_stationsOf_15 : decode cX9_stationsOf 15 = .ok (.aload_n 1, 1) := by decide +kernel
theorem dX9_stationsOf_16 : decode cX9_stationsOf 16 = .ok (.iload_n 3, 1) := by decide +kernel
theorem dX9_stationsOf_17 : decode cX9_stationsOf 17 = .ok (.aload_n 0, 1) := by decide +kernel
theorem dX9_stationsOf_18 : decode cX9_stationsOf 18 = .ok (.getfield 10, 3) := by decide +kernel
theorem dX9_stationsOf_21 : decode cX9_stationsOf 21 = .ok (.aload_n 0, 1) := by decide +kernel
theorem dX9_stationsOf_22 : decode cX9_stationsOf 22 = .ok (.getfield 72, 3) := by decide +kernel
theorem dX9_stationsOf_25 : decode cX9_stationsOf 25 = .ok (.invokevirtual 183, 3) := by decide +kernel
theorem dX9_stationsOf_28 : decode cX9_stationsOf 28 = .ok (.ifCond .eq 9, 3) := by decide +kernel
theorem dX9_stationsOf_31 : decode cX9_stationsOf 31 = .ok (.iload_n 2, 1) := by decide +kernel
theorem dX9_stationsOf_32 : decode cX9_stationsOf 32 = .ok (.iconst 1, 1) := by decide +kernel
theorem dX9_stationsOf_33 : decode cX9_stationsOf 33 = .ok (.iload_n 3, 1) := by decide +kernel
theorem dX9_stationsOf_34 : decode cX9_stationsOf 34 = .ok (.ishl, 1) := by decide +kernel
theorem dX9_stationsOf_35 : decode cX9_stationsOf 35 = .ok (.ior, 1) := by decide +kernel
theorem dX9_stationsOf_36 : decode cX9_stationsOf 36 = .ok (.istore_n 2, 1) := by decide +kernel
theorem dX9_stationsOf_37 : decode cX9_stationsOf 37 = .ok (.iinc 3 1, 3) := by decide +kernel
theorem dX9_stationsOf_40 : decode cX9_stationsOf 40 = .ok (.goto (-33), 3) := by decide +kernel
theorem dX9_stationsOf_43 : decode cX9_stationsOf 43 = .ok (.iload_n 2, 1) := by decide +kernel
theorem dX9_stationsOf_44 : decode cX9_stationsOf 44 = .ok (.ireturn, 1) := by decide +kernel
theorem dX9_paper_0 : decode cX9_paper 0 = .ok (.iload_n 1, 1) := by decide +kernel
theorem dX9_paper_1 : decode cX9_paper 1 = .ok (.iconst (-1), 1) := by decide +kernel
theorem dX9_paper_2 : decode cX9_paper 2 = .ok (.if_icmp .eq 15, 3) := by decide +kernel
theorem dX9_paper_5 : decode cX9_paper 5 = .ok (.iload_n 1, 1) := by decide +kernel
theorem dX9_paper_6 : decode cX9_paper 6 = .ok (.bipush 10, 2) := by decide +kernel
theorem dX9_paper_8 : decode cX9_paper 8 = .ok (.invokestatic 83, 3) := by decide +kernel
theorem dX9_paper_11 : decode cX9_paper 11 = .ok (.ifCond .ne 6, 3) := by decide +kernel
theorem dX9_paper_14 : decode cX9_paper 14 = .ok (.bipush (-2), 2) := by decide +kernel
theorem dX9_paper_16 : decode cX9_paper 16 = .ok (.ireturn, 1) := by decide +kernel
theorem dX9_paper_17 : decode cX9_paper 17 = .ok (.aload_n 0, 1) := by decide +kernel
theorem dX9_paper_18 : decode cX9_paper 18 = .ok (.invokevirtual 187, 3) := by decide +kernel
theorem dX9_paper_21 : decode cX9_paper 21 = .ok (.iload_n 1, 1) := by decide +kernel
theorem dX9_paper_22 : decode cX9_paper 22 = .ok (.iconst (-1), 1) := by decide +kernel
theorem dX9_paper_23 : decode cX9_paper 23 = .ok (.if_icmp .ne 13, 3) := by decide +kernel
theorem dX9_paper_26 : decode cX9_paper 26 = .ok (.aload_n 0, 1) := by decide +kernel
theorem dX9_paper_27 : decode cX9_paper 27 = .ok (.getfield 35, 3) := by decide +kernel
theorem dX9_paper_30 : decode cX9_paper 30 = .ok (.getfield 190, 3) := by decide +kernel
theorem dX9_paper_33 : decode cX9_paper 33 = .ok (.goto 12, 3) := by decide +kernel
theorem dX9_paper_36 : decode cX9_paper 36 = .ok (.aload_n 0, 1) := by decide +kernel
theorem dX9_paper_37 : decode cX9_paper 37 = .ok (.getfield 35, 3) := by decide +kernel
theorem dX9_paper_40 : decode cX9_paper 40 = .ok (.getfield 193, 3) := by decide +kernel
theorem dX9_paper_43 : decode cX9_paper 43 = .ok (.iload_n 1, 1) := by decide +kernel
theorem dX9_paper_44 : decode cX9_paper 44 = .ok (.iaload, 1) := by decide +kernel
theorem dX9_paper_45 : decode cX9_paper 45 = .ok (.ireturn, 1) := by decide +kernel
theorem dX9_drawPaperLine_0 : decode cX9_drawPaperLine 0 = .ok (.aload_n 0, 1) := by decide +kernel
theorem dX9_drawPaperLine_1 : decode cX9_drawPaperLine 1 = .ok (.getfield 79, 3) := by decide +kernel
theorem dX9_drawPaperLine_4 : decode cX9_drawPaperLine 4 = .ok (.ifCond .ne 23, 3) := by decide +kernel
theorem dX9_drawPaperLine_7 : decode cX9_drawPaperLine 7 = .ok (.aload_n 0, 1) := by decide +kernel
theorem dX9_drawPaperLine_8 : decode cX9_drawPaperLine 8 = .ok (.getfield 35, 3) := by decide +kernel
theorem dX9_drawPaperLine_11 : decode cX9_drawPaperLine 11 = .ok (.aload_n 0, 1) := by decide +kernel
theorem dX9_drawPaperLine_12 : decode cX9_drawPaperLine 12 = .ok (.getfield 10, 3) := by decide +kernel
theorem dX9_drawPaperLine_15 : decode cX9_drawPaperLine 15 = .ok (.aload_n 0, 1) := by decide +kernel
theorem dX9_drawPaperLine_16 : decode cX9_drawPaperLine 16 = .ok (.getfield 72, 3) := by decide +kernel
theorem dX9_drawPaperLine_19 : decode cX9_drawPaperLine 19 = .ok (.invokevirtual 196, 3) := by decide +kernel
theorem dX9_drawPaperLine_22 : decode cX9_drawPaperLine 22 = .ok (.aload_n 0, 1) := by decide +kernel
theorem dX9_drawPaperLine_23 : decode cX9_drawPaperLine 23 = .ok (.iconst 1, 1) := by decide +kernel
theorem dX9_drawPaperLine_24 : decode cX9_drawPaperLine 24 = .ok (.putfield 79, 3) := by decide +kernel
theorem dX9_drawPaperLine_27 : decode cX9_drawPaperLine 27 = .ok (.return_, 1) := by decide +kernel
theorem dX9_straight_0 : decode cX9_straight 0 = .ok (.iload_n 1, 1) := by decide +kernel
theorem dX9_straight_1 : decode cX9_straight 1 = .ok (.bipush 80, 2) := by decide +kernel
theorem dX9_straight_3 : decode cX9_straight 3 = .ok (.invokestatic 83, 3) := by decide +kernel
theorem dX9_straight_6 : decode cX9_straight 6 = .ok (.ifCond .ne 5, 3) := by decide +kernel
theorem dX9_straight_9 : decode cX9_straight 9 = .ok (.iconst (-1), 1) := by decide +kernel
theorem dX9_straight_10 : decode cX9_straight 10 = .ok (.ireturn, 1) := by decide +kernel
theorem dX9_straight_11 : decode cX9_straight 11 = .ok (.iconst 0, 1) := by decide +kernel
theorem dX9_straight_12 : decode cX9_straight 12 = .ok (.istore_n 2, 1) := by decide +kernel
theorem dX9_straight_13 : decode cX9_straight 13 = .ok (.iconst 0, 1) := by decide +kernel
theorem dX9_straight_14 : decode cX9_straight 14 = .ok (.istore_n 3, 1) := by decide +kernel
theorem dX9_straight_15 : decode cX9_straight 15 = .ok (.iload_n 3, 1) := by decide +kernel
theorem dX9_straight_16 : decode cX9_straight 16 = .ok (.aload_n 0, 1) := by decide +kernel
theorem dX9_straight_17 : decode cX9_straight 17 = .ok (.getfield 10, 3) := by decide +kernel
theorem dX9_straight_20 : decode cX9_straight 20 = .ok (.invokevirtual 91, 3) := by decide +kernel
theorem dX9_straight_23 : decode cX9_straight 23 = .ok (.if_icmp .ge 89, 3) := by decide +kernel
theorem dX9_straight_26 : decode cX9_straight 26 = .ok (.aload_n 0, 1) := by decide +kernel
theorem dX9_straight_27 : decode cX9_straight 27 = .ok (.getfield 10, 3) := by decide +kernel
theorem dX9_straight_30 : decode cX9_straight 30 = .ok (.iload_n 3, 1) := by decide +kernel
theorem dX9_straight_31 : decode cX9_straight 31 = .ok (.invokevirtual 153, 3) := by decide +kernel
theorem dX9_straight_34 : decode cX9_straight 34 = .ok (.checkcast 95, 3) := by decide +kernel
theorem dX9_straight_37 : decode cX9_straight 37 = .ok (.astore 4, 2) := by decide +kernel
theorem dX9_straight_39 : decode cX9_straight 39 = .ok (.aload_n 0, 1) := by decide +kernel
theorem dX9_straight_40 : decode cX9_straight 40 = .ok (.aload 4, 2) := by decide +kernel
theorem dX9_straight_42 : decode cX9_straight 42 = .ok (.invokevirtual 173, 3) := by decide +kernel
theorem dX9_straight_45 : decode cX9_straight 45 = .ok (.invokestatic 200, 3) := by decide +kernel
theorem dX9_straight_48 : decode cX9_straight 48 = .ok (.istore 5, 2) := by decide +kernel
theorem dX9_straight_50 : decode cX9_straight 50 = .ok (.iload_n 1, 1) := by decide +kernel
theorem dX9_straight_51 : decode cX9_straight 51 = .ok (.aload 4, 2) := by decide +kernel
theorem dX9_straight_53 : decode cX9_straight 53 = .ok (.aload 4, 2) := by decide +kernel
theorem dX9_straight_55 : decode cX9_straight 55 = .ok (.getfield 160, 3) := by decide +kernel
theorem dX9_straight_58 : decode cX9_straight 58 = .ok (.aload_n 0, 1) := by decide +kernel
theorem dX9_straight_59 : decode cX9_straight 59 = .ok (.getfield 72, 3) := by decide +kernel
theorem dX9_straight_62 : decode cX9_straight 62 = .ok (.invokevirtual 163, 3) := by decide +kernel
theorem dX9_straight_65 : decode cX9_straight 65 = .ok (.aload 4, 2) := by decide +kernel
theorem dX9_straight_67 : decode cX9_straight 67 = .ok (.aload 4, 2) := by decide +kernel
theorem dX9_straight_69 : decode cX9_straight 69 = .ok (.getfield 167, 3) := by decide +kernel
theorem dX9_straight_72 : decode cX9_straight 72 = .ok (.aload_n 0, 1) := by decide +kernel
theorem dX9_straight_73 : decode cX9_straight 73 = .ok (.getfield 72, 3) := by decide +kernel
theorem dX9_straight_76 : decode cX9_straight 76 = .ok (.invokevirtual 163, 3) := by decide +kernel
theorem dX9_straight_79 : decode cX9_straight 79 = .ok (.invokestatic 205, 3) := by decide +kernel
theorem dX9_straight_82 : decode cX9_straight 82 = .ok (.istore 6, 2) := by decide +kernel
theorem dX9_straight_84 : decode cX9_straight 84 = .ok (.iload_n 2, 1) := by decide +kernel
theorem dX9_straight_85 : decode cX9_straight 85 = .ok (.iload 5, 2) := by decide +kernel
theorem dX9_straight_87 : decode cX9_straight 87 = .ok (.aload_n 0, 1) := by decide +kernel
theorem dX9_straight_88 : decode cX9_straight 88 = .ok (.getfield 72, 3) := by decide +kernel
theorem dX9_straight_91 : decode cX9_straight 91 = .ok (.getfield 145, 3) := by decide +kernel
theorem dX9_straight_94 : decode cX9_straight 94 = .ok (.aload 4, 2) := by decide +kernel
theorem dX9_straight_96 : decode cX9_straight 96 = .ok (.getfield 157, 3) := by decide +kernel
theorem dX9_straight_99 : decode cX9_straight 99 = .ok (.iaload, 1) := by decide +kernel
theorem dX9_straight_100 : decode cX9_straight 100 = .ok (.imul, 1) := by decide +kernel
theorem dX9_straight_101 : decode cX9_straight 101 = .ok (.iload 6, 2) := by decide +kernel
theorem dX9_straight_103 : decode cX9_straight 103 = .ok (.imul, 1) := by decide +kernel
theorem dX9_straight_104 : decode cX9_straight 104 = .ok (.iadd, 1) := by decide +kernel
theorem dX9_straight_105 : decode cX9_straight 105 = .ok (.istore_n 2, 1) := by decide +kernel
theorem dX9_straight_106 : decode cX9_straight 106 = .ok (.iinc 3 1, 3) := by decide +kernel
theorem dX9_straight_109 : decode cX9_straight 109 = .ok (.goto (-94), 3) := by decide +kernel
theorem dX9_straight_112 : decode cX9_straight 112 = .ok (.iload_n 2, 1) := by decide +kernel
theorem dX9_straight_113 : decode cX9_straight 113 = .ok (.ireturn, 1) := by decide +kernel
theorem dX9_mow_0 : decode cX9_mow 0 = .ok (.iload_n 1, 1) := by decide +kernel
theorem dX9_mow_1 : decode cX9_mow 1 = .ok (.iconst 2, 1) := by decide +kernel
theorem dX9_mow_2 : decode cX9_mow 2 = .ok (.invokestatic 83, 3) := by decide +kernel
theorem dX9_mow_5 : decode cX9_mow 5 = .ok (.ifCond .eq 38, 3) := by decide +kernel
theorem dX9_mow_8 : decode cX9_mow 8 = .ok (.iload_n 2, 1) := by decide +kernel
theorem dX9_mow_9 : decode cX9_mow 9 = .ok (.iload_n 3, 1) := by decide +kernel
theorem dX9_mow_10 : decode cX9_mow 10 = .ok (.bipush 10, 2) := by decide +kernel
theorem dX9_mow_12 : decode cX9_mow 12 = .ok (.invokestatic 87, 3) := by decide +kernel
theorem dX9_mow_15 : decode cX9_mow 15 = .ok (.ifCond .eq 28, 3) := by decide +kernel
theorem dX9_mow_18 : decode cX9_mow 18 = .ok (.iload 4, 2) := by decide +kernel
theorem dX9_mow_20 : decode cX9_mow 20 = .ok (.bipush 80, 2) := by decide +kernel
theorem dX9_mow_22 : decode cX9_mow 22 = .ok (.invokestatic 83, 3) := by decide +kernel
theorem dX9_mow_25 : decode cX9_mow 25 = .ok (.ifCond .eq 18, 3) := by decide +kernel
theorem dX9_mow_28 : decode cX9_mow 28 = .ok (.iload 5, 2) := by decide +kernel
theorem dX9_mow_30 : decode cX9_mow 30 = .ok (.sipush 1000, 3) := by decide +kernel
theorem dX9_mow_33 : decode cX9_mow 33 = .ok (.invokestatic 83, 3) := by decide +kernel
theorem dX9_mow_36 : decode cX9_mow 36 = .ok (.ifCond .eq 7, 3) := by decide +kernel
theorem dX9_mow_39 : decode cX9_mow 39 = .ok (.iconst 1, 1) := by decide +kernel
theorem dX9_mow_40 : decode cX9_mow 40 = .ok (.goto 4, 3) := by decide +kernel
theorem dX9_mow_43 : decode cX9_mow 43 = .ok (.iconst 0, 1) := by decide +kernel
theorem dX9_mow_44 : decode cX9_mow 44 = .ok (.istore 6, 2) := by decide +kernel
theorem dX9_mow_46 : decode cX9_mow 46 = .ok (.iload 6, 2) := by decide +kernel
theorem dX9_mow_48 : decode cX9_mow 48 = .ok (.ifCond .eq 24, 3) := by decide +kernel
theorem dX9_mow_51 : decode cX9_mow 51 = .ok (.aload_n 0, 1) := by decide +kernel
theorem dX9_mow_52 : decode cX9_mow 52 = .ok (.getfield 42, 3) := by decide +kernel
theorem dX9_mow_55 : decode cX9_mow 55 = .ok (.iload_n 1, 1) := by decide +kernel
theorem dX9_mow_56 : decode cX9_mow 56 = .ok (.iload_n 2, 1) := by decide +kernel
theorem dX9_mow_57 : decode cX9_mow 57 = .ok (.iload_n 3, 1) := by decide +kernel
theorem dX9_mow_58 : decode cX9_mow 58 = .ok (.iload 4, 2) := by decide +kernel
theorem dX9_mow_60 : decode cX9_mow 60 = .ok (.iload 5, 2) := by decide +kernel
theorem dX9_mow_62 : decode cX9_mow 62 = .ok (.invokevirtual 209, 3) := by decide +kernel
theorem dX9_mow_65 : decode cX9_mow 65 = .ok (.ifCond .eq 7, 3) := by decide +kernel
theorem dX9_mow_68 : decode cX9_mow 68 = .ok (.iconst 1, 1) := by decide +kernel
theorem dX9_mow_69 : decode cX9_mow 69 = .ok (.goto 4, 3) := by decide +kernel
theorem dX9_mow_72 : decode cX9_mow 72 = .ok (.iconst 0, 1) := by decide +kernel
theorem dX9_mow_73 : decode cX9_mow 73 = .ok (.ireturn, 1) := by decide +kernel
theorem dX9_protest_0 : decode cX9_protest 0 = .ok (.iload_n 1, 1) := by decide +kernel
theorem dX9_protest_1 : decode cX9_protest 1 = .ok (.bipush 10, 2) := by decide +kernel
theorem dX9_protest_3 : decode cX9_protest 3 = .ok (.invokestatic 83, 3) := by decide +kernel
theorem dX9_protest_6 : decode cX9_protest 6 = .ok (.ifCond .eq 29, 3) := by decide +kernel
theorem dX9_protest_9 : decode cX9_protest 9 = .ok (.iload_n 2, 1) := by decide +kernel
theorem dX9_protest_10 : decode cX9_protest 10 = .ok (.sipush 1000, 3) := by decide +kernel
theorem dX9_protest_13 : decode cX9_protest 13 = .ok (.invokestatic 83, 3) := by decide +kernel
theorem dX9_protest_16 : decode cX9_protest 16 = .ok (.ifCond .eq 19, 3) := by decide +kernel
theorem dX9_protest_19 : decode cX9_protest 19 = .ok (.aload_n 0, 1) := by decide +kernel
theorem dX9_protest_20 : decode cX9_protest 20 = .ok (.getfield 49, 3) := by decide +kernel
theorem dX9_protest_23 : decode cX9_protest 23 = .ok (.iload_n 1, 1) := by decide +kernel
theorem dX9_protest_24 : decode cX9_protest 24 = .ok (.iload_n 2, 1) := by decide +kernel
theorem dX9_protest_25 : decode cX9_protest 25 = .ok (.invokevirtual 213, 3) := by decide +kernel
theorem dX9_protest_28 : decode cX9_protest 28 = .ok (.ifCond .eq 7, 3) := by decide +kernel
theorem dX9_protest_31 : decode cX9_protest 31 = .ok (.iconst 1, 1) := by decide +kernel
theorem dX9_protest_32 : decode cX9_protest 32 = .ok (.goto 4, 3) := by decide +kernel
theorem dX9_protest_35 : decode cX9_protest 35 = .ok (.iconst 0, 1) := by decide +kernel
theorem dX9_protest_36 : decode cX9_protest 36 = .ok (.ireturn, 1) := by decide +kernel
theorem dX9_mowed_0 : decode cX9_mowed 0 = .ok (.iload_n 1, 1) := by decide +kernel
theorem dX9_mowed_1 : decode cX9_mowed 1 = .ok (.iconst 2, 1) := by decide +kernel
theorem dX9_mowed_2 : decode cX9_mowed 2 = .ok (.invokestatic 83, 3) := by decide +kernel
theorem dX9_mowed_5 : decode cX9_mowed 5 = .ok (.ifCond .eq 26, 3) := by decide +kernel
theorem dX9_mowed_8 : decode cX9_mowed 8 = .ok (.iload_n 2, 1) := by decide +kernel
theorem dX9_mowed_9 : decode cX9_mowed 9 = .ok (.bipush 10, 2) := by decide +kernel
theorem dX9_mowed_11 : decode cX9_mowed 11 = .ok (.invokestatic 83, 3) := by decide +kernel
theorem dX9_mowed_14 : decode cX9_mowed 14 = .ok (.ifCond .eq 17, 3) := by decide +kernel
theorem dX9_mowed_17 : decode cX9_mowed 17 = .ok (.iload_n 3, 1) := by decide +kernel
theorem dX9_mowed_18 : decode cX9_mowed 18 = .ok (.sipush 1000, 3) := by decide +kernel
theorem dX9_mowed_21 : decode cX9_mowed 21 = .ok (.invokestatic 83, 3) := by decide +kernel
theorem dX9_mowed_24 : decode cX9_mowed 24 = .ok (.ifCond .eq 7, 3) := by decide +kernel
theorem dX9_mowed_27 : decode cX9_mowed 27 = .ok (.iconst 1, 1) := by decide +kernel
theorem dX9_mowed_28 : decode cX9_mowed 28 = .ok (.goto 4, 3) := by decide +kernel
theorem dX9_mowed_31 : decode cX9_mowed 31 = .ok (.iconst 0, 1) := by decide +kernel
theorem dX9_mowed_32 : decode cX9_mowed 32 = .ok (.istore 4, 2) := by decide +kernel
theorem dX9_mowed_34 : decode cX9_mowed 34 = .ok (.iload 4, 2) := by decide +kernel
theorem dX9_mowed_36 : decode cX9_mowed 36 = .ok (.ifCond .eq 16, 3) := by decide +kernel
theorem dX9_mowed_39 : decode cX9_mowed 39 = .ok (.aload_n 0, 1) := by decide +kernel
theorem dX9_mowed_40 : decode cX9_mowed 40 = .ok (.getfield 42, 3) := by decide +kernel
theorem dX9_mowed_43 : decode cX9_mowed 43 = .ok (.iload_n 1, 1) := by decide +kernel
theorem dX9_mowed_44 : decode cX9_mowed 44 = .ok (.iload_n 2, 1) := by decide +kernel
theorem dX9_mowed_45 : decode cX9_mowed 45 = .ok (.iload_n 3, 1) := by decide +kernel
theorem dX9_mowed_46 : decode cX9_mowed 46 = .ok (.invokevirtual 215, 3) := by decide +kernel
theorem dX9_mowed_49 : decode cX9_mowed 49 = .ok (.goto 4, 3) := by decide +kernel
theorem dX9_mowed_52 : decode cX9_mowed 52 = .ok (.iconst (-1), 1) := by decide +kernel
theorem dX9_mowed_53 : decode cX9_mowed 53 = .ok (.ireturn, 1) := by decide +kernel
theorem dX9_spells_0 : decode cX9_spells 0 = .ok (.iload_n 1, 1) := by decide +kernel
theorem dX9_spells_1 : decode cX9_spells 1 = .ok (.bipush 10, 2) := by decide +kernel
theorem dX9_spells_3 : decode cX9_spells 3 = .ok (.invokestatic 83, 3) := by decide +kernel
theorem dX9_spells_6 : decode cX9_spells 6 = .ok (.ifCond .eq 11, 3) := by decide +kernel
theorem dX9_spells_9 : decode cX9_spells 9 = .ok (.iload_n 2, 1) := by decide +kernel
theorem dX9_spells_10 : decode cX9_spells 10 = .ok (.iconst 3, 1) := by decide +kernel
theorem dX9_spells_11 : decode cX9_spells 11 = .ok (.invokestatic 83, 3) := by decide +kernel
theorem dX9_spells_14 : decode cX9_spells 14 = .ok (.ifCond .ne 5, 3) := by decide +kernel
theorem dX9_spells_17 : decode cX9_spells 17 = .ok (.iconst (-1), 1) := by decide +kernel
theorem dX9_spells_18 : decode cX9_spells 18 = .ok (.ireturn, 1) := by decide +kernel
theorem dX9_spells_19 : decode cX9_spells 19 = .ok (.aload_n 0, 1) := by decide +kernel
theorem dX9_spells_20 : decode cX9_spells 20 = .ok (.iload_n 1, 1) := by decide +kernel
theorem dX9_spells_21 : decode cX9_spells 21 = .ok (.invokevirtual 218, 3) := by decide +kernel
theorem dX9_spells_24 : decode cX9_spells 24 = .ok (.iload_n 2, 1) := by decide +kernel
theorem dX9_spells_25 : decode cX9_spells 25 = .ok (.iconst 2, 1) := by decide +kernel
theorem dX9_spells_26 : decode cX9_spells 26 = .ok (.if_icmp .ge 15, 3) := by decide +kernel
theorem dX9_spells_29 : decode cX9_spells 29 = .ok (.aload_n 0, 1) := by decide +kernel
theorem dX9_spells_30 : decode cX9_spells 30 = .ok (.getfield 58, 3) := by decide +kernel
theorem dX9_spells_33 : decode cX9_spells 33 = .ok (.getfield 221, 3) := by decide +kernel
theorem dX9_spells_36 : decode cX9_spells 36 = .ok (.iload_n 2, 1) := by decide +kernel
theorem dX9_spells_37 : decode cX9_spells 37 = .ok (.iaload, 1) := by decide +kernel
theorem dX9_spells_38 : decode cX9_spells 38 = .ok (.goto 10, 3) := by decide +kernel
theorem dX9_spells_41 : decode cX9_spells 41 = .ok (.aload_n 0, 1) := by decide +kernel
theorem dX9_spells_42 : decode cX9_spells 42 = .ok (.getfield 58, 3) := by decide +kernel
theorem dX9_spells_45 : decode cX9_spells 45 = .ok (.getfield 224, 3) := by decide +kernel
theorem dX9_spells_48 : decode cX9_spells 48 = .ok (.ireturn, 1) := by decide +kernel
theorem dX9_line_0 : decode cX9_line 0 = .ok (.iload_n 1, 1) := by decide +kernel
theorem dX9_line_1 : decode cX9_line 1 = .ok (.bipush 10, 2) := by decide +kernel
theorem dX9_line_3 : decode cX9_line 3 = .ok (.invokestatic 83, 3) := by decide +kernel
theorem dX9_line_6 : decode cX9_line 6 = .ok (.ifCond .ne 5, 3) := by decide +kernel
theorem dX9_line_9 : decode cX9_line 9 = .ok (.iconst (-1), 1) := by decide +kernel
theorem dX9_line_10 : decode cX9_line 10 = .ok (.ireturn, 1) := by decide +kernel
theorem dX9_line_11 : decode cX9_line 11 = .ok (.aload_n 0, 1) := by decide +kernel
theorem dX9_line_12 : decode cX9_line 12 = .ok (.iload_n 1, 1) := by decide +kernel
theorem dX9_line_13 : decode cX9_line 13 = .ok (.invokevirtual 218, 3) := by decide +kernel
theorem dX9_line_16 : decode cX9_line 16 = .ok (.aload_n 0, 1) := by decide +kernel
theorem dX9_line_17 : decode cX9_line 17 = .ok (.getfield 58, 3) := by decide +kernel
theorem dX9_line_20 : decode cX9_line 20 = .ok (.getfield 227, 3) := by decide +kernel
theorem dX9_line_23 : decode cX9_line 23 = .ok (.ireturn, 1) := by decide +kernel
theorem dX9_drawTrueLine_0 : decode cX9_drawTrueLine 0 = .ok (.aload_n 0, 1) := by decide +kernel
theorem dX9_drawTrueLine_1 : decode cX9_drawTrueLine 1 = .ok (.invokevirtual 187, 3) := by decide +kernel
theorem dX9_drawTrueLine_4 : decode cX9_drawTrueLine 4 = .ok (.aload_n 0, 1) := by decide +kernel
theorem dX9_drawTrueLine_5 : decode cX9_drawTrueLine 5 = .ok (.getfield 58, 3) := by decide +kernel
theorem dX9_drawTrueLine_8 : decode cX9_drawTrueLine 8 = .ok (.iload_n 1, 1) := by decide +kernel
theorem dX9_drawTrueLine_9 : decode cX9_drawTrueLine 9 = .ok (.aload_n 0, 1) := by decide +kernel
theorem dX9_drawTrueLine_10 : decode cX9_drawTrueLine 10 = .ok (.getfield 35, 3) := by decide +kernel
theorem dX9_drawTrueLine_13 : decode cX9_drawTrueLine 13 = .ok (.getfield 193, 3) := by decide +kernel
theorem dX9_drawTrueLine_16 : decode cX9_drawTrueLine 16 = .ok (.iload_n 1, 1) := by decide +kernel
theorem dX9_drawTrueLine_17 : decode cX9_drawTrueLine 17 = .ok (.iaload, 1) := by decide +kernel
theorem dX9_drawTrueLine_18 : decode cX9_drawTrueLine 18 = .ok (.aload_n 0, 1) := by decide +kernel
theorem dX9_drawTrueLine_19 : decode cX9_drawTrueLine 19 = .ok (.getfield 72, 3) := by decide +kernel
theorem dX9_drawTrueLine_22 : decode cX9_drawTrueLine 22 = .ok (.getfield 132, 3) := by decide +kernel
theorem dX9_drawTrueLine_25 : decode cX9_drawTrueLine 25 = .ok (.invokevirtual 230, 3) := by decide +kernel
theorem dX9_drawTrueLine_28 : decode cX9_drawTrueLine 28 = .ok (.return_, 1) := by decide +kernel
theorem dX9_quarrel_0 : decode cX9_quarrel 0 = .ok (.iload_n 1, 1) := by decide +kernel
theorem dX9_quarrel_1 : decode cX9_quarrel 1 = .ok (.bipush 80, 2) := by decide +kernel
theorem dX9_quarrel_3 : decode cX9_quarrel 3 = .ok (.invokestatic 83, 3) := by decide +kernel
theorem dX9_quarrel_6 : decode cX9_quarrel 6 = .ok (.ifCond .eq 44, 3) := by decide +kernel
theorem dX9_quarrel_9 : decode cX9_quarrel 9 = .ok (.iload_n 2, 1) := by decide +kernel
theorem dX9_quarrel_10 : decode cX9_quarrel 10 = .ok (.bipush 80, 2) := by decide +kernel
theorem dX9_quarrel_12 : decode cX9_quarrel 12 = .ok (.invokestatic 83, 3) := by decide +kernel
theorem dX9_quarrel_15 : decode cX9_quarrel 15 = .ok (.ifCond .eq 35, 3) := by decide +kernel
theorem dX9_quarrel_18 : decode cX9_quarrel 18 = .ok (.iload_n 1, 1) := by decide +kernel
theorem dX9_quarrel_19 : decode cX9_quarrel 19 = .ok (.iload_n 2, 1) := by decide +kernel
theorem dX9_quarrel_20 : decode cX9_quarrel 20 = .ok (.if_icmp .le 30, 3) := by decide +kernel
theorem dX9_quarrel_23 : decode cX9_quarrel 23 = .ok (.iload_n 3, 1) := by decide +kernel
theorem dX9_quarrel_24 : decode cX9_quarrel 24 = .ok (.iload 5, 2) := by decide +kernel
theorem dX9_quarrel_26 : decode cX9_quarrel 26 = .ok (.iload 7, 2) := by decide +kernel
theorem dX9_quarrel_28 : decode cX9_quarrel 28 = .ok (.invokestatic 233, 3) := by decide +kernel
theorem dX9_quarrel_31 : decode cX9_quarrel 31 = .ok (.ifCond .eq 19, 3) := by decide +kernel
theorem dX9_quarrel_34 : decode cX9_quarrel 34 = .ok (.iload 4, 2) := by decide +kernel
theorem dX9_quarrel_36 : decode cX9_quarrel 36 = .ok (.iload 6, 2) := by decide +kernel
theorem dX9_quarrel_38 : decode cX9_quarrel 38 = .ok (.iload 8, 2) := by decide +kernel
theorem dX9_quarrel_40 : decode cX9_quarrel 40 = .ok (.invokestatic 233, 3) := by decide +kernel
theorem dX9_quarrel_43 : decode cX9_quarrel 43 = .ok (.ifCond .eq 7, 3) := by decide +kernel
theorem dX9_quarrel_46 : decode cX9_quarrel 46 = .ok (.iconst 1, 1) := by decide +kernel
theorem dX9_quarrel_47 : decode cX9_quarrel 47 = .ok (.goto 4, 3) := by decide +kernel
theorem dX9_quarrel_50 : decode cX9_quarrel 50 = .ok (.iconst 0, 1) := by decide +kernel
theorem dX9_quarrel_51 : decode cX9_quarrel 51 = .ok (.istore 9, 2) := by decide +kernel
theorem dX9_quarrel_53 : decode cX9_quarrel 53 = .ok (.iload 9, 2) := by decide +kernel
theorem dX9_quarrel_55 : decode cX9_quarrel 55 = .ok (.ifCond .ne 5, 3) := by decide +kernel
theorem dX9_quarrel_58 : decode cX9_quarrel 58 = .ok (.iconst 0, 1) := by decide +kernel
theorem dX9_quarrel_59 : decode cX9_quarrel 59 = .ok (.ireturn, 1) := by decide +kernel
theorem dX9_quarrel_60 : decode cX9_quarrel 60 = .ok (.aload_n 0, 1) := by decide +kernel
theorem dX9_quarrel_61 : decode cX9_quarrel 61 = .ok (.getfield 65, 3) := by decide +kernel
theorem dX9_quarrel_64 : decode cX9_quarrel 64 = .ok (.iload_n 1, 1) := by decide +kernel
theorem dX9_quarrel_65 : decode cX9_quarrel 65 = .ok (.iload_n 2, 1) := by decide +kernel
theorem dX9_quarrel_66 : decode cX9_quarrel 66 = .ok (.invokevirtual 236, 3) := by decide +kernel
theorem dX9_quarrel_69 : decode cX9_quarrel 69 = .ok (.aload_n 0, 1) := by decide +kernel
theorem dX9_quarrel_70 : decode cX9_quarrel 70 = .ok (.getfield 65, 3) := by decide +kernel
theorem dX9_quarrel_73 : decode cX9_quarrel 73 = .ok (.iconst 0, 1) := by decide +kernel
theorem dX9_quarrel_74 : decode cX9_quarrel 74 = .ok (.iload_n 3, 1) := by decide +kernel
theorem dX9_quarrel_75 : decode cX9_quarrel 75 = .ok (.iload 5, 2) := by decide +kernel
theorem dX9_quarrel_77 : decode cX9_quarrel 77 = .ok (.iload 7, 2) := by decide +kernel
theorem dX9_quarrel_79 : decode cX9_quarrel 79 = .ok (.invokevirtual 240, 3) := by decide +kernel
theorem dX9_quarrel_82 : decode cX9_quarrel 82 = .ok (.aload_n 0, 1) := by decide +kernel
theorem dX9_quarrel_83 : decode cX9_quarrel 83 = .ok (.getfield 65, 3) := by decide +kernel
theorem dX9_quarrel_86 : decode cX9_quarrel 86 = .ok (.iconst 1, 1) := by decide +kernel
theorem dX9_quarrel_87 : decode cX9_quarrel 87 = .ok (.iload 4, 2) := by decide +kernel
theorem dX9_quarrel_89 : decode cX9_quarrel 89 = .ok (.iload 6, 2) := by decide +kernel
theorem dX9_quarrel_91 : decode cX9_quarrel 91 = .ok (.iload 8, 2) := by decide +kernel
theorem dX9_quarrel_93 : decode cX9_quarrel 93 = .ok (.invokevirtual 240, 3) := by decide +kernel
theorem dX9_quarrel_96 : decode cX9_quarrel 96 = .ok (.aload_n 0, 1) := by decide +kernel
theorem dX9_quarrel_97 : decode cX9_quarrel 97 = .ok (.getfield 65, 3) := by decide +kernel
theorem dX9_quarrel_100 : decode cX9_quarrel 100 = .ok (.invokevirtual 244, 3) := by decide +kernel
theorem dX9_quarrel_103 : decode cX9_quarrel 103 = .ok (.iconst 1, 1) := by decide +kernel
theorem dX9_quarrel_104 : decode cX9_quarrel 104 = .ok (.ireturn, 1) := by decide +kernel
theorem dX9_split_0 : decode cX9_split 0 = .ok (.aload_n 0, 1) := by decide +kernel
theorem dX9_split_1 : decode cX9_split 1 = .ok (.getfield 65, 3) := by decide +kernel
theorem dX9_split_4 : decode cX9_split 4 = .ok (.getfield 247, 3) := by decide +kernel
theorem dX9_split_7 : decode cX9_split 7 = .ok (.ifCond .ne 5, 3) := by decide +kernel
theorem dX9_split_10 : decode cX9_split 10 = .ok (.iconst (-1), 1) := by decide +kernel
theorem dX9_split_11 : decode cX9_split 11 = .ok (.ireturn, 1) := by decide +kernel
theorem dX9_split_12 : decode cX9_split 12 = .ok (.iload_n 1, 1) := by decide +kernel
theorem dX9_split_13 : decode cX9_split 13 = .ok (.tableswitch 63 0 3 #[31, 39, 47, 55], 31) := by decide +kernel
theorem dX9_split_44 : decode cX9_split 44 = .ok (.aload_n 0, 1) := by decide +kernel
theorem dX9_split_45 : decode cX9_split 45 = .ok (.getfield 65, 3) := by decide +kernel
theorem dX9_split_48 : decode cX9_split 48 = .ok (.getfield 250, 3) := by decide +kernel
theorem dX9_split_51 : decode cX9_split 51 = .ok (.ireturn, 1) := by decide +kernel
theorem dX9_split_52 : decode cX9_split 52 = .ok (.aload_n 0, 1) := by decide +kernel
theorem dX9_split_53 : decode cX9_split 53 = .ok (.getfield 65, 3) := by decide +kernel
theorem dX9_split_56 : decode cX9_split 56 = .ok (.getfield 253, 3) := by decide +kernel
theorem dX9_split_59 : decode cX9_split 59 = .ok (.ireturn, 1) := by decide +kernel
theorem dX9_split_60 : decode cX9_split 60 = .ok (.aload_n 0, 1) := by decide +kernel
theorem dX9_split_61 : decode cX9_split 61 = .ok (.getfield 65, 3) := by decide +kernel
theorem dX9_split_64 : decode cX9_split 64 = .ok (.getfield 256, 3) := by decide +kernel
theorem dX9_split_67 : decode cX9_split 67 = .ok (.ireturn, 1) := by decide +kernel
theorem dX9_split_68 : decode cX9_split 68 = .ok (.aload_n 0, 1) := by decide +kernel
theorem dX9_split_69 : decode cX9_split 69 = .ok (.getfield 65, 3) := by decide +kernel
theorem dX9_split_72 : decode cX9_split 72 = .ok (.getfield 259, 3) := by decide +kernel
theorem dX9_split_75 : decode cX9_split 75 = .ok (.ireturn, 1) := by decide +kernel
theorem dX9_split_76 : decode cX9_split 76 = .ok (.iconst (-1), 1) := by decide +kernel
theorem dX9_split_77 : decode cX9_split 77 = .ok (.ireturn, 1) := by decide +kernel
theorem dX9_below_0 : decode cX9_below 0 = .ok (.iload_n 0, 1) := by decide +kernel
theorem dX9_below_1 : decode cX9_below 1 = .ok (.ifCond .lt 12, 3) := by decide +kernel
theorem dX9_below_4 : decode cX9_below 4 = .ok (.iload_n 0, 1) := by decide +kernel
theorem dX9_below_5 : decode cX9_below 5 = .ok (.iload_n 1, 1) := by decide +kernel
theorem dX9_below_6 : decode cX9_below 6 = .ok (.if_icmp .ge 7, 3) := by decide +kernel
theorem dX9_below_9 : decode cX9_below 9 = .ok (.iconst 1, 1) := by decide +kernel
theorem dX9_below_10 : decode cX9_below 10 = .ok (.goto 4, 3) := by decide +kernel
theorem dX9_below_13 : decode cX9_below 13 = .ok (.iconst 0, 1) := by decide +kernel
theorem dX9_below_14 : decode cX9_below 14 = .ok (.ireturn, 1) := by decide +kernel
theorem dX9_isStretch_0 : decode cX9_isStretch 0 = .ok (.iload_n 0, 1) := by decide +kernel
theorem dX9_isStretch_1 : decode cX9_isStretch 1 = .ok (.ifCond .lt 17, 3) := by decide +kernel
theorem dX9_isStretch_4 : decode cX9_isStretch 4 = .ok (.iload_n 0, 1) := by decide +kernel
theorem dX9_isStretch_5 : decode cX9_isStretch 5 = .ok (.iload_n 1, 1) := by decide +kernel
theorem dX9_isStretch_6 : decode cX9_isStretch 6 = .ok (.if_icmp .gt 12, 3) := by decide +kernel
theorem dX9_isStretch_9 : decode cX9_isStretch 9 = .ok (.iload_n 1, 1) := by decide +kernel
theorem dX9_isStretch_10 : decode cX9_isStretch 10 = .ok (.iload_n 2, 1) := by decide +kernel
theorem dX9_isStretch_11 : decode cX9_isStretch 11 = .ok (.if_icmp .ge 7, 3) := by decide +kernel
theorem dX9_isStretch_14 : decode cX9_isStretch 14 = .ok (.iconst 1, 1) := by decide +kernel
theorem dX9_isStretch_15 : decode cX9_isStretch 15 = .ok (.goto 4, 3) := by decide +kernel
theorem dX9_isStretch_18 : decode cX9_isStretch 18 = .ok (.iconst 0, 1) := by decide +kernel
theorem dX9_isStretch_19 : decode cX9_isStretch 19 = .ok (.ireturn, 1) := by decide +kernel
theorem dX9_missOf_0 : decode cX9_missOf 0 = .ok (.iconst 0, 1) := by decide +kernel
theorem dX9_missOf_1 : decode cX9_missOf 1 = .ok (.iload_n 1, 1) := by decide +kernel
theorem dX9_missOf_2 : decode cX9_missOf 2 = .ok (.iload_n 0, 1) := by decide +kernel
theorem dX9_missOf_3 : decode cX9_missOf 3 = .ok (.isub, 1) := by decide +kernel
theorem dX9_missOf_4 : decode cX9_missOf 4 = .ok (.iload_n 0, 1) := by decide +kernel
theorem dX9_missOf_5 : decode cX9_missOf 5 = .ok (.iload_n 2, 1) := by decide +kernel
theorem dX9_missOf_6 : decode cX9_missOf 6 = .ok (.isub, 1) := by decide +kernel
theorem dX9_missOf_7 : decode cX9_missOf 7 = .ok (.invokestatic 262, 3) := by decide +kernel
theorem dX9_missOf_10 : decode cX9_missOf 10 = .ok (.invokestatic 262, 3) := by decide +kernel
theorem dX9_missOf_13 : decode cX9_missOf 13 = .ok (.ireturn, 1) := by decide +kernel
theorem dJ6_bitCount_0f7a4_0 : decode cJ6_bitCount_0f7a4 0 = .ok (.iload_n 0, 1) := by decide +kernel
theorem dJ6_bitCount_0f7a4_1 : decode cJ6_bitCount_0f7a4 1 = .ok (.iload_n 0, 1) := by decide +kernel
theorem dJ6_bitCount_0f7a4_2 : decode cJ6_bitCount_0f7a4 2 = .ok (.iconst 1, 1) := by decide +kernel
theorem dJ6_bitCount_0f7a4_3 : decode cJ6_bitCount_0f7a4 3 = .ok (.iushr, 1) := by decide +kernel
theorem dJ6_bitCount_0f7a4_4 : decode cJ6_bitCount_0f7a4 4 = .ok (.ldc_w 265, 3) := by decide +kernel
theorem dJ6_bitCount_0f7a4_7 : decode cJ6_bitCount_0f7a4 7 = .ok (.iand, 1) := by decide +kernel
theorem dJ6_bitCount_0f7a4_8 : decode cJ6_bitCount_0f7a4 8 = .ok (.isub, 1) := by decide +kernel
theorem dJ6_bitCount_0f7a4_9 : decode cJ6_bitCount_0f7a4 9 = .ok (.istore_n 0, 1) := by decide +kernel
theorem dJ6_bitCount_0f7a4_10 : decode cJ6_bitCount_0f7a4 10 = .ok (.iload_n 0, 1) := by decide +kernel
theorem dJ6_bitCount_0f7a4_11 : decode cJ6_bitCount_0f7a4 11 = .ok (.ldc_w 266, 3) := by decide +kernel
theorem dJ6_bitCount_0f7a4_14 : decode cJ6_bitCount_0f7a4 14 = .ok (.iand, 1) := by decide +kernel
theorem dJ6_bitCount_0f7a4_15 : decode cJ6_bitCount_0f7a4 15 = .ok (.iload_n 0, 1) := by decide +kernel
theorem dJ6_bitCount_0f7a4_16 : decode cJ6_bitCount_0f7a4 16 = .ok (.iconst 2, 1) := by decide +kernel
theorem dJ6_bitCount_0f7a4_17 : decode cJ6_bitCount_0f7a4 17 = .ok (.iushr, 1) := by decide +kernel
theorem dJ6_bitCount_0f7a4_18 : decode cJ6_bitCount_0f7a4 18 = .ok (.ldc_w 266, 3) := by decide +kernel
theorem dJ6_bitCount_0f7a4_21 : decode cJ6_bitCount_0f7a4 21 = .ok (.iand, 1) := by decide +kernel
theorem dJ6_bitCount_0f7a4_22 : decode cJ6_bitCount_0f7a4 22 = .ok (.iadd, 1) := by decide +kernel
theorem dJ6_bitCount_0f7a4_23 : decode cJ6_bitCount_0f7a4 23 = .ok (.istore_n 0, 1) := by decide +kernel
theorem dJ6_bitCount_0f7a4_24 : decode cJ6_bitCount_0f7a4 24 = .ok (.iload_n 0, 1) := by decide +kernel
theorem dJ6_bitCount_0f7a4_25 : decode cJ6_bitCount_0f7a4 25 = .ok (.iload_n 0, 1) := by decide +kernel
theorem dJ6_bitCount_0f7a4_26 : decode cJ6_bitCount_0f7a4 26 = .ok (.iconst 4, 1) := by decide +kernel
theorem dJ6_bitCount_0f7a4_27 : decode cJ6_bitCount_0f7a4 27 = .ok (.iushr, 1) := by decide +kernel
theorem dJ6_bitCount_0f7a4_28 : decode cJ6_bitCount_0f7a4 28 = .ok (.iadd, 1) := by decide +kernel
theorem dJ6_bitCount_0f7a4_29 : decode cJ6_bitCount_0f7a4 29 = .ok (.ldc_w 267, 3) := by decide +kernel
theorem dJ6_bitCount_0f7a4_32 : decode cJ6_bitCount_0f7a4 32 = .ok (.iand, 1) := by decide +kernel
theorem dJ6_bitCount_0f7a4_33 : decode cJ6_bitCount_0f7a4 33 = .ok (.istore_n 0, 1) := by decide +kernel
theorem dJ6_bitCount_0f7a4_34 : decode cJ6_bitCount_0f7a4 34 = .ok (.iload_n 0, 1) := by decide +kernel
theorem dJ6_bitCount_0f7a4_35 : decode cJ6_bitCount_0f7a4 35 = .ok (.iload_n 0, 1) := by decide +kernel
theorem dJ6_bitCount_0f7a4_36 : decode cJ6_bitCount_0f7a4 36 = .ok (.bipush 8, 2) := by decide +kernel
theorem dJ6_bitCount_0f7a4_38 : decode cJ6_bitCount_0f7a4 38 = .ok (.iushr, 1) := by decide +kernel
theorem dJ6_bitCount_0f7a4_39 : decode cJ6_bitCount_0f7a4 39 = .ok (.iadd, 1) := by decide +kernel
theorem dJ6_bitCount_0f7a4_40 : decode cJ6_bitCount_0f7a4 40 = .ok (.istore_n 0, 1) := by decide +kernel
theorem dJ6_bitCount_0f7a4_41 : decode cJ6_bitCount_0f7a4 41 = .ok (.iload_n 0, 1) := by decide +kernel
theorem dJ6_bitCount_0f7a4_42 : decode cJ6_bitCount_0f7a4 42 = .ok (.iload_n 0, 1) := by decide +kernel
theorem dJ6_bitCount_0f7a4_43 : decode cJ6_bitCount_0f7a4 43 = .ok (.bipush 16, 2) := by decide +kernel
theorem dJ6_bitCount_0f7a4_45 : decode cJ6_bitCount_0f7a4 45 = .ok (.iushr, 1) := by decide +kernel
theorem dJ6_bitCount_0f7a4_46 : decode cJ6_bitCount_0f7a4 46 = .ok (.iadd, 1) := by decide +kernel
theorem dJ6_bitCount_0f7a4_47 : decode cJ6_bitCount_0f7a4 47 = .ok (.istore_n 0, 1) := by decide +kernel
theorem dJ6_bitCount_0f7a4_48 : decode cJ6_bitCount_0f7a4 48 = .ok (.iload_n 0, 1) := by decide +kernel
theorem dJ6_bitCount_0f7a4_49 : decode cJ6_bitCount_0f7a4 49 = .ok (.bipush 63, 2) := by decide +kernel
theorem dJ6_bitCount_0f7a4_51 : decode cJ6_bitCount_0f7a4 51 = .ok (.iand, 1) := by decide +kernel
theorem dJ6_bitCount_0f7a4_52 : decode cJ6_bitCount_0f7a4 52 = .ok (.ireturn, 1) := by decide +kernel
theorem dJ9_abs_0f7a4_0 : decode cJ9_abs_0f7a4 0 = .ok (.iload_n 0, 1) := by decide +kernel
theorem dJ9_abs_0f7a4_1 : decode cJ9_abs_0f7a4 1 = .ok (.ifCond .ge 8, 3) := by decide +kernel
theorem dJ9_abs_0f7a4_4 : decode cJ9_abs_0f7a4 4 = .ok (.iload_n 0, 1) := by decide +kernel
theorem dJ9_abs_0f7a4_5 : decode cJ9_abs_0f7a4 5 = .ok (.ineg, 1) := by decide +kernel
theorem dJ9_abs_0f7a4_6 : decode cJ9_abs_0f7a4 6 = .ok (.goto 4, 3) := by decide +kernel
theorem dJ9_abs_0f7a4_9 : decode cJ9_abs_0f7a4 9 = .ok (.iload_n 0, 1) := by decide +kernel
theorem dJ9_abs_0f7a4_10 : decode cJ9_abs_0f7a4 10 = .ok (.ireturn, 1) := by decide +kernel
theorem dJ9_max_7cf53_0 : decode cJ9_max_7cf53 0 = .ok (.iload_n 0, 1) := by decide +kernel
theorem dJ9_max_7cf53_1 : decode cJ9_max_7cf53 1 = .ok (.iload_n 1, 1) := by decide +kernel
theorem dJ9_max_7cf53_2 : decode cJ9_max_7cf53 2 = .ok (.if_icmp .lt 7, 3) := by decide +kernel
theorem dJ9_max_7cf53_5 : decode cJ9_max_7cf53 5 = .ok (.iload_n 0, 1) := by decide +kernel
theorem dJ9_max_7cf53_6 : decode cJ9_max_7cf53 6 = .ok (.goto 4, 3) := by decide +kernel
theorem dJ9_max_7cf53_9 : decode cJ9_max_7cf53 9 = .ok (.iload_n 1, 1) := by decide +kernel
theorem dJ9_max_7cf53_10 : decode cJ9_max_7cf53 10 = .ok (.ireturn, 1) := by decide +kernel
theorem dJ9_min_7cf53_0 : decode cJ9_min_7cf53 0 = .ok (.iload_n 0, 1) := by decide +kernel
theorem dJ9_min_7cf53_1 : decode cJ9_min_7cf53 1 = .ok (.iload_n 1, 1) := by decide +kernel
theorem dJ9_min_7cf53_2 : decode cJ9_min_7cf53 2 = .ok (.if_icmp .gt 7, 3) := by decide +kernel
theorem dJ9_min_7cf53_5 : decode cJ9_min_7cf53 5 = .ok (.iload_n 0, 1) := by decide +kernel
theorem dJ9_min_7cf53_6 : decode cJ9_min_7cf53 6 = .ok (.goto 4, 3) := by decide +kernel
theorem dJ9_min_7cf53_9 : decode cJ9_min_7cf53 9 = .ok (.iload_n 1, 1) := by decide +kernel
theorem dJ9_min_7cf53_10 : decode cJ9_min_7cf53 10 = .ok (.ireturn, 1) := by decide +kernel
theorem dJ0_length_8abf5_0 : decode cJ0_length_8abf5 0 = .ok (.aload_n 0, 1) := by decide +kernel
theorem dJ0_length_8abf5_1 : decode cJ0_length_8abf5 1 = .ok (.getfield 9, 3) := by decide +kernel
theorem dJ0_length_8abf5_4 : decode cJ0_length_8abf5 4 = .ok (.arraylength, 1) := by decide +kernel
theorem dJ0_length_8abf5_5 : decode cJ0_length_8abf5 5 = .ok (.aload_n 0, 1) := by decide +kernel
theorem dJ0_length_8abf5_6 : decode cJ0_length_8abf5 6 = .ok (.invokevirtual 335, 3) := by decide +kernel
theorem dJ0_length_8abf5_9 : decode cJ0_length_8abf5 9 = .ok (.ishr, 1) := by decide +kernel
theorem dJ0_length_8abf5_10 : decode cJ0_length_8abf5 10 = .ok (.ireturn, 1) := by decide +kernel
theorem dJ0_charAt_5068e_0 : decode cJ0_charAt_5068e 0 = .ok (.aload_n 0, 1) := by decide +kernel
theorem dJ0_charAt_5068e_1 : decode cJ0_charAt_5068e 1 = .ok (.invokevirtual 492, 3) := by decide +kernel
theorem dJ0_charAt_5068e_4 : decode cJ0_charAt_5068e 4 = .ok (.ifCond .eq 12, 3) := by decide +kernel
theorem dJ0_charAt_5068e_7 : decode cJ0_charAt_5068e 7 = .ok (.aload_n 0, 1) := by decide +kernel
theorem dJ0_charAt_5068e_8 : decode cJ0_charAt_5068e 8 = .ok (.getfield 9, 3) := by decide +kernel
theorem dJ0_charAt_5068e_11 : decode cJ0_charAt_5068e 11 = .ok (.iload_n 1, 1) := by decide +kernel
theorem dJ0_charAt_5068e_12 : decode cJ0_charAt_5068e 12 = .ok (.invokestatic 495, 3) := by decide +kernel
theorem dJ0_charAt_5068e_15 : decode cJ0_charAt_5068e 15 = .ok (.ireturn, 1) := by decide +kernel
theorem dJ0_charAt_5068e_16 : decode cJ0_charAt_5068e 16 = .ok (.aload_n 0, 1) := by decide +kernel
theorem dJ0_charAt_5068e_17 : decode cJ0_charAt_5068e 17 = .ok (.getfield 9, 3) := by decide +kernel
theorem dJ0_charAt_5068e_20 : decode cJ0_charAt_5068e 20 = .ok (.iload_n 1, 1) := by decide +kernel
theorem dJ0_charAt_5068e_21 : decode cJ0_charAt_5068e 21 = .ok (.invokestatic 498, 3) := by decide +kernel
theorem dJ0_charAt_5068e_24 : decode cJ0_charAt_5068e 24 = .ok (.ireturn, 1) := by decide +kernel
theorem dJ0_coder_7d493_0 : decode cJ0_coder_7d493 0 = .ok (.getstatic 38, 3) := by decide +kernel
theorem dJ0_coder_7d493_3 : decode cJ0_coder_7d493 3 = .ok (.ifCond .eq 10, 3) := by decide +kernel
theorem dJ0_coder_7d493_6 : decode cJ0_coder_7d493 6 = .ok (.aload_n 0, 1) := by decide +kernel
theorem dJ0_coder_7d493_7 : decode cJ0_coder_7d493 7 = .ok (.getfield 15, 3) := by decide +kernel
theorem dJ0_coder_7d493_10 : decode cJ0_coder_7d493 10 = .ok (.goto 4, 3) := by decide +kernel
theorem dJ0_coder_7d493_13 : decode cJ0_coder_7d493 13 = .ok (.iconst 1, 1) := by decide +kernel
theorem dJ0_coder_7d493_14 : decode cJ0_coder_7d493 14 = .ok (.ireturn, 1) := by decide +kernel
theorem dJ0_isLatin1_aae02_0 : decode cJ0_isLatin1_aae02 0 = .ok (.getstatic 38, 3) := by decide +kernel
theorem dJ0_isLatin1_aae02_3 : decode cJ0_isLatin1_aae02 3 = .ok (.ifCond .eq 14, 3) := by decide +kernel
theorem dJ0_isLatin1_aae02_6 : decode cJ0_isLatin1_aae02 6 = .ok (.aload_n 0, 1) := by decide +kernel
theorem dJ0_isLatin1_aae02_7 : decode cJ0_isLatin1_aae02 7 = .ok (.getfield 15, 3) := by decide +kernel
theorem dJ0_isLatin1_aae02_10 : decode cJ0_isLatin1_aae02 10 = .ok (.ifCond .ne 7, 3) := by decide +kernel
theorem dJ0_isLatin1_aae02_13 : decode cJ0_isLatin1_aae02 13 = .ok (.iconst 1, 1) := by decide +kernel
theorem dJ0_isLatin1_aae02_14 : decode cJ0_isLatin1_aae02 14 = .ok (.goto 4, 3) := by decide +kernel
theorem dJ0_isLatin1_aae02_17 : decode cJ0_isLatin1_aae02 17 = .ok (.iconst 0, 1) := by decide +kernel
theorem dJ0_isLatin1_aae02_18 : decode cJ0_isLatin1_aae02 18 = .ok (.ireturn, 1) := by decide +kernel
theorem dJ0_checkIndex_df160_0 : decode cJ0_checkIndex_df160 0 = .ok (.iload_n 0, 1) := by decide +kernel
theorem dJ0_checkIndex_df160_1 : decode cJ0_checkIndex_df160 1 = .ok (.iload_n 1, 1) := by decide +kernel
theorem dJ0_checkIndex_df160_2 : decode cJ0_checkIndex_df160 2 = .ok (.getstatic 1053, 3) := by decide +kernel
theorem dJ0_checkIndex_df160_5 : decode cJ0_checkIndex_df160 5 = .ok (.invokestatic 1059, 3) := by decide +kernel
theorem dJ0_checkIndex_df160_8 : decode cJ0_checkIndex_df160 8 = .ok (.pop, 1) := by decide +kernel
theorem dJ0_checkIndex_df160_9 : decode cJ0_checkIndex_df160 9 = .ok (.return_, 1) := by decide +kernel
theorem dJ1_charAt_3b067_0 : decode cJ1_charAt_3b067 0 = .ok (.iload_n 1, 1) := by decide +kernel
theorem dJ1_charAt_3b067_1 : decode cJ1_charAt_3b067 1 = .ok (.aload_n 0, 1) := by decide +kernel
theorem dJ1_charAt_3b067_2 : decode cJ1_charAt_3b067 2 = .ok (.arraylength, 1) := by decide +kernel
theorem dJ1_charAt_3b067_3 : decode cJ1_charAt_3b067 3 = .ok (.invokestatic 9, 3) := by decide +kernel
theorem dJ1_charAt_3b067_6 : decode cJ1_charAt_3b067 6 = .ok (.aload_n 0, 1) := by decide +kernel
theorem dJ1_charAt_3b067_7 : decode cJ1_charAt_3b067 7 = .ok (.iload_n 1, 1) := by decide +kernel
theorem dJ1_charAt_3b067_8 : decode cJ1_charAt_3b067 8 = .ok (.baload, 1) := by decide +kernel
theorem dJ1_charAt_3b067_9 : decode cJ1_charAt_3b067 9 = .ok (.sipush 255, 3) := by decide +kernel
theorem dJ1_charAt_3b067_12 : decode cJ1_charAt_3b067 12 = .ok (.iand, 1) := by decide +kernel
theorem dJ1_charAt_3b067_13 : decode cJ1_charAt_3b067 13 = .ok (.i2c, 1) := by decide +kernel
theorem dJ1_charAt_3b067_14 : decode cJ1_charAt_3b067 14 = .ok (.ireturn, 1) := by decide +kernel
theorem dJ2_getChar_3b067_0 : decode cJ2_getChar_3b067 0 = .ok (.getstatic 44, 3) := by decide +kernel
theorem dJ2_getChar_3b067_3 : decode cJ2_getChar_3b067 3 = .ok (.ifCond .ne 25, 3) := by decide +kernel
theorem dJ2_getChar_3b067_6 : decode cJ2_getChar_3b067 6 = .ok (.iload_n 1, 1) := by decide +kernel
theorem dJ2_getChar_3b067_7 : decode cJ2_getChar_3b067 7 = .ok (.ifCond .lt 11, 3) := by decide +kernel
theorem dJ2_getChar_3b067_10 : decode cJ2_getChar_3b067 10 = .ok (.iload_n 1, 1) := by decide +kernel
theorem dJ2_getChar_3b067_11 : decode cJ2_getChar_3b067 11 = .ok (.aload_n 0, 1) := by decide +kernel
theorem dJ2_getChar_3b067_12 : decode cJ2_getChar_3b067 12 = .ok (.invokestatic 48, 3) := by decide +kernel
theorem dJ2_getChar_3b067_15 : decode cJ2_getChar_3b067 15 = .ok (.if_icmp .lt 13, 3) := by decide +kernel
theorem dJ2_getChar_3b067_18 : decode cJ2_getChar_3b067 18 = .ok (.new 52, 3) := by decide +kernel
theorem dJ2_getChar_3b067_21 : decode cJ2_getChar_3b067 21 = .ok (.dup, 1) := by decide +kernel
theorem dJ2_getChar_3b067_22 : decode cJ2_getChar_3b067 22 = .ok (.ldc 54, 2) := by decide +kernel
theorem dJ2_getChar_3b067_24 : decode cJ2_getChar_3b067 24 = .ok (.invokespecial 56, 3) := by decide +kernel
theorem dJ2_getChar_3b067_27 : decode cJ2_getChar_3b067 27 = .ok (.athrow, 1) := by decide +kernel
theorem dJ2_getChar_3b067_28 : decode cJ2_getChar_3b067 28 = .ok (.iload_n 1, 1) := by decide +kernel
theorem dJ2_getChar_3b067_29 : decode cJ2_getChar_3b067 29 = .ok (.iconst 1, 1) := by decide +kernel
theorem dJ2_getChar_3b067_30 : decode cJ2_getChar_3b067 30 = .ok (.ishl, 1) := by decide +kernel
theorem dJ2_getChar_3b067_31 : decode cJ2_getChar_3b067 31 = .ok (.istore_n 1, 1) := by decide +kernel
theorem dJ2_getChar_3b067_32 : decode cJ2_getChar_3b067 32 = .ok (.aload_n 0, 1) := by decide +kernel
theorem dJ2_getChar_3b067_33 : decode cJ2_getChar_3b067 33 = .ok (.iload_n 1, 1) := by decide +kernel
theorem dJ2_getChar_3b067_34 : decode cJ2_getChar_3b067 34 = .ok (.iinc 1 1, 3) := by decide +kernel
theorem dJ2_getChar_3b067_37 : decode cJ2_getChar_3b067 37 = .ok (.baload, 1) := by decide +kernel
theorem dJ2_getChar_3b067_38 : decode cJ2_getChar_3b067 38 = .ok (.sipush 255, 3) := by decide +kernel
theorem dJ2_getChar_3b067_41 : decode cJ2_getChar_3b067 41 = .ok (.iand, 1) := by decide +kernel
theorem dJ2_getChar_3b067_42 : decode cJ2_getChar_3b067 42 = .ok (.getstatic 59, 3) := by decide +kernel
theorem dJ2_getChar_3b067_45 : decode cJ2_getChar_3b067 45 = .ok (.ishl, 1) := by decide +kernel
theorem dJ2_getChar_3b067_46 : decode cJ2_getChar_3b067 46 = .ok (.aload_n 0, 1) := by decide +kernel
theorem dJ2_getChar_3b067_47 : decode cJ2_getChar_3b067 47 = .ok (.iload_n 1, 1) := by decide +kernel
theorem dJ2_getChar_3b067_48 : decode cJ2_getChar_3b067 48 = .ok (.baload, 1) := by decide +kernel
theorem dJ2_getChar_3b067_49 : decode cJ2_getChar_3b067 49 = .ok (.sipush 255, 3) := by decide +kernel
theorem dJ2_getChar_3b067_52 : decode cJ2_getChar_3b067 52 = .ok (.iand, 1) := by decide +kernel
theorem dJ2_getChar_3b067_53 : decode cJ2_getChar_3b067 53 = .ok (.getstatic 63, 3) := by decide +kernel
theorem dJ2_getChar_3b067_56 : decode cJ2_getChar_3b067 56 = .ok (.ishl, 1) := by decide +kernel
theorem dJ2_getChar_3b067_57 : decode cJ2_getChar_3b067 57 = .ok (.ior, 1) := by decide +kernel
theorem dJ2_getChar_3b067_58 : decode cJ2_getChar_3b067 58 = .ok (.i2c, 1) := by decide +kernel
theorem dJ2_getChar_3b067_59 : decode cJ2_getChar_3b067 59 = .ok (.ireturn, 1) := by decide +kernel
theorem dJ2_length_9d52b_0 : decode cJ2_length_9d52b 0 = .ok (.aload_n 0, 1) := by decide +kernel
theorem dJ2_length_9d52b_1 : decode cJ2_length_9d52b 1 = .ok (.arraylength, 1) := by decide +kernel
theorem dJ2_length_9d52b_2 : decode cJ2_length_9d52b 2 = .ok (.iconst 1, 1) := by decide +kernel
theorem dJ2_length_9d52b_3 : decode cJ2_length_9d52b 3 = .ok (.ishr, 1) := by decide +kernel
theorem dJ2_length_9d52b_4 : decode cJ2_length_9d52b 4 = .ok (.ireturn, 1) := by decide +kernel
theorem dJ2_charAt_3b067_0 : decode cJ2_charAt_3b067 0 = .ok (.iload_n 1, 1) := by decide +kernel
theorem dJ2_charAt_3b067_1 : decode cJ2_charAt_3b067 1 = .ok (.aload_n 0, 1) := by decide +kernel
theorem dJ2_charAt_3b067_2 : decode cJ2_charAt_3b067 2 = .ok (.invokestatic 67, 3) := by decide +kernel
theorem dJ2_charAt_3b067_5 : decode cJ2_charAt_3b067 5 = .ok (.aload_n 0, 1) := by decide +kernel
theorem dJ2_charAt_3b067_6 : decode cJ2_charAt_3b067 6 = .ok (.iload_n 1, 1) := by decide +kernel
theorem dJ2_charAt_3b067_7 : decode cJ2_charAt_3b067 7 = .ok (.invokestatic 71, 3) := by decide +kernel
theorem dJ2_charAt_3b067_10 : decode cJ2_charAt_3b067 10 = .ok (.ireturn, 1) := by decide +kernel
theorem dJ2_checkIndex_2214a_0 : decode cJ2_checkIndex_2214a 0 = .ok (.iload_n 0, 1) := by decide +kernel
theorem dJ2_checkIndex_2214a_1 : decode cJ2_checkIndex_2214a 1 = .ok (.aload_n 1, 1) := by decide +kernel
theorem dJ2_checkIndex_2214a_2 : decode cJ2_checkIndex_2214a 2 = .ok (.invokestatic 48, 3) := by decide +kernel
theorem dJ2_checkIndex_2214a_5 : decode cJ2_checkIndex_2214a 5 = .ok (.invokestatic 414, 3) := by decide +kernel
theorem dJ2_checkIndex_2214a_8 : decode cJ2_checkIndex_2214a 8 = .ok (.return_, 1) := by decide +kernel
theorem dJxa1e45_init_da8c8_0 : decode cJxa1e45_init_da8c8 0 = .ok (.aload_n 0, 1) := by decide +kernel
theorem dJxa1e45_init_da8c8_1 : decode cJxa1e45_init_da8c8 1 = .ok (.invokespecial 1, 3) := by decide +kernel
theorem dJxa1e45_init_da8c8_4 : decode cJxa1e45_init_da8c8 4 = .ok (.return_, 1) := by decide +kernel
theorem dJxc12de_init_da8c8_0 : decode cJxc12de_init_da8c8 0 = .ok (.aload_n 0, 1) := by decide +kernel
theorem dJxc12de_init_da8c8_1 : decode cJxc12de_init_da8c8 1 = .ok (.invokespecial 1, 3) := by decide +kernel
theorem dJxc12de_init_da8c8_4 : decode cJxc12de_init_da8c8 4 = .ok (.aload_n 0, 1) := by decide +kernel
theorem dJxc12de_init_da8c8_5 : decode cJxc12de_init_da8c8 5 = .ok (.iconst 0, 1) := by decide +kernel
theorem dJxc12de_init_da8c8_6 : decode cJxc12de_init_da8c8 6 = .ok (.putfield 7, 3) := by decide +kernel
theorem dJxc12de_init_da8c8_9 : decode cJxc12de_init_da8c8 9 = .ok (.return_, 1) := by decide +kernel
theorem dJx4a65c_init_da8c8_0 : decode cJx4a65c_init_da8c8 0 = .ok (.aload_n 0, 1) := by decide +kernel
theorem dJx4a65c_init_da8c8_1 : decode cJx4a65c_init_da8c8 1 = .ok (.invokespecial 1, 3) := by decide +kernel
theorem dJx4a65c_init_da8c8_4 : decode cJx4a65c_init_da8c8 4 = .ok (.aload_n 0, 1) := by decide +kernel
theorem dJx4a65c_init_da8c8_5 : decode cJx4a65c_init_da8c8 5 = .ok (.getstatic 39, 3) := by decide +kernel
theorem dJx4a65c_init_da8c8_8 : decode cJx4a65c_init_da8c8 8 = .ok (.putfield 9, 3) := by decide +kernel
theorem dJx4a65c_init_da8c8_11 : decode cJx4a65c_init_da8c8 11 = .ok (.return_, 1) := by decide +kernel
theorem dJx4a65c_grow_92f84_0 : decode cJx4a65c_grow_92f84 0 = .ok (.aload_n 0, 1) := by decide +kernel
theorem dJx4a65c_grow_92f84_1 : decode cJx4a65c_grow_92f84 1 = .ok (.getfield 9, 3) := by decide +kernel
theorem dJx4a65c_grow_92f84_4 : decode cJx4a65c_grow_92f84 4 = .ok (.arraylength, 1) := by decide +kernel
theorem dJx4a65c_grow_92f84_5 : decode cJx4a65c_grow_92f84 5 = .ok (.istore_n 2, 1) := by decide +kernel
theorem dJx4a65c_grow_92f84_6 : decode cJx4a65c_grow_92f84 6 = .ok (.iload_n 2, 1) := by decide +kernel
theorem dJx4a65c_grow_92f84_7 : decode cJx4a65c_grow_92f84 7 = .ok (.ifCond .gt 13, 3) := by decide +kernel
theorem dJx4a65c_grow_92f84_10 : decode cJx4a65c_grow_92f84 10 = .ok (.aload_n 0, 1) := by decide +kernel
theorem dJx4a65c_grow_92f84_11 : decode cJx4a65c_grow_92f84 11 = .ok (.getfield 9, 3) := by decide +kernel
theorem dJx4a65c_grow_92f84_14 : decode cJx4a65c_grow_92f84 14 = .ok (.getstatic 39, 3) := by decide +kernel
theorem dJx4a65c_grow_92f84_17 : decode cJx4a65c_grow_92f84 17 = .ok (.if_acmp .eq 28, 3) := by decide +kernel
theorem dJx4a65c_grow_92f84_20 : decode cJx4a65c_grow_92f84 20 = .ok (.iload_n 2, 1) := by decide +kernel
theorem dJx4a65c_grow_92f84_21 : decode cJx4a65c_grow_92f84 21 = .ok (.iload_n 1, 1) := by decide +kernel
theorem dJx4a65c_grow_92f84_22 : decode cJx4a65c_grow_92f84 22 = .ok (.iload_n 2, 1) := by decide +kernel
theorem dJx4a65c_grow_92f84_23 : decode cJx4a65c_grow_92f84 23 = .ok (.isub, 1) := by decide +kernel
theorem dJx4a65c_grow_92f84_24 : decode cJx4a65c_grow_92f84 24 = .ok (.iload_n 2, 1) := by decide +kernel
theorem dJx4a65c_grow_92f84_25 : decode cJx4a65c_grow_92f84 25 = .ok (.iconst 1, 1) := by decide +kernel
theorem dJx4a65c_grow_92f84_26 : decode cJx4a65c_grow_92f84 26 = .ok (.ishr, 1) := by decide +kernel
theorem dJx4a65c_grow_92f84_27 : decode cJx4a65c_grow_92f84 27 = .ok (.invokestatic 73, 3) := by decide +kernel
theorem dJx4a65c_grow_92f84_30 : decode cJx4a65c_grow_92f84 30 = .ok (.istore_n 3, 1) := by decide +kernel
theorem dJx4a65c_grow_92f84_31 : decode cJx4a65c_grow_92f84 31 = .ok (.aload_n 0, 1) := by decide +kernel
theorem dJx4a65c_grow_92f84_32 : decode cJx4a65c_grow_92f84 32 = .ok (.aload_n 0, 1) := by decide +kernel
theorem dJx4a65c_grow_92f84_33 : decode cJx4a65c_grow_92f84 33 = .ok (.getfield 9, 3) := by decide +kernel
theorem dJx4a65c_grow_92f84_36 : decode cJx4a65c_grow_92f84 36 = .ok (.iload_n 3, 1) := by decide +kernel
theorem dJx4a65c_grow_92f84_37 : decode cJx4a65c_grow_92f84 37 = .ok (.invokestatic 66, 3) := by decide +kernel
theorem dJx4a65c_grow_92f84_40 : decode cJx4a65c_grow_92f84 40 = .ok (.dup_x1, 1) := by decide +kernel
theorem dJx4a65c_grow_92f84_41 : decode cJx4a65c_grow_92f84 41 = .ok (.putfield 9, 3) := by decide +kernel
theorem dJx4a65c_grow_92f84_44 : decode cJx4a65c_grow_92f84 44 = .ok (.areturn, 1) := by decide +kernel
theorem dJx4a65c_grow_92f84_45 : decode cJx4a65c_grow_92f84 45 = .ok (.aload_n 0, 1) := by decide +kernel
theorem dJx4a65c_grow_92f84_46 : decode cJx4a65c_grow_92f84 46 = .ok (.bipush 10, 2) := by decide +kernel
theorem dJx4a65c_grow_92f84_48 : decode cJx4a65c_grow_92f84 48 = .ok (.iload_n 1, 1) := by decide +kernel
theorem dJx4a65c_grow_92f84_49 : decode cJx4a65c_grow_92f84 49 = .ok (.invokestatic 79, 3) := by decide +kernel
theorem dJx4a65c_grow_92f84_52 : decode cJx4a65c_grow_92f84 52 = .ok (.anewarray 7, 3) := by decide +kernel
theorem dJx4a65c_grow_92f84_55 : decode cJx4a65c_grow_92f84 55 = .ok (.dup_x1, 1) := by decide +kernel
theorem dJx4a65c_grow_92f84_56 : decode cJx4a65c_grow_92f84 56 = .ok (.putfield 9, 3) := by decide +kernel
theorem dJx4a65c_grow_92f84_59 : decode cJx4a65c_grow_92f84 59 = .ok (.areturn, 1) := by decide +kernel
theorem dJx4a65c_grow_d5877_0 : decode cJx4a65c_grow_d5877 0 = .ok (.aload_n 0, 1) := by decide +kernel
theorem dJx4a65c_grow_d5877_1 : decode cJx4a65c_grow_d5877 1 = .ok (.aload_n 0, 1) := by decide +kernel
theorem dJx4a65c_grow_d5877_2 : decode cJx4a65c_grow_d5877 2 = .ok (.getfield 48, 3) := by decide +kernel
theorem dJx4a65c_grow_d5877_5 : decode cJx4a65c_grow_d5877 5 = .ok (.iconst 1, 1) := by decide +kernel
theorem dJx4a65c_grow_d5877_6 : decode cJx4a65c_grow_d5877 6 = .ok (.iadd, 1) := by decide +kernel
theorem dJx4a65c_grow_d5877_7 : decode cJx4a65c_grow_d5877 7 = .ok (.invokevirtual 69, 3) := by decide +kernel
theorem dJx4a65c_grow_d5877_10 : decode cJx4a65c_grow_d5877 10 = .ok (.areturn, 1) := by decide +kernel
theorem dJx4a65c_size_8abf5_0 : decode cJx4a65c_size_8abf5 0 = .ok (.aload_n 0, 1) := by decide +kernel
theorem dJx4a65c_size_8abf5_1 : decode cJx4a65c_size_8abf5 1 = .ok (.getfield 48, 3) := by decide +kernel
theorem dJx4a65c_size_8abf5_4 : decode cJx4a65c_size_8abf5 4 = .ok (.ireturn, 1) := by decide +kernel
theorem dJx4a65c_elementData_915e3_0 : decode cJx4a65c_elementData_915e3 0 = .ok (.aload_n 0, 1) := by decide +kernel
theorem dJx4a65c_elementData_915e3_1 : decode cJx4a65c_elementData_915e3 1 = .ok (.getfield 9, 3) := by decide +kernel
theorem dJx4a65c_elementData_915e3_4 : decode cJx4a65c_elementData_915e3 4 = .ok (.iload_n 1, 1) := by decide +kernel
theorem dJx4a65c_elementData_915e3_5 : decode cJx4a65c_elementData_915e3 5 = .ok (.aaload, 1) := by decide +kernel
theorem dJx4a65c_elementData_915e3_6 : decode cJx4a65c_elementData_915e3 6 = .ok (.areturn, 1) := by decide +kernel
theorem dJx4a65c_get_915e3_0 : decode cJx4a65c_get_915e3 0 = .ok (.iload_n 1, 1) := by decide +kernel
theorem dJx4a65c_get_915e3_1 : decode cJx4a65c_get_915e3 1 = .ok (.aload_n 0, 1) := by decide +kernel
theorem dJx4a65c_get_915e3_2 : decode cJx4a65c_get_915e3 2 = .ok (.getfield 48, 3) := by decide +kernel
theorem dJx4a65c_get_915e3_5 : decode cJx4a65c_get_915e3 5 = .ok (.invokestatic 118, 3) := by decide +kernel
theorem dJx4a65c_get_915e3_8 : decode cJx4a65c_get_915e3 8 = .ok (.pop, 1) := by decide +kernel
theorem dJx4a65c_get_915e3_9 : decode cJx4a65c_get_915e3 9 = .ok (.aload_n 0, 1) := by decide +kernel
theorem dJx4a65c_get_915e3_10 : decode cJx4a65c_get_915e3 10 = .ok (.iload_n 1, 1) := by decide +kernel
theorem dJx4a65c_get_915e3_11 : decode cJx4a65c_get_915e3 11 = .ok (.invokevirtual 123, 3) := by decide +kernel
theorem dJx4a65c_get_915e3_14 : decode cJx4a65c_get_915e3 14 = .ok (.areturn, 1) := by decide +kernel
theorem dJx4a65c_add_72be8_0 : decode cJx4a65c_add_72be8 0 = .ok (.iload_n 3, 1) := by decide +kernel
theorem dJx4a65c_add_72be8_1 : decode cJx4a65c_add_72be8 1 = .ok (.aload_n 2, 1) := by decide +kernel
theorem dJx4a65c_add_72be8_2 : decode cJx4a65c_add_72be8 2 = .ok (.arraylength, 1) := by decide +kernel
theorem dJx4a65c_add_72be8_3 : decode cJx4a65c_add_72be8 3 = .ok (.if_icmp .ne 8, 3) := by decide +kernel
theorem dJx4a65c_add_72be8_6 : decode cJx4a65c_add_72be8 6 = .ok (.aload_n 0, 1) := by decide +kernel
theorem dJx4a65c_add_72be8_7 : decode cJx4a65c_add_72be8 7 = .ok (.invokevirtual 129, 3) := by decide +kernel
theorem dJx4a65c_add_72be8_10 : decode cJx4a65c_add_72be8 10 = .ok (.astore_n 2, 1) := by decide +kernel
theorem dJx4a65c_add_72be8_11 : decode cJx4a65c_add_72be8 11 = .ok (.aload_n 2, 1) := by decide +kernel
theorem dJx4a65c_add_72be8_12 : decode cJx4a65c_add_72be8 12 = .ok (.iload_n 3, 1) := by decide +kernel
theorem dJx4a65c_add_72be8_13 : decode cJx4a65c_add_72be8 13 = .ok (.aload_n 1, 1) := by decide +kernel
theorem dJx4a65c_add_72be8_14 : decode cJx4a65c_add_72be8 14 = .ok (.aastore, 1) := by decide +kernel
theorem dJx4a65c_add_72be8_15 : decode cJx4a65c_add_72be8 15 = .ok (.aload_n 0, 1) := by decide +kernel
theorem dJx4a65c_add_72be8_16 : decode cJx4a65c_add_72be8 16 = .ok (.iload_n 3, 1) := by decide +kernel
theorem dJx4a65c_add_72be8_17 : decode cJx4a65c_add_72be8 17 = .ok (.iconst 1, 1) := by decide +kernel
theorem dJx4a65c_add_72be8_18 : decode cJx4a65c_add_72be8 18 = .ok (.iadd, 1) := by decide +kernel
theorem dJx4a65c_add_72be8_19 : decode cJx4a65c_add_72be8 19 = .ok (.putfield 48, 3) := by decide +kernel
theorem dJx4a65c_add_72be8_22 : decode cJx4a65c_add_72be8 22 = .ok (.return_, 1) := by decide +kernel
theorem dJx4a65c_add_9ea2d_0 : decode cJx4a65c_add_9ea2d 0 = .ok (.aload_n 0, 1) := by decide +kernel
theorem dJx4a65c_add_9ea2d_1 : decode cJx4a65c_add_9ea2d 1 = .ok (.dup, 1) := by decide +kernel
theorem dJx4a65c_add_9ea2d_2 : decode cJx4a65c_add_9ea2d 2 = .ok (.getfield 63, 3) := by decide +kernel
theorem dJx4a65c_add_9ea2d_5 : decode cJx4a65c_add_9ea2d 5 = .ok (.iconst 1, 1) := by decide +kernel
theorem dJx4a65c_add_9ea2d_6 : decode cJx4a65c_add_9ea2d 6 = .ok (.iadd, 1) := by decide +kernel
theorem dJx4a65c_add_9ea2d_7 : decode cJx4a65c_add_9ea2d 7 = .ok (.putfield 63, 3) := by decide +kernel
theorem dJx4a65c_add_9ea2d_10 : decode cJx4a65c_add_9ea2d 10 = .ok (.aload_n 0, 1) := by decide +kernel
theorem dJx4a65c_add_9ea2d_11 : decode cJx4a65c_add_9ea2d 11 = .ok (.aload_n 1, 1) := by decide +kernel
theorem dJx4a65c_add_9ea2d_12 : decode cJx4a65c_add_9ea2d 12 = .ok (.aload_n 0, 1) := by decide +kernel
theorem dJx4a65c_add_9ea2d_13 : decode cJx4a65c_add_9ea2d 13 = .ok (.getfield 9, 3) := by decide +kernel
theorem dJx4a65c_add_9ea2d_16 : decode cJx4a65c_add_9ea2d 16 = .ok (.aload_n 0, 1) := by decide +kernel
theorem dJx4a65c_add_9ea2d_17 : decode cJx4a65c_add_9ea2d 17 = .ok (.getfield 48, 3) := by decide +kernel
theorem dJx4a65c_add_9ea2d_20 : decode cJx4a65c_add_9ea2d 20 = .ok (.invokevirtual 131, 3) := by decide +kernel
theorem dJx4a65c_add_9ea2d_23 : decode cJx4a65c_add_9ea2d 23 = .ok (.iconst 1, 1) := by decide +kernel
theorem dJx4a65c_add_9ea2d_24 : decode cJx4a65c_add_9ea2d 24 = .ok (.ireturn, 1) := by decide +kernel
theorem dJ7_fill_53178_0 : decode cJ7_fill_53178 0 = .ok (.iconst 0, 1) := by decide +kernel
theorem dJ7_fill_53178_1 : decode cJ7_fill_53178 1 = .ok (.istore_n 2, 1) := by decide +kernel
theorem dJ7_fill_53178_2 : decode cJ7_fill_53178 2 = .ok (.aload_n 0, 1) := by decide +kernel
theorem dJ7_fill_53178_3 : decode cJ7_fill_53178 3 = .ok (.arraylength, 1) := by decide +kernel
theorem dJ7_fill_53178_4 : decode cJ7_fill_53178 4 = .ok (.istore_n 3, 1) := by decide +kernel
theorem dJ7_fill_53178_5 : decode cJ7_fill_53178 5 = .ok (.iload_n 2, 1) := by decide +kernel
theorem dJ7_fill_53178_6 : decode cJ7_fill_53178 6 = .ok (.iload_n 3, 1) := by decide +kernel
theorem dJ7_fill_53178_7 : decode cJ7_fill_53178 7 = .ok (.if_icmp .ge 13, 3) := by decide +kernel
theorem dJ7_fill_53178_10 : decode cJ7_fill_53178 10 = .ok (.aload_n 0, 1) := by decide +kernel
theorem dJ7_fill_53178_11 : decode cJ7_fill_53178 11 = .ok (.iload_n 2, 1) := by decide +kernel
theorem dJ7_fill_53178_12 : decode cJ7_fill_53178 12 = .ok (.iload_n 1, 1) := by decide +kernel
theorem dJ7_fill_53178_13 : decode cJ7_fill_53178 13 = .ok (.iastore, 1) := by decide +kernel
theorem dJ7_fill_53178_14 : decode cJ7_fill_53178 14 = .ok (.iinc 2 1, 3) := by decide +kernel
theorem dJ7_fill_53178_17 : decode cJ7_fill_53178 17 = .ok (.goto (-12), 3) := by decide +kernel
theorem dJ7_fill_53178_20 : decode cJ7_fill_53178 20 = .ok (.return_, 1) := by decide +kernel
theorem dJ7_copyOf_1904c_0 : decode cJ7_copyOf_1904c 0 = .ok (.aload_n 0, 1) := by decide +kernel
theorem dJ7_copyOf_1904c_1 : decode cJ7_copyOf_1904c 1 = .ok (.iload_n 1, 1) := by decide +kernel
theorem dJ7_copyOf_1904c_2 : decode cJ7_copyOf_1904c 2 = .ok (.aload_n 0, 1) := by decide +kernel
theorem dJ7_copyOf_1904c_3 : decode cJ7_copyOf_1904c 3 = .ok (.invokevirtual 86, 3) := by decide +kernel
theorem dJ7_copyOf_1904c_6 : decode cJ7_copyOf_1904c 6 = .ok (.invokestatic 300, 3) := by decide +kernel
theorem dJ7_copyOf_1904c_9 : decode cJ7_copyOf_1904c 9 = .ok (.areturn, 1) := by decide +kernel
theorem dJ7_copyOf_6403c_0 : decode cJ7_copyOf_6403c 0 = .ok (.aload_n 2, 1) := by decide +kernel
theorem dJ7_copyOf_6403c_1 : decode cJ7_copyOf_6403c 1 = .ok (.ldc 110, 2) := by decide +kernel
theorem dJ7_copyOf_6403c_3 : decode cJ7_copyOf_6403c 3 = .ok (.if_acmp .ne 10, 3) := by decide +kernel
theorem dJ7_copyOf_6403c_6 : decode cJ7_copyOf_6403c 6 = .ok (.iload_n 1, 1) := by decide +kernel
theorem dJ7_copyOf_6403c_7 : decode cJ7_copyOf_6403c 7 = .ok (.anewarray 2, 3) := by decide +kernel
theorem dJ7_copyOf_6403c_10 : decode cJ7_copyOf_6403c 10 = .ok (.goto 14, 3) := by decide +kernel
theorem dJ7_copyOf_6403c_13 : decode cJ7_copyOf_6403c 13 = .ok (.aload_n 2, 1) := by decide +kernel
theorem dJ7_copyOf_6403c_14 : decode cJ7_copyOf_6403c 14 = .ok (.invokevirtual 90, 3) := by decide +kernel
theorem dJ7_copyOf_6403c_17 : decode cJ7_copyOf_6403c 17 = .ok (.iload_n 1, 1) := by decide +kernel
theorem dJ7_copyOf_6403c_18 : decode cJ7_copyOf_6403c 18 = .ok (.invokestatic 95, 3) := by decide +kernel
theorem dJ7_copyOf_6403c_21 : decode cJ7_copyOf_6403c 21 = .ok (.checkcast 110, 3) := by decide +kernel
theorem dJ7_copyOf_6403c_24 : decode cJ7_copyOf_6403c 24 = .ok (.astore_n 3, 1) := by decide +kernel
theorem dJ7_copyOf_6403c_25 : decode cJ7_copyOf_6403c 25 = .ok (.aload_n 0, 1) := by decide +kernel
theorem dJ7_copyOf_6403c_26 : decode cJ7_copyOf_6403c 26 = .ok (.iconst 0, 1) := by decide +kernel
theorem dJ7_copyOf_6403c_27 : decode cJ7_copyOf_6403c 27 = .ok (.aload_n 3, 1) := by decide +kernel
theorem dJ7_copyOf_6403c_28 : decode cJ7_copyOf_6403c 28 = .ok (.iconst 0, 1) := by decide +kernel
theorem dJ7_copyOf_6403c_29 : decode cJ7_copyOf_6403c 29 = .ok (.aload_n 0, 1) := by decide +kernel
theorem dJ7_copyOf_6403c_30 : decode cJ7_copyOf_6403c 30 = .ok (.arraylength, 1) := by decide +kernel
theorem dJ7_copyOf_6403c_31 : decode cJ7_copyOf_6403c 31 = .ok (.iload_n 1, 1) := by decide +kernel
theorem dJ7_copyOf_6403c_32 : decode cJ7_copyOf_6403c 32 = .ok (.invokestatic 304, 3) := by decide +kernel
theorem dJ7_copyOf_6403c_35 : decode cJ7_copyOf_6403c 35 = .ok (.invokestatic 150, 3) := by decide +kernel
theorem dJ7_copyOf_6403c_38 : decode cJ7_copyOf_6403c 38 = .ok (.aload_n 3, 1) := by decide +kernel
theorem dJ7_copyOf_6403c_39 : decode cJ7_copyOf_6403c 39 = .ok (.areturn, 1) := by decide +kernel
theorem dJ15_checkIndex_7cf53_0 : decode cJ15_checkIndex_7cf53 0 = .ok (.iload_n 0, 1) := by decide +kernel
theorem dJ15_checkIndex_7cf53_1 : decode cJ15_checkIndex_7cf53 1 = .ok (.iload_n 1, 1) := by decide +kernel
theorem dJ15_checkIndex_7cf53_2 : decode cJ15_checkIndex_7cf53 2 = .ok (.aconst_null, 1) := by decide +kernel
theorem dJ15_checkIndex_7cf53_3 : decode cJ15_checkIndex_7cf53 3 = .ok (.invokestatic 105, 3) := by decide +kernel
theorem dJ15_checkIndex_7cf53_6 : decode cJ15_checkIndex_7cf53 6 = .ok (.ireturn, 1) := by decide +kernel
theorem dJ8_newLength_cabcc_0 : decode cJ8_newLength_cabcc 0 = .ok (.iload_n 0, 1) := by decide +kernel
theorem dJ8_newLength_cabcc_1 : decode cJ8_newLength_cabcc 1 = .ok (.iload_n 1, 1) := by decide +kernel
theorem dJ8_newLength_cabcc_2 : decode cJ8_newLength_cabcc 2 = .ok (.iload_n 2, 1) := by decide +kernel
theorem dJ8_newLength_cabcc_3 : decode cJ8_newLength_cabcc 3 = .ok (.invokestatic 194, 3) := by decide +kernel
theorem dJ8_newLength_cabcc_6 : decode cJ8_newLength_cabcc 6 = .ok (.iadd, 1) := by decide +kernel
theorem dJ8_newLength_cabcc_7 : decode cJ8_newLength_cabcc 7 = .ok (.istore_n 3, 1) := by decide +kernel
theorem dJ8_newLength_cabcc_8 : decode cJ8_newLength_cabcc 8 = .ok (.iconst 0, 1) := by decide +kernel
theorem dJ8_newLength_cabcc_9 : decode cJ8_newLength_cabcc 9 = .ok (.iload_n 3, 1) := by decide +kernel
theorem dJ8_newLength_cabcc_10 : decode cJ8_newLength_cabcc 10 = .ok (.if_icmp .ge 11, 3) := by decide +kernel
theorem dJ8_newLength_cabcc_13 : decode cJ8_newLength_cabcc 13 = .ok (.iload_n 3, 1) := by decide +kernel
theorem dJ8_newLength_cabcc_14 : decode cJ8_newLength_cabcc 14 = .ok (.ldc 200, 2) := by decide +kernel
theorem dJ8_newLength_cabcc_16 : decode cJ8_newLength_cabcc 16 = .ok (.if_icmp .gt 5, 3) := by decide +kernel
theorem dJ8_newLength_cabcc_19 : decode cJ8_newLength_cabcc 19 = .ok (.iload_n 3, 1) := by decide +kernel
theorem dJ8_newLength_cabcc_20 : decode cJ8_newLength_cabcc 20 = .ok (.ireturn, 1) := by decide +kernel
theorem dJ8_newLength_cabcc_21 : decode cJ8_newLength_cabcc 21 = .ok (.iload_n 0, 1) := by decide +kernel
theorem dJ8_newLength_cabcc_22 : decode cJ8_newLength_cabcc 22 = .ok (.iload_n 1, 1) := by decide +kernel
theorem dJ8_newLength_cabcc_23 : decode cJ8_newLength_cabcc 23 = .ok (.invokestatic 201, 3) := by decide +kernel
theorem dJ8_newLength_cabcc_26 : decode cJ8_newLength_cabcc 26 = .ok (.ireturn, 1) := by decide +kernel
theorem dJ8_hugeLength_7cf53_0 : decode cJ8_hugeLength_7cf53 0 = .ok (.iload_n 0, 1) := by decide +kernel
theorem dJ8_hugeLength_7cf53_1 : decode cJ8_hugeLength_7cf53 1 = .ok (.iload_n 1, 1) := by decide +kernel
theorem dJ8_hugeLength_7cf53_2 : decode cJ8_hugeLength_7cf53 2 = .ok (.iadd, 1) := by decide +kernel
theorem dJ8_hugeLength_7cf53_3 : decode cJ8_hugeLength_7cf53 3 = .ok (.istore_n 2, 1) := by decide +kernel
theorem dJ8_hugeLength_7cf53_4 : decode cJ8_hugeLength_7cf53 4 = .ok (.iload_n 2, 1) := by decide +kernel
theorem dJ8_hugeLength_7cf53_5 : decode cJ8_hugeLength_7cf53 5 = .ok (.ifCond .ge 44, 3) := by decide +kernel
theorem dJ8_hugeLength_7cf53_8 : decode cJ8_hugeLength_7cf53 8 = .ok (.new 204, 3) := by decide +kernel
theorem dJ8_hugeLength_7cf53_11 : decode cJ8_hugeLength_7cf53 11 = .ok (.dup, 1) := by decide +kernel
theorem dJ8_hugeLength_7cf53_12 : decode cJ8_hugeLength_7cf53 12 = .ok (.new 89, 3) := by decide +kernel
theorem dJ8_hugeLength_7cf53_15 : decode cJ8_hugeLength_7cf53 15 = .ok (.dup, 1) := by decide +kernel
theorem dJ8_hugeLength_7cf53_16 : decode cJ8_hugeLength_7cf53 16 = .ok (.invokespecial 91, 3) := by decide +kernel
theorem dJ8_hugeLength_7cf53_19 : decode cJ8_hugeLength_7cf53 19 = .ok (.ldc 206, 2) := by decide +kernel
theorem dJ8_hugeLength_7cf53_21 : decode cJ8_hugeLength_7cf53 21 = .ok (.invokevirtual 94, 3) := by decide +kernel
theorem dJ8_hugeLength_7cf53_24 : decode cJ8_hugeLength_7cf53 24 = .ok (.iload_n 0, 1) := by decide +kernel
theorem dJ8_hugeLength_7cf53_25 : decode cJ8_hugeLength_7cf53 25 = .ok (.invokevirtual 98, 3) := by decide +kernel
theorem dJ8_hugeLength_7cf53_28 : decode cJ8_hugeLength_7cf53 28 = .ok (.ldc 208, 2) := by decide +kernel
theorem dJ8_hugeLength_7cf53_30 : decode cJ8_hugeLength_7cf53 30 = .ok (.invokevirtual 94, 3) := by decide +kernel
theorem dJ8_hugeLength_7cf53_33 : decode cJ8_hugeLength_7cf53 33 = .ok (.iload_n 1, 1) := by decide +kernel
theorem dJ8_hugeLength_7cf53_34 : decode cJ8_hugeLength_7cf53 34 = .ok (.invokevirtual 98, 3) := by decide +kernel
theorem dJ8_hugeLength_7cf53_37 : decode cJ8_hugeLength_7cf53 37 = .ok (.ldc 210, 2) := by decide +kernel
theorem dJ8_hugeLength_7cf53_39 : decode cJ8_hugeLength_7cf53 39 = .ok (.invokevirtual 94, 3) := by decide +kernel
theorem dJ8_hugeLength_7cf53_42 : decode cJ8_hugeLength_7cf53 42 = .ok (.invokevirtual 101, 3) := by decide +kernel
theorem dJ8_hugeLength_7cf53_45 : decode cJ8_hugeLength_7cf53 45 = .ok (.invokespecial 212, 3) := by decide +kernel
theorem dJ8_hugeLength_7cf53_48 : decode cJ8_hugeLength_7cf53 48 = .ok (.athrow, 1) := by decide +kernel
theorem dJ8_hugeLength_7cf53_49 : decode cJ8_hugeLength_7cf53 49 = .ok (.iload_n 2, 1) := by decide +kernel
theorem dJ8_hugeLength_7cf53_50 : decode cJ8_hugeLength_7cf53 50 = .ok (.ldc 200, 2) := by decide +kernel
theorem dJ8_hugeLength_7cf53_52 : decode cJ8_hugeLength_7cf53 52 = .ok (.if_icmp .gt 6, 3) := by decide +kernel
theorem dJ8_hugeLength_7cf53_55 : decode cJ8_hugeLength_7cf53 55 = .ok (.ldc 200, 2) := by decide +kernel
theorem dJ8_hugeLength_7cf53_57 : decode cJ8_hugeLength_7cf53 57 = .ok (.ireturn, 1) := by decide +kernel
theorem dJ8_hugeLength_7cf53_58 : decode cJ8_hugeLength_7cf53 58 = .ok (.iload_n 2, 1) := by decide +kernel
theorem dJ8_hugeLength_7cf53_59 : decode cJ8_hugeLength_7cf53 59 = .ok (.ireturn, 1) := by decide +kernel
theorem dJ3_checkIndex_8e157_0 : decode cJ3_checkIndex_8e157 0 = .ok (.iload_n 0, 1) := by decide +kernel
theorem dJ3_checkIndex_8e157_1 : decode cJ3_checkIndex_8e157 1 = .ok (.ifCond .lt 8, 3) := by decide +kernel
theorem dJ3_checkIndex_8e157_4 : decode cJ3_checkIndex_8e157 4 = .ok (.iload_n 0, 1) := by decide +kernel
theorem dJ3_checkIndex_8e157_5 : decode cJ3_checkIndex_8e157 5 = .ok (.iload_n 1, 1) := by decide +kernel
theorem dJ3_checkIndex_8e157_6 : decode cJ3_checkIndex_8e157 6 = .ok (.if_icmp .lt 10, 3) := by decide +kernel
theorem dJ3_checkIndex_8e157_9 : decode cJ3_checkIndex_8e157 9 = .ok (.aload_n 2, 1) := by decide +kernel
theorem dJ3_checkIndex_8e157_10 : decode cJ3_checkIndex_8e157 10 = .ok (.iload_n 0, 1) := by decide +kernel
theorem dJ3_checkIndex_8e157_11 : decode cJ3_checkIndex_8e157 11 = .ok (.iload_n 1, 1) := by decide +kernel
theorem dJ3_checkIndex_8e157_12 : decode cJ3_checkIndex_8e157 12 = .ok (.invokestatic 95, 3) := by decide +kernel
theorem dJ3_checkIndex_8e157_15 : decode cJ3_checkIndex_8e157 15 = .ok (.athrow, 1) := by decide +kernel
theorem dJ3_checkIndex_8e157_16 : decode cJ3_checkIndex_8e157 16 = .ok (.iload_n 0, 1) := by decide +kernel
theorem dJ3_checkIndex_8e157_17 : decode cJ3_checkIndex_8e157 17 = .ok (.ireturn, 1) := by decide +kernel
