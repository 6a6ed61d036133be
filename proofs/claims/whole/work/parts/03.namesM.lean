theorem dX5_init_0 : decode cX5_init 0 = .ok (.aload_n 0, 1) := by decide +kernel
theorem dX5_init_1 : decode cX5_init 1 = .ok (.invokespecial 1, 3) := by decide +kernel
theorem dX5_init_4 : decode cX5_init 4 = .ok (.aload_n 0, 1) := by decide +kernel
theorem dX5_init_5 : decode cX5_init 5 = .ok (.bipush 7, 2) := by decide +kernel
theorem dX5_init_7 : decode cX5_init 7 = .ok (.newarray .int, 2) := by decide +kernel
theorem dX5_init_9 : decode cX5_init 9 = .ok (.putfield 7, 3) := by decide +kernel
theorem dX5_init_12 : decode cX5_init 12 = .ok (.aload_n 0, 1) := by decide +kernel
theorem dX5_init_13 : decode cX5_init 13 = .ok (.iconst 5, 1) := by decide +kernel
theorem dX5_init_14 : decode cX5_init 14 = .ok (.newarray .int, 2) := by decide +kernel
theorem dX5_init_16 : decode cX5_init 16 = .ok (.putfield 13, 3) := by decide +kernel
theorem dX5_init_19 : decode cX5_init 19 = .ok (.aload_n 0, 1) := by decide +kernel
theorem dX5_init_20 : decode cX5_init 20 = .ok (.iconst 5, 1) := by decide +kernel
theorem dX5_init_21 : decode cX5_init 21 = .ok (.newarray .int, 2) := by decide +kernel
theorem dX5_init_23 : decode cX5_init 23 = .ok (.putfield 16, 3) := by decide +kernel
theorem dX5_init_26 : decode cX5_init 26 = .ok (.aload_n 0, 1) := by decide +kernel
theorem dX5_init_27 : decode cX5_init 27 = .ok (.iconst 5, 1) := by decide +kernel
theorem dX5_init_28 : decode cX5_init 28 = .ok (.newarray .int, 2) := by decide +kernel
theorem dX5_init_30 : decode cX5_init 30 = .ok (.putfield 19, 3) := by decide +kernel
theorem dX5_init_33 : decode cX5_init 33 = .ok (.aload_n 0, 1) := by decide +kernel
theorem dX5_init_34 : decode cX5_init 34 = .ok (.bipush 8, 2) := by decide +kernel
theorem dX5_init_36 : decode cX5_init 36 = .ok (.newarray .int, 2) := by decide +kernel
theorem dX5_init_38 : decode cX5_init 38 = .ok (.putfield 22, 3) := by decide +kernel
theorem dX5_init_41 : decode cX5_init 41 = .ok (.aload_n 0, 1) := by decide +kernel
theorem dX5_init_42 : decode cX5_init 42 = .ok (.bipush 8, 2) := by decide +kernel
theorem dX5_init_44 : decode cX5_init 44 = .ok (.newarray .int, 2) := by decide +kernel
theorem dX5_init_46 : decode cX5_init 46 = .ok (.putfield 25, 3) := by decide +kernel
theorem dX5_init_49 : decode cX5_init 49 = .ok (.aload_n 0, 1) := by decide +kernel
theorem dX5_init_50 : decode cX5_init 50 = .ok (.bipush 8, 2) := by decide +kernel
theorem dX5_init_52 : decode cX5_init 52 = .ok (.newarray .int, 2) := by decide +kernel
theorem dX5_init_54 : decode cX5_init 54 = .ok (.putfield 28, 3) := by decide +kernel
theorem dX5_init_57 : decode cX5_init 57 = .ok (.aload_n 0, 1) := by decide +kernel
theorem dX5_init_58 : decode cX5_init 58 = .ok (.bipush 8, 2) := by decide +kernel
theorem dX5_init_60 : decode cX5_init 60 = .ok (.newarray .int, 2) := by decide +kernel
theorem dX5_init_62 : decode cX5_init 62 = .ok (.putfield 31, 3) := by decide +kernel
theorem dX5_init_65 : decode cX5_init 65 = .ok (.aload_n 0, 1) := by decide +kernel
theorem dX5_init_66 : decode cX5_init 66 = .ok (.bipush 96, 2) := by decide +kernel
theorem dX5_init_68 : decode cX5_init 68 = .ok (.newarray .int, 2) := by decide +kernel
theorem dX5_init_70 : decode cX5_init 70 = .ok (.putfield 34, 3) := by decide +kernel
theorem dX5_init_73 : decode cX5_init 73 = .ok (.aload_n 0, 1) := by decide +kernel
theorem dX5_init_74 : decode cX5_init 74 = .ok (.bipush 48, 2) := by decide +kernel
theorem dX5_init_76 : decode cX5_init 76 = .ok (.newarray .int, 2) := by decide +kernel
theorem dX5_init_78 : decode cX5_init 78 = .ok (.putfield 37, 3) := by decide +kernel
theorem dX5_init_81 : decode cX5_init 81 = .ok (.aload_n 0, 1) := by decide +kernel
theorem dX5_init_82 : decode cX5_init 82 = .ok (.bipush 48, 2) := by decide +kernel
theorem dX5_init_84 : decode cX5_init 84 = .ok (.newarray .int, 2) := by decide +kernel
theorem dX5_init_86 : decode cX5_init 86 = .ok (.putfield 40, 3) := by decide +kernel
theorem dX5_init_89 : decode cX5_init 89 = .ok (.aload_n 0, 1) := by decide +kernel
theorem dX5_init_90 : decode cX5_init 90 = .ok (.sipush 192, 3) := by decide +kernel
theorem dX5_init_93 : decode cX5_init 93 = .ok (.newarray .int, 2) := by decide +kernel
theorem dX5_init_95 : decode cX5_init 95 = .ok (.putfield 43, 3) := by decide +kernel
theorem dX5_init_98 : decode cX5_init 98 = .ok (.aload_n 0, 1) := by decide +kernel
theorem dX5_init_99 : decode cX5_init 99 = .ok (.sipush 153, 3) := by decide +kernel
theorem dX5_init_102 : decode cX5_init 102 = .ok (.newarray .int, 2) := by decide +kernel
theorem dX5_init_104 : decode cX5_init 104 = .ok (.putfield 46, 3) := by decide +kernel
theorem dX5_init_107 : decode cX5_init 107 = .ok (.aload_n 0, 1) := by decide +kernel
theorem dX5_init_108 : decode cX5_init 108 = .ok (.bipush 8, 2) := by decide +kernel
theorem dX5_init_110 : decode cX5_init 110 = .ok (.newarray .int, 2) := by decide +kernel
theorem dX5_init_112 : decode cX5_init 112 = .ok (.putfield 49, 3) := by decide +kernel
theorem dX5_init_115 : decode cX5_init 115 = .ok (.aload_n 0, 1) := by decide +kernel
theorem dX5_init_116 : decode cX5_init 116 = .ok (.bipush 8, 2) := by decide +kernel
theorem dX5_init_118 : decode cX5_init 118 = .ok (.newarray .int, 2) := by decide +kernel
theorem dX5_init_120 : decode cX5_init 120 = .ok (.putfield 52, 3) := by decide +kernel
theorem dX5_init_123 : decode cX5_init 123 = .ok (.aload_n 0, 1) := by decide +kernel
theorem dX5_init_124 : decode cX5_init 124 = .ok (.bipush 16, 2) := by decide +kernel
theorem dX5_init_126 : decode cX5_init 126 = .ok (.newarray .int, 2) := by decide +kernel
theorem dX5_init_128 : decode cX5_init 128 = .ok (.putfield 55, 3) := by decide +kernel
theorem dX5_init_131 : decode cX5_init 131 = .ok (.aload_n 0, 1) := by decide +kernel
theorem dX5_init_132 : decode cX5_init 132 = .ok (.iconst 0, 1) := by decide +kernel
theorem dX5_init_133 : decode cX5_init 133 = .ok (.putfield 58, 3) := by decide +kernel
theorem dX5_init_136 : decode cX5_init 136 = .ok (.return_, 1) := by decide +kernel
theorem dX5_no_0 : decode cX5_no 0 = .ok (.aload_n 0, 1) := by decide +kernel
theorem dX5_no_1 : decode cX5_no 1 = .ok (.getfield 7, 3) := by decide +kernel
theorem dX5_no_4 : decode cX5_no 4 = .ok (.iload_n 1, 1) := by decide +kernel
theorem dX5_no_5 : decode cX5_no 5 = .ok (.ineg, 1) := by decide +kernel
theorem dX5_no_6 : decode cX5_no 6 = .ok (.dup2, 1) := by decide +kernel
theorem dX5_no_7 : decode cX5_no 7 = .ok (.iaload, 1) := by decide +kernel
theorem dX5_no_8 : decode cX5_no 8 = .ok (.iconst 1, 1) := by decide +kernel
theorem dX5_no_9 : decode cX5_no 9 = .ok (.iadd, 1) := by decide +kernel
theorem dX5_no_10 : decode cX5_no 10 = .ok (.iastore, 1) := by decide +kernel
theorem dX5_no_11 : decode cX5_no 11 = .ok (.iload_n 1, 1) := by decide +kernel
theorem dX5_no_12 : decode cX5_no 12 = .ok (.ireturn, 1) := by decide +kernel
theorem dX5_lower_0 : decode cX5_lower 0 = .ok (.aload_n 0, 1) := by decide +kernel
theorem dX5_lower_1 : decode cX5_lower 1 = .ok (.getfield 7, 3) := by decide +kernel
theorem dX5_lower_4 : decode cX5_lower 4 = .ok (.iload_n 1, 1) := by decide +kernel
theorem dX5_lower_5 : decode cX5_lower 5 = .ok (.ineg, 1) := by decide +kernel
theorem dX5_lower_6 : decode cX5_lower 6 = .ok (.dup2, 1) := by decide +kernel
theorem dX5_lower_7 : decode cX5_lower 7 = .ok (.iaload, 1) := by decide +kernel
theorem dX5_lower_8 : decode cX5_lower 8 = .ok (.iconst 1, 1) := by decide +kernel
theorem dX5_lower_9 : decode cX5_lower 9 = .ok (.iadd, 1) := by decide +kernel
theorem dX5_lower_10 : decode cX5_lower 10 = .ok (.iastore, 1) := by decide +kernel
theorem dX5_lower_11 : decode cX5_lower 11 = .ok (.ldc 62, 2) := by decide +kernel
theorem dX5_lower_13 : decode cX5_lower 13 = .ok (.iload_n 1, 1) := by decide +kernel
theorem dX5_lower_14 : decode cX5_lower 14 = .ok (.isub, 1) := by decide +kernel
theorem dX5_lower_15 : decode cX5_lower 15 = .ok (.ireturn, 1) := by decide +kernel
theorem dX5_lowestOf_0 : decode cX5_lowestOf 0 = .ok (.aload_n 0, 1) := by decide +kernel
theorem dX5_lowestOf_1 : decode cX5_lowestOf 1 = .ok (.getfield 7, 3) := by decide +kernel
theorem dX5_lowestOf_4 : decode cX5_lowestOf 4 = .ok (.iload_n 1, 1) := by decide +kernel
theorem dX5_lowestOf_5 : decode cX5_lowestOf 5 = .ok (.ineg, 1) := by decide +kernel
theorem dX5_lowestOf_6 : decode cX5_lowestOf 6 = .ok (.dup2, 1) := by decide +kernel
theorem dX5_lowestOf_7 : decode cX5_lowestOf 7 = .ok (.iaload, 1) := by decide +kernel
theorem dX5_lowestOf_8 : decode cX5_lowestOf 8 = .ok (.iconst 1, 1) := by decide +kernel
theorem dX5_lowestOf_9 : decode cX5_lowestOf 9 = .ok (.iadd, 1) := by decide +kernel
theorem dX5_lowestOf_10 : decode cX5_lowestOf 10 = .ok (.iastore, 1) := by decide +kernel
theorem dX5_lowestOf_11 : decode cX5_lowestOf 11 = .ok (.ldc2_w 63, 3) := by decide +kernel
theorem dX5_lowestOf_14 : decode cX5_lowestOf 14 = .ok (.iload_n 1, 1) := by decide +kernel
theorem dX5_lowestOf_15 : decode cX5_lowestOf 15 = .ok (.i2l, 1) := by decide +kernel
theorem dX5_lowestOf_16 : decode cX5_lowestOf 16 = .ok (.lsub, 1) := by decide +kernel
theorem dX5_lowestOf_17 : decode cX5_lowestOf 17 = .ok (.lreturn, 1) := by decide +kernel
theorem dX5_isIn_0 : decode cX5_isIn 0 = .ok (.iload_n 0, 1) := by decide +kernel
theorem dX5_isIn_1 : decode cX5_isIn 1 = .ok (.iload_n 1, 1) := by decide +kernel
theorem dX5_isIn_2 : decode cX5_isIn 2 = .ok (.if_icmp .lt 12, 3) := by decide +kernel
theorem dX5_isIn_5 : decode cX5_isIn 5 = .ok (.iload_n 0, 1) := by decide +kernel
theorem dX5_isIn_6 : decode cX5_isIn 6 = .ok (.iload_n 2, 1) := by decide +kernel
theorem dX5_isIn_7 : decode cX5_isIn 7 = .ok (.if_icmp .gt 7, 3) := by decide +kernel
theorem dX5_isIn_10 : decode cX5_isIn 10 = .ok (.iconst 1, 1) := by decide +kernel
theorem dX5_isIn_11 : decode cX5_isIn 11 = .ok (.goto 4, 3) := by decide +kernel
theorem dX5_isIn_14 : decode cX5_isIn 14 = .ok (.iconst 0, 1) := by decide +kernel
theorem dX5_isIn_15 : decode cX5_isIn 15 = .ok (.ireturn, 1) := by decide +kernel
theorem dX5_bound_0 : decode cX5_bound 0 = .ok (.iload_n 0, 1) := by decide +kernel
theorem dX5_bound_1 : decode cX5_bound 1 = .ok (.iload_n 1, 1) := by decide +kernel
theorem dX5_bound_2 : decode cX5_bound 2 = .ok (.if_icmp .ge 8, 3) := by decide +kernel
theorem dX5_bound_5 : decode cX5_bound 5 = .ok (.bipush (-4), 2) := by decide +kernel
theorem dX5_bound_7 : decode cX5_bound 7 = .ok (.goto 14, 3) := by decide +kernel
theorem dX5_bound_10 : decode cX5_bound 10 = .ok (.iload_n 0, 1) := by decide +kernel
theorem dX5_bound_11 : decode cX5_bound 11 = .ok (.iload_n 2, 1) := by decide +kernel
theorem dX5_bound_12 : decode cX5_bound 12 = .ok (.if_icmp .le 8, 3) := by decide +kernel
theorem dX5_bound_15 : decode cX5_bound 15 = .ok (.bipush (-6), 2) := by decide +kernel
theorem dX5_bound_17 : decode cX5_bound 17 = .ok (.goto 4, 3) := by decide +kernel
theorem dX5_bound_20 : decode cX5_bound 20 = .ok (.iconst 0, 1) := by decide +kernel
theorem dX5_bound_21 : decode cX5_bound 21 = .ok (.ireturn, 1) := by decide +kernel
theorem dX5_held_0 : decode cX5_held 0 = .ok (.iload_n 0, 1) := by decide +kernel
theorem dX5_held_1 : decode cX5_held 1 = .ok (.iload_n 1, 1) := by decide +kernel
theorem dX5_held_2 : decode cX5_held 2 = .ok (.if_icmp .ge 7, 3) := by decide +kernel
theorem dX5_held_5 : decode cX5_held 5 = .ok (.iload_n 1, 1) := by decide +kernel
theorem dX5_held_6 : decode cX5_held 6 = .ok (.goto 13, 3) := by decide +kernel
theorem dX5_held_9 : decode cX5_held 9 = .ok (.iload_n 0, 1) := by decide +kernel
theorem dX5_held_10 : decode cX5_held 10 = .ok (.iload_n 2, 1) := by decide +kernel
theorem dX5_held_11 : decode cX5_held 11 = .ok (.if_icmp .le 7, 3) := by decide +kernel
theorem dX5_held_14 : decode cX5_held 14 = .ok (.iload_n 2, 1) := by decide +kernel
theorem dX5_held_15 : decode cX5_held 15 = .ok (.goto 4, 3) := by decide +kernel
theorem dX5_held_18 : decode cX5_held 18 = .ok (.iload_n 0, 1) := by decide +kernel
theorem dX5_held_19 : decode cX5_held 19 = .ok (.ireturn, 1) := by decide +kernel
theorem dX5_has_0 : decode cX5_has 0 = .ok (.iload_n 0, 1) := by decide +kernel
theorem dX5_has_1 : decode cX5_has 1 = .ok (.iload_n 1, 1) := by decide +kernel
theorem dX5_has_2 : decode cX5_has 2 = .ok (.ishr, 1) := by decide +kernel
theorem dX5_has_3 : decode cX5_has 3 = .ok (.iconst 1, 1) := by decide +kernel
theorem dX5_has_4 : decode cX5_has 4 = .ok (.iand, 1) := by decide +kernel
theorem dX5_has_5 : decode cX5_has 5 = .ok (.iconst 1, 1) := by decide +kernel
theorem dX5_has_6 : decode cX5_has 6 = .ok (.if_icmp .ne 7, 3) := by decide +kernel
theorem dX5_has_9 : decode cX5_has 9 = .ok (.iconst 1, 1) := by decide +kernel
theorem dX5_has_10 : decode cX5_has 10 = .ok (.goto 4, 3) := by decide +kernel
theorem dX5_has_13 : decode cX5_has 13 = .ok (.iconst 0, 1) := by decide +kernel
theorem dX5_has_14 : decode cX5_has 14 = .ok (.ireturn, 1) := by decide +kernel
theorem dX5_bits_0 : decode cX5_bits 0 = .ok (.iconst 0, 1) := by decide +kernel
theorem dX5_bits_1 : decode cX5_bits 1 = .ok (.istore_n 1, 1) := by decide +kernel
theorem dX5_bits_2 : decode cX5_bits 2 = .ok (.iconst 0, 1) := by decide +kernel
theorem dX5_bits_3 : decode cX5_bits 3 = .ok (.istore_n 2, 1) := by decide +kernel
theorem dX5_bits_4 : decode cX5_bits 4 = .ok (.iload_n 2, 1) := by decide +kernel
theorem dX5_bits_5 : decode cX5_bits 5 = .ok (.bipush 31, 2) := by decide +kernel
theorem dX5_bits_7 : decode cX5_bits 7 = .ok (.if_icmp .ge 17, 3) := by decide +kernel
theorem dX5_bits_10 : decode cX5_bits 10 = .ok (.iload_n 1, 1) := by decide +kernel
theorem dX5_bits_11 : decode cX5_bits 11 = .ok (.iload_n 0, 1) := by decide +kernel
theorem dX5_bits_12 : decode cX5_bits 12 = .ok (.iload_n 2, 1) := by decide +kernel
theorem dX5_bits_13 : decode cX5_bits 13 = .ok (.ishr, 1) := by decide +kernel
theorem dX5_bits_14 : decode cX5_bits 14 = .ok (.iconst 1, 1) := by decide +kernel
theorem dX5_bits_15 : decode cX5_bits 15 = .ok (.iand, 1) := by decide +kernel
theorem dX5_bits_16 : decode cX5_bits 16 = .ok (.iadd, 1) := by decide +kernel
theorem dX5_bits_17 : decode cX5_bits 17 = .ok (.istore_n 1, 1) := by decide +kernel
theorem dX5_bits_18 : decode cX5_bits 18 = .ok (.iinc 2 1, 3) := by decide +kernel
theorem dX5_bits_21 : decode cX5_bits 21 = .ok (.goto (-17), 3) := by decide +kernel
theorem dX5_bits_24 : decode cX5_bits 24 = .ok (.iload_n 1, 1) := by decide +kernel
theorem dX5_bits_25 : decode cX5_bits 25 = .ok (.ireturn, 1) := by decide +kernel
theorem dX5_isShip_0 : decode cX5_isShip 0 = .ok (.iload_n 1, 1) := by decide +kernel
theorem dX5_isShip_1 : decode cX5_isShip 1 = .ok (.ifCond .lt 15, 3) := by decide +kernel
theorem dX5_isShip_4 : decode cX5_isShip 4 = .ok (.iload_n 1, 1) := by decide +kernel
theorem dX5_isShip_5 : decode cX5_isShip 5 = .ok (.aload_n 0, 1) := by decide +kernel
theorem dX5_isShip_6 : decode cX5_isShip 6 = .ok (.getfield 58, 3) := by decide +kernel
theorem dX5_isShip_9 : decode cX5_isShip 9 = .ok (.if_icmp .ge 7, 3) := by decide +kernel
theorem dX5_isShip_12 : decode cX5_isShip 12 = .ok (.iconst 1, 1) := by decide +kernel
theorem dX5_isShip_13 : decode cX5_isShip 13 = .ok (.goto 4, 3) := by decide +kernel
theorem dX5_isShip_16 : decode cX5_isShip 16 = .ok (.iconst 0, 1) := by decide +kernel
theorem dX5_isShip_17 : decode cX5_isShip 17 = .ok (.ireturn, 1) := by decide +kernel
theorem dX5_isMan_0 : decode cX5_isMan 0 = .ok (.iload_n 1, 1) := by decide +kernel
theorem dX5_isMan_1 : decode cX5_isMan 1 = .ok (.ifCond .lt 15, 3) := by decide +kernel
theorem dX5_isMan_4 : decode cX5_isMan 4 = .ok (.iload_n 1, 1) := by decide +kernel
theorem dX5_isMan_5 : decode cX5_isMan 5 = .ok (.aload_n 0, 1) := by decide +kernel
theorem dX5_isMan_6 : decode cX5_isMan 6 = .ok (.getfield 65, 3) := by decide +kernel
theorem dX5_isMan_9 : decode cX5_isMan 9 = .ok (.if_icmp .ge 7, 3) := by decide +kernel
theorem dX5_isMan_12 : decode cX5_isMan 12 = .ok (.iconst 1, 1) := by decide +kernel
theorem dX5_isMan_13 : decode cX5_isMan 13 = .ok (.goto 4, 3) := by decide +kernel
theorem dX5_isMan_16 : decode cX5_isMan 16 = .ok (.iconst 0, 1) := by decide +kernel
theorem dX5_isMan_17 : decode cX5_isMan 17 = .ok (.ireturn, 1) := by decide +kernel
set_option maxRecDepth 20000 in
theorem ggX5_letter_X5_bound : GoodIn wsX5_letter wsX5_bound := goodIn_r _ [6] (by decide +kernel) (by decide +kernel)
set_option maxRecDepth 20000 in
theorem gX5_letter_X5_bound : GoodIn wsX5_letter (va_wsS RX5 68 yX5_bound wsX5_bound) := goodIn_app (goodIn_of _ (by decide +kernel)) ggX5_letter_X5_bound
set_option maxRecDepth 20000 in
theorem ggX5_letter_X5_no : GoodIn wsX5_letter wsX5_no := goodIn_r _ [10, 11, 12, 13, 14, 15, 16, 17, 18, 19, 20, 21, 22, 23, 24, 25, 26, 27, 28, 29, 30, 31, 32, 33, 34, 35, 36, 37, 38] (by decide +kernel) (by decide +kernel)
set_option maxRecDepth 20000 in
theorem gX5_letter_X5_no : GoodIn wsX5_letter (wsV RX5 75 RX5 yX5_no wsX5_no) := goodIn_app (goodIn_of _ (by decide +kernel)) ggX5_letter_X5_no
theorem dX5_letter_0 : decode cX5_letter 0 = .ok (.iload_n 1, 1) := by decide +kernel
theorem dX5_letter_1 : decode cX5_letter 1 = .ok (.iconst 0, 1) := by decide +kernel
theorem dX5_letter_2 : decode cX5_letter 2 = .ok (.sipush 255, 3) := by decide +kernel
theorem dX5_letter_5 : decode cX5_letter 5 = .ok (.invokestatic 68, 3) := by decide +kernel
theorem dX5_letter_8 : decode cX5_letter 8 = .ok (.istore_n 2, 1) := by decide +kernel
theorem dX5_letter_9 : decode cX5_letter 9 = .ok (.iload_n 2, 1) := by decide +kernel
theorem dX5_letter_10 : decode cX5_letter 10 = .ok (.ifCond .ne 15, 3) := by decide +kernel
theorem dX5_letter_13 : decode cX5_letter 13 = .ok (.aload_n 0, 1) := by decide +kernel
theorem dX5_letter_14 : decode cX5_letter 14 = .ok (.getfield 72, 3) := by decide +kernel
theorem dX5_letter_17 : decode cX5_letter 17 = .ok (.bipush 96, 2) := by decide +kernel
theorem dX5_letter_19 : decode cX5_letter 19 = .ok (.if_icmp .ne 6, 3) := by decide +kernel
theorem dX5_letter_22 : decode cX5_letter 22 = .ok (.bipush (-6), 2) := by decide +kernel
theorem dX5_letter_24 : decode cX5_letter 24 = .ok (.istore_n 2, 1) := by decide +kernel
theorem dX5_letter_25 : decode cX5_letter 25 = .ok (.iload_n 2, 1) := by decide +kernel
theorem dX5_letter_26 : decode cX5_letter 26 = .ok (.ifCond .eq 9, 3) := by decide +kernel
theorem dX5_letter_29 : decode cX5_letter 29 = .ok (.aload_n 0, 1) := by decide +kernel
theorem dX5_letter_30 : decode cX5_letter 30 = .ok (.iload_n 2, 1) := by decide +kernel
theorem dX5_letter_31 : decode cX5_letter 31 = .ok (.invokevirtual 75, 3) := by decide +kernel
theorem dX5_letter_34 : decode cX5_letter 34 = .ok (.ireturn, 1) := by decide +kernel
theorem dX5_letter_35 : decode cX5_letter 35 = .ok (.aload_n 0, 1) := by decide +kernel
theorem dX5_letter_36 : decode cX5_letter 36 = .ok (.getfield 34, 3) := by decide +kernel
theorem dX5_letter_39 : decode cX5_letter 39 = .ok (.aload_n 0, 1) := by decide +kernel
theorem dX5_letter_40 : decode cX5_letter 40 = .ok (.getfield 72, 3) := by decide +kernel
theorem dX5_letter_43 : decode cX5_letter 43 = .ok (.iload_n 1, 1) := by decide +kernel
theorem dX5_letter_44 : decode cX5_letter 44 = .ok (.iastore, 1) := by decide +kernel
theorem dX5_letter_45 : decode cX5_letter 45 = .ok (.aload_n 0, 1) := by decide +kernel
theorem dX5_letter_46 : decode cX5_letter 46 = .ok (.dup, 1) := by decide +kernel
theorem dX5_letter_47 : decode cX5_letter 47 = .ok (.getfield 72, 3) := by decide +kernel
theorem dX5_letter_50 : decode cX5_letter 50 = .ok (.iconst 1, 1) := by decide +kernel
theorem dX5_letter_51 : decode cX5_letter 51 = .ok (.iadd, 1) := by decide +kernel
theorem dX5_letter_52 : decode cX5_letter 52 = .ok (.putfield 72, 3) := by decide +kernel
theorem dX5_letter_55 : decode cX5_letter 55 = .ok (.aload_n 0, 1) := by decide +kernel
theorem dX5_letter_56 : decode cX5_letter 56 = .ok (.getfield 72, 3) := by decide +kernel
theorem dX5_letter_59 : decode cX5_letter 59 = .ok (.ireturn, 1) := by decide +kernel
theorem dX5_next_0 : decode cX5_next 0 = .ok (.aload_n 0, 1) := by decide +kernel
theorem dX5_next_1 : decode cX5_next 1 = .ok (.getfield 79, 3) := by decide +kernel
theorem dX5_next_4 : decode cX5_next 4 = .ok (.aload_n 0, 1) := by decide +kernel
theorem dX5_next_5 : decode cX5_next 5 = .ok (.getfield 72, 3) := by decide +kernel
theorem dX5_next_8 : decode cX5_next 8 = .ok (.if_icmp .ge 15, 3) := by decide +kernel
theorem dX5_next_11 : decode cX5_next 11 = .ok (.aload_n 0, 1) := by decide +kernel
theorem dX5_next_12 : decode cX5_next 12 = .ok (.getfield 34, 3) := by decide +kernel
theorem dX5_next_15 : decode cX5_next 15 = .ok (.aload_n 0, 1) := by decide +kernel
theorem dX5_next_16 : decode cX5_next 16 = .ok (.getfield 79, 3) := by decide +kernel
theorem dX5_next_19 : decode cX5_next 19 = .ok (.iaload, 1) := by decide +kernel
theorem dX5_next_20 : decode cX5_next 20 = .ok (.goto 4, 3) := by decide +kernel
theorem dX5_next_23 : decode cX5_next 23 = .ok (.iconst (-1), 1) := by decide +kernel
theorem dX5_next_24 : decode cX5_next 24 = .ok (.ireturn, 1) := by decide +kernel
set_option maxRecDepth 20000 in
theorem ggX5_readsDigits_X5_next : GoodIn wsX5_readsDigits wsX5_next := goodIn_r _ [7, 1, 8, 9, 13, 14, 15, 16, 17, 18, 19, 20, 21, 22, 23, 24, 25, 26, 27, 28, 29, 30, 31, 32, 33, 34, 35, 36, 37, 38, 39] (by decide +kernel) (by decide +kernel)
set_option maxRecDepth 20000 in
theorem gX5_readsDigits_X5_next : GoodIn wsX5_readsDigits (wsV RX5 82 RX5 yX5_next wsX5_next) := goodIn_app (goodIn_of _ (by decide +kernel)) ggX5_readsDigits_X5_next
set_option maxRecDepth 20000 in
theorem ggX5_readsDigits_X5_isIn : GoodIn wsX5_readsDigits wsX5_isIn := goodIn_r _ [12] (by decide +kernel) (by decide +kernel)
set_option maxRecDepth 20000 in
theorem gX5_readsDigits_X5_isIn : GoodIn wsX5_readsDigits (va_wsS RX5 86 yX5_isIn wsX5_isIn) := goodIn_app (goodIn_of _ (by decide +kernel)) ggX5_readsDigits_X5_isIn
theorem dX5_readsDigits_0 : decode cX5_readsDigits 0 = .ok (.iconst 0, 1) := by decide +kernel
theorem dX5_readsDigits_1 : decode cX5_readsDigits 1 = .ok (.istore_n 3, 1) := by decide +kernel
theorem dX5_readsDigits_2 : decode cX5_readsDigits 2 = .ok (.iconst 0, 1) := by decide +kernel
theorem dX5_readsDigits_3 : decode cX5_readsDigits 3 = .ok (.istore 4, 2) := by decide +kernel
theorem dX5_readsDigits_5 : decode cX5_readsDigits 5 = .ok (.iload 4, 2) := by decide +kernel
theorem dX5_readsDigits_7 : decode cX5_readsDigits 7 = .ok (.iload_n 2, 1) := by decide +kernel
theorem dX5_readsDigits_8 : decode cX5_readsDigits 8 = .ok (.if_icmp .ge 48, 3) := by decide +kernel
theorem dX5_readsDigits_11 : decode cX5_readsDigits 11 = .ok (.aload_n 0, 1) := by decide +kernel
theorem dX5_readsDigits_12 : decode cX5_readsDigits 12 = .ok (.invokevirtual 82, 3) := by decide +kernel
theorem dX5_readsDigits_15 : decode cX5_readsDigits 15 = .ok (.bipush 48, 2) := by decide +kernel
theorem dX5_readsDigits_17 : decode cX5_readsDigits 17 = .ok (.bipush 57, 2) := by decide +kernel
theorem dX5_readsDigits_19 : decode cX5_readsDigits 19 = .ok (.invokestatic 86, 3) := by decide +kernel
theorem dX5_readsDigits_22 : decode cX5_readsDigits 22 = .ok (.ifCond .ne 5, 3) := by decide +kernel
theorem dX5_readsDigits_25 : decode cX5_readsDigits 25 = .ok (.iconst 0, 1) := by decide +kernel
theorem dX5_readsDigits_26 : decode cX5_readsDigits 26 = .ok (.ireturn, 1) := by decide +kernel
theorem dX5_readsDigits_27 : decode cX5_readsDigits 27 = .ok (.bipush 10, 2) := by decide +kernel
theorem dX5_readsDigits_29 : decode cX5_readsDigits 29 = .ok (.iload_n 3, 1) := by decide +kernel
theorem dX5_readsDigits_30 : decode cX5_readsDigits 30 = .ok (.imul, 1) := by decide +kernel
theorem dX5_readsDigits_31 : decode cX5_readsDigits 31 = .ok (.aload_n 0, 1) := by decide +kernel
theorem dX5_readsDigits_32 : decode cX5_readsDigits 32 = .ok (.invokevirtual 82, 3) := by decide +kernel
theorem dX5_readsDigits_35 : decode cX5_readsDigits 35 = .ok (.iadd, 1) := by decide +kernel
theorem dX5_readsDigits_36 : decode cX5_readsDigits 36 = .ok (.bipush 48, 2) := by decide +kernel
theorem dX5_readsDigits_38 : decode cX5_readsDigits 38 = .ok (.isub, 1) := by decide +kernel
theorem dX5_readsDigits_39 : decode cX5_readsDigits 39 = .ok (.istore_n 3, 1) := by decide +kernel
theorem dX5_readsDigits_40 : decode cX5_readsDigits 40 = .ok (.aload_n 0, 1) := by decide +kernel
theorem dX5_readsDigits_41 : decode cX5_readsDigits 41 = .ok (.dup, 1) := by decide +kernel
theorem dX5_readsDigits_42 : decode cX5_readsDigits 42 = .ok (.getfield 79, 3) := by decide +kernel
theorem dX5_readsDigits_45 : decode cX5_readsDigits 45 = .ok (.iconst 1, 1) := by decide +kernel
theorem dX5_readsDigits_46 : decode cX5_readsDigits 46 = .ok (.iadd, 1) := by decide +kernel
theorem dX5_readsDigits_47 : decode cX5_readsDigits 47 = .ok (.putfield 79, 3) := by decide +kernel
theorem dX5_readsDigits_50 : decode cX5_readsDigits 50 = .ok (.iinc 4 1, 3) := by decide +kernel
theorem dX5_readsDigits_53 : decode cX5_readsDigits 53 = .ok (.goto (-48), 3) := by decide +kernel
theorem dX5_readsDigits_56 : decode cX5_readsDigits 56 = .ok (.aload_n 0, 1) := by decide +kernel
theorem dX5_readsDigits_57 : decode cX5_readsDigits 57 = .ok (.getfield 43, 3) := by decide +kernel
theorem dX5_readsDigits_60 : decode cX5_readsDigits 60 = .ok (.iload_n 1, 1) := by decide +kernel
theorem dX5_readsDigits_61 : decode cX5_readsDigits 61 = .ok (.iload_n 3, 1) := by decide +kernel
theorem dX5_readsDigits_62 : decode cX5_readsDigits 62 = .ok (.iastore, 1) := by decide +kernel
theorem dX5_readsDigits_63 : decode cX5_readsDigits 63 = .ok (.iconst 1, 1) := by decide +kernel
theorem dX5_readsDigits_64 : decode cX5_readsDigits 64 = .ok (.ireturn, 1) := by decide +kernel
theorem dX5_kindOf_0 : decode cX5_kindOf 0 = .ok (.iload_n 0, 1) := by decide +kernel
theorem dX5_kindOf_1 : decode cX5_kindOf 1 = .ok (.bipush 104, 2) := by decide +kernel
theorem dX5_kindOf_3 : decode cX5_kindOf 3 = .ok (.if_icmp .ne 7, 3) := by decide +kernel
theorem dX5_kindOf_6 : decode cX5_kindOf 6 = .ok (.iconst 0, 1) := by decide +kernel
theorem dX5_kindOf_7 : decode cX5_kindOf 7 = .ok (.goto 54, 3) := by decide +kernel
theorem dX5_kindOf_10 : decode cX5_kindOf 10 = .ok (.iload_n 0, 1) := by decide +kernel
theorem dX5_kindOf_11 : decode cX5_kindOf 11 = .ok (.bipush 112, 2) := by decide +kernel
theorem dX5_kindOf_13 : decode cX5_kindOf 13 = .ok (.if_icmp .ne 7, 3) := by decide +kernel
theorem dX5_kindOf_16 : decode cX5_kindOf 16 = .ok (.iconst 1, 1) := by decide +kernel
theorem dX5_kindOf_17 : decode cX5_kindOf 17 = .ok (.goto 44, 3) := by decide +kernel
theorem dX5_kindOf_20 : decode cX5_kindOf 20 = .ok (.iload_n 0, 1) := by decide +kernel
theorem dX5_kindOf_21 : decode cX5_kindOf 21 = .ok (.bipush 109, 2) := by decide +kernel
theorem dX5_kindOf_23 : decode cX5_kindOf 23 = .ok (.if_icmp .ne 7, 3) := by decide +kernel
theorem dX5_kindOf_26 : decode cX5_kindOf 26 = .ok (.iconst 2, 1) := by decide +kernel
theorem dX5_kindOf_27 : decode cX5_kindOf 27 = .ok (.goto 34, 3) := by decide +kernel
theorem dX5_kindOf_30 : decode cX5_kindOf 30 = .ok (.iload_n 0, 1) := by decide +kernel
theorem dX5_kindOf_31 : decode cX5_kindOf 31 = .ok (.bipush 115, 2) := by decide +kernel
theorem dX5_kindOf_33 : decode cX5_kindOf 33 = .ok (.if_icmp .ne 7, 3) := by decide +kernel
theorem dX5_kindOf_36 : decode cX5_kindOf 36 = .ok (.iconst 3, 1) := by decide +kernel
theorem dX5_kindOf_37 : decode cX5_kindOf 37 = .ok (.goto 24, 3) := by decide +kernel
theorem dX5_kindOf_40 : decode cX5_kindOf 40 = .ok (.iload_n 0, 1) := by decide +kernel
theorem dX5_kindOf_41 : decode cX5_kindOf 41 = .ok (.bipush 97, 2) := by decide +kernel
theorem dX5_kindOf_43 : decode cX5_kindOf 43 = .ok (.if_icmp .ne 7, 3) := by decide +kernel
theorem dX5_kindOf_46 : decode cX5_kindOf 46 = .ok (.iconst 4, 1) := by decide +kernel
theorem dX5_kindOf_47 : decode cX5_kindOf 47 = .ok (.goto 14, 3) := by decide +kernel
theorem dX5_kindOf_50 : decode cX5_kindOf 50 = .ok (.iload_n 0, 1) := by decide +kernel
theorem dX5_kindOf_51 : decode cX5_kindOf 51 = .ok (.bipush 98, 2) := by decide +kernel
theorem dX5_kindOf_53 : decode cX5_kindOf 53 = .ok (.if_icmp .ne 7, 3) := by decide +kernel
theorem dX5_kindOf_56 : decode cX5_kindOf 56 = .ok (.iconst 5, 1) := by decide +kernel
theorem dX5_kindOf_57 : decode cX5_kindOf 57 = .ok (.goto 4, 3) := by decide +kernel
theorem dX5_kindOf_60 : decode cX5_kindOf 60 = .ok (.iconst (-1), 1) := by decide +kernel
theorem dX5_kindOf_61 : decode cX5_kindOf 61 = .ok (.ireturn, 1) := by decide +kernel
set_option maxRecDepth 20000 in
theorem ggX5_readsMan_X5_next : GoodIn wsX5_readsMan wsX5_next := goodIn_r _ [7, 2, 8, 9, 20, 21, 22, 23, 24, 25, 26, 27, 28, 29, 30, 31, 32, 33, 34, 35, 36, 37, 38, 39, 40, 41, 42, 43, 44, 45, 46] (by decide +kernel) (by decide +kernel)
set_option maxRecDepth 20000 in
theorem gX5_readsMan_X5_next : GoodIn wsX5_readsMan (wsV RX5 82 RX5 yX5_next wsX5_next) := goodIn_app (goodIn_of _ (by decide +kernel)) ggX5_readsMan_X5_next
set_option maxRecDepth 20000 in
theorem ggX5_readsMan_X5_kindOf : GoodIn wsX5_readsMan wsX5_kindOf := goodIn_r _ [12] (by decide +kernel) (by decide +kernel)
set_option maxRecDepth 20000 in
theorem gX5_readsMan_X5_kindOf : GoodIn wsX5_readsMan (va_wsS RX5 90 yX5_kindOf wsX5_kindOf) := goodIn_app (goodIn_of _ (by decide +kernel)) ggX5_readsMan_X5_kindOf
set_option maxRecDepth 20000 in
theorem ggX5_readsMan_X5_readsDigits : GoodIn wsX5_readsMan wsX5_readsDigits := goodIn_r _ [16, 2, 1, 3, 4, 5, 6, 7, 8, 9, 17, 18, 19, 20, 21, 22, 23, 24, 25, 26, 27, 28, 29, 30, 31, 32, 33, 34, 35, 36, 37, 38, 39, 40, 41, 42, 43, 44, 45, 46] (by decide +kernel) (by decide +kernel)
set_option maxRecDepth 20000 in
theorem gX5_readsMan_X5_readsDigits : GoodIn wsX5_readsMan (wsV RX5 93 RX5 yX5_readsDigits wsX5_readsDigits) := goodIn_app (goodIn_of _ (by decide +kernel)) ggX5_readsMan_X5_readsDigits
theorem dX5_readsMan_0 : decode cX5_readsMan 0 = .ok (.aload_n 0, 1) := by decide +kernel
theorem dX5_readsMan_1 : decode cX5_readsMan 1 = .ok (.getfield 43, 3) := by decide +kernel
theorem dX5_readsMan_4 : decode cX5_readsMan 4 = .ok (.iload_n 1, 1) := by decide +kernel
theorem dX5_readsMan_5 : decode cX5_readsMan 5 = .ok (.aload_n 0, 1) := by decide +kernel
theorem dX5_readsMan_6 : decode cX5_readsMan 6 = .ok (.invokevirtual 82, 3) := by decide +kernel
theorem dX5_readsMan_9 : decode cX5_readsMan 9 = .ok (.invokestatic 90, 3) := by decide +kernel
theorem dX5_readsMan_12 : decode cX5_readsMan 12 = .ok (.iastore, 1) := by decide +kernel
theorem dX5_readsMan_13 : decode cX5_readsMan 13 = .ok (.aload_n 0, 1) := by decide +kernel
theorem dX5_readsMan_14 : decode cX5_readsMan 14 = .ok (.getfield 43, 3) := by decide +kernel
theorem dX5_readsMan_17 : decode cX5_readsMan 17 = .ok (.iload_n 1, 1) := by decide +kernel
theorem dX5_readsMan_18 : decode cX5_readsMan 18 = .ok (.iaload, 1) := by decide +kernel
theorem dX5_readsMan_19 : decode cX5_readsMan 19 = .ok (.ifCond .ge 5, 3) := by decide +kernel
theorem dX5_readsMan_22 : decode cX5_readsMan 22 = .ok (.iconst 0, 1) := by decide +kernel
theorem dX5_readsMan_23 : decode cX5_readsMan 23 = .ok (.ireturn, 1) := by decide +kernel
theorem dX5_readsMan_24 : decode cX5_readsMan 24 = .ok (.aload_n 0, 1) := by decide +kernel
theorem dX5_readsMan_25 : decode cX5_readsMan 25 = .ok (.dup, 1) := by decide +kernel
theorem dX5_readsMan_26 : decode cX5_readsMan 26 = .ok (.getfield 79, 3) := by decide +kernel
theorem dX5_readsMan_29 : decode cX5_readsMan 29 = .ok (.iconst 1, 1) := by decide +kernel
theorem dX5_readsMan_30 : decode cX5_readsMan 30 = .ok (.iadd, 1) := by decide +kernel
theorem dX5_readsMan_31 : decode cX5_readsMan 31 = .ok (.putfield 79, 3) := by decide +kernel
theorem dX5_readsMan_34 : decode cX5_readsMan 34 = .ok (.aload_n 0, 1) := by decide +kernel
theorem dX5_readsMan_35 : decode cX5_readsMan 35 = .ok (.iload_n 1, 1) := by decide +kernel
theorem dX5_readsMan_36 : decode cX5_readsMan 36 = .ok (.iconst 1, 1) := by decide +kernel
theorem dX5_readsMan_37 : decode cX5_readsMan 37 = .ok (.iadd, 1) := by decide +kernel
theorem dX5_readsMan_38 : decode cX5_readsMan 38 = .ok (.iconst 1, 1) := by decide +kernel
theorem dX5_readsMan_39 : decode cX5_readsMan 39 = .ok (.invokevirtual 93, 3) := by decide +kernel
theorem dX5_readsMan_42 : decode cX5_readsMan 42 = .ok (.ifCond .eq 29, 3) := by decide +kernel
theorem dX5_readsMan_45 : decode cX5_readsMan 45 = .ok (.aload_n 0, 1) := by decide +kernel
theorem dX5_readsMan_46 : decode cX5_readsMan 46 = .ok (.iload_n 1, 1) := by decide +kernel
theorem dX5_readsMan_47 : decode cX5_readsMan 47 = .ok (.iconst 2, 1) := by decide +kernel
theorem dX5_readsMan_48 : decode cX5_readsMan 48 = .ok (.iadd, 1) := by decide +kernel
theorem dX5_readsMan_49 : decode cX5_readsMan 49 = .ok (.iconst 1, 1) := by decide +kernel
theorem dX5_readsMan_50 : decode cX5_readsMan 50 = .ok (.invokevirtual 93, 3) := by decide +kernel
theorem dX5_readsMan_53 : decode cX5_readsMan 53 = .ok (.ifCond .eq 18, 3) := by decide +kernel
theorem dX5_readsMan_56 : decode cX5_readsMan 56 = .ok (.aload_n 0, 1) := by decide +kernel
theorem dX5_readsMan_57 : decode cX5_readsMan 57 = .ok (.iload_n 1, 1) := by decide +kernel
theorem dX5_readsMan_58 : decode cX5_readsMan 58 = .ok (.iconst 3, 1) := by decide +kernel
theorem dX5_readsMan_59 : decode cX5_readsMan 59 = .ok (.iadd, 1) := by decide +kernel
theorem dX5_readsMan_60 : decode cX5_readsMan 60 = .ok (.iconst 1, 1) := by decide +kernel
theorem dX5_readsMan_61 : decode cX5_readsMan 61 = .ok (.invokevirtual 93, 3) := by decide +kernel
theorem dX5_readsMan_64 : decode cX5_readsMan 64 = .ok (.ifCond .eq 7, 3) := by decide +kernel
theorem dX5_readsMan_67 : decode cX5_readsMan 67 = .ok (.iconst 1, 1) := by decide +kernel
theorem dX5_readsMan_68 : decode cX5_readsMan 68 = .ok (.goto 4, 3) := by decide +kernel
theorem dX5_readsMan_71 : decode cX5_readsMan 71 = .ok (.iconst 0, 1) := by decide +kernel
theorem dX5_readsMan_72 : decode cX5_readsMan 72 = .ok (.ireturn, 1) := by decide +kernel
set_option maxRecDepth 20000 in
theorem ggX5_readsAll_X5_readsMan : GoodIn wsX5_readsAll wsX5_readsMan := goodIn_r _ [5, 6, 7, 8, 9, 10, 4, 11, 12, 13, 14, 15, 16, 17, 18, 19, 20, 21, 22, 23, 24, 25, 26, 27, 28, 29, 30, 31, 32, 33, 34, 35, 36, 37, 38, 39, 40, 41, 42, 43, 44, 45, 46, 47, 48, 49, 50] (by decide +kernel) (by decide +kernel)
set_option maxRecDepth 20000 in
theorem gX5_readsAll_X5_readsMan : GoodIn wsX5_readsAll (wsV RX5 97 RX5 yX5_readsMan wsX5_readsMan) := goodIn_app (goodIn_of _ (by decide +kernel)) ggX5_readsAll_X5_readsMan
set_option maxRecDepth 20000 in
theorem ggX5_readsAll_X5_readsDigits : GoodIn wsX5_readsAll wsX5_readsDigits := goodIn_r _ [20, 7, 6, 8, 9, 10, 4, 11, 12, 13, 21, 22, 23, 24, 25, 26, 27, 28, 29, 30, 31, 32, 33, 34, 35, 36, 37, 38, 39, 40, 41, 42, 43, 44, 45, 46, 47, 48, 49, 50] (by decide +kernel) (by decide +kernel)
set_option maxRecDepth 20000 in
theorem gX5_readsAll_X5_readsDigits : GoodIn wsX5_readsAll (wsV RX5 93 RX5 yX5_readsDigits wsX5_readsDigits) := goodIn_app (goodIn_of _ (by decide +kernel)) ggX5_readsAll_X5_readsDigits
theorem dX5_readsAll_0 : decode cX5_readsAll 0 = .ok (.iload_n 1, 1) := by decide +kernel
theorem dX5_readsAll_1 : decode cX5_readsAll 1 = .ok (.lookupswitch 63 #[(109, 43), (115, 49), (116, 49), (119, 56)], 43) := by decide +kernel
theorem dX5_readsAll_44 : decode cX5_readsAll 44 = .ok (.aload_n 0, 1) := by decide +kernel
theorem dX5_readsAll_45 : decode cX5_readsAll 45 = .ok (.iload_n 2, 1) := by decide +kernel
theorem dX5_readsAll_46 : decode cX5_readsAll 46 = .ok (.invokevirtual 97, 3) := by decide +kernel
theorem dX5_readsAll_49 : decode cX5_readsAll 49 = .ok (.ireturn, 1) := by decide +kernel
theorem dX5_readsAll_50 : decode cX5_readsAll 50 = .ok (.aload_n 0, 1) := by decide +kernel
theorem dX5_readsAll_51 : decode cX5_readsAll 51 = .ok (.iload_n 2, 1) := by decide +kernel
theorem dX5_readsAll_52 : decode cX5_readsAll 52 = .ok (.iconst 1, 1) := by decide +kernel
theorem dX5_readsAll_53 : decode cX5_readsAll 53 = .ok (.invokevirtual 93, 3) := by decide +kernel
theorem dX5_readsAll_56 : decode cX5_readsAll 56 = .ok (.ireturn, 1) := by decide +kernel
theorem dX5_readsAll_57 : decode cX5_readsAll 57 = .ok (.aload_n 0, 1) := by decide +kernel
theorem dX5_readsAll_58 : decode cX5_readsAll 58 = .ok (.iload_n 2, 1) := by decide +kernel
theorem dX5_readsAll_59 : decode cX5_readsAll 59 = .ok (.iconst 2, 1) := by decide +kernel
theorem dX5_readsAll_60 : decode cX5_readsAll 60 = .ok (.invokevirtual 93, 3) := by decide +kernel
theorem dX5_readsAll_63 : decode cX5_readsAll 63 = .ok (.ireturn, 1) := by decide +kernel
theorem dX5_readsAll_64 : decode cX5_readsAll 64 = .ok (.aload_n 0, 1) := by decide +kernel
theorem dX5_readsAll_65 : decode cX5_readsAll 65 = .ok (.iload_n 2, 1) := by decide +kernel
theorem dX5_readsAll_66 : decode cX5_readsAll 66 = .ok (.iconst 1, 1) := by decide +kernel
theorem dX5_readsAll_67 : decode cX5_readsAll 67 = .ok (.invokevirtual 93, 3) := by decide +kernel
theorem dX5_readsAll_70 : decode cX5_readsAll 70 = .ok (.ifCond .eq 18, 3) := by decide +kernel
theorem dX5_readsAll_73 : decode cX5_readsAll 73 = .ok (.aload_n 0, 1) := by decide +kernel
theorem dX5_readsAll_74 : decode cX5_readsAll 74 = .ok (.iload_n 2, 1) := by decide +kernel
theorem dX5_readsAll_75 : decode cX5_readsAll 75 = .ok (.iconst 1, 1) := by decide +kernel
theorem dX5_readsAll_76 : decode cX5_readsAll 76 = .ok (.iadd, 1) := by decide +kernel
theorem dX5_readsAll_77 : decode cX5_readsAll 77 = .ok (.iconst 1, 1) := by decide +kernel
theorem dX5_readsAll_78 : decode cX5_readsAll 78 = .ok (.invokevirtual 93, 3) := by decide +kernel
theorem dX5_readsAll_81 : decode cX5_readsAll 81 = .ok (.ifCond .eq 7, 3) := by decide +kernel
theorem dX5_readsAll_84 : decode cX5_readsAll 84 = .ok (.iconst 1, 1) := by decide +kernel
theorem dX5_readsAll_85 : decode cX5_readsAll 85 = .ok (.goto 4, 3) := by decide +kernel
theorem dX5_readsAll_88 : decode cX5_readsAll 88 = .ok (.iconst 0, 1) := by decide +kernel
theorem dX5_readsAll_89 : decode cX5_readsAll 89 = .ok (.ireturn, 1) := by decide +kernel
set_option maxRecDepth 20000 in
theorem ggX5_statement_X5_next : GoodIn wsX5_statement wsX5_next := goodIn_r _ [9, 4, 10, 11, 31, 32, 33, 34, 35, 36, 37, 38, 39, 40, 41, 42, 43, 44, 45, 46, 47, 48, 49, 50, 51, 52, 53, 54, 55, 56, 57] (by decide +kernel) (by decide +kernel)
set_option maxRecDepth 20000 in
theorem gX5_statement_X5_next : GoodIn wsX5_statement (wsV RX5 82 RX5 yX5_next wsX5_next) := goodIn_app (goodIn_of _ (by decide +kernel)) ggX5_statement_X5_next
set_option maxRecDepth 20000 in
theorem ggX5_statement_X5_readsAll : GoodIn wsX5_statement wsX5_readsAll := goodIn_r _ [15, 16, 17, 18, 8, 19, 20, 4, 5, 6, 7, 9, 10, 11, 21, 22, 23, 24, 25, 26, 27, 28, 29, 30, 31, 32, 33, 34, 35, 36, 37, 38, 39, 40, 41, 42, 43, 44, 45, 46, 47, 48, 49, 50, 51, 52, 53, 54, 55, 56, 57] (by decide +kernel) (by decide +kernel)
set_option maxRecDepth 20000 in
theorem gX5_statement_X5_readsAll : GoodIn wsX5_statement (wsV RX5 104 RX5 yX5_readsAll wsX5_readsAll) := goodIn_app (goodIn_of _ (by decide +kernel)) ggX5_statement_X5_readsAll
theorem dX5_statement_0 : decode cX5_statement 0 = .ok (.aload_n 0, 1) := by decide +kernel
theorem dX5_statement_1 : decode cX5_statement 1 = .ok (.invokevirtual 82, 3) := by decide +kernel
theorem dX5_statement_4 : decode cX5_statement 4 = .ok (.istore_n 1, 1) := by decide +kernel
theorem dX5_statement_5 : decode cX5_statement 5 = .ok (.iload_n 1, 1) := by decide +kernel
theorem dX5_statement_6 : decode cX5_statement 6 = .ok (.bipush 115, 2) := by decide +kernel
theorem dX5_statement_8 : decode cX5_statement 8 = .ok (.if_icmp .eq 35, 3) := by decide +kernel
theorem dX5_statement_11 : decode cX5_statement 11 = .ok (.iload_n 1, 1) := by decide +kernel
theorem dX5_statement_12 : decode cX5_statement 12 = .ok (.bipush 109, 2) := by decide +kernel
theorem dX5_statement_14 : decode cX5_statement 14 = .ok (.if_icmp .eq 29, 3) := by decide +kernel
theorem dX5_statement_17 : decode cX5_statement 17 = .ok (.iload_n 1, 1) := by decide +kernel
theorem dX5_statement_18 : decode cX5_statement 18 = .ok (.bipush 116, 2) := by decide +kernel
theorem dX5_statement_20 : decode cX5_statement 20 = .ok (.if_icmp .eq 23, 3) := by decide +kernel
theorem dX5_statement_23 : decode cX5_statement 23 = .ok (.iload_n 1, 1) := by decide +kernel
theorem dX5_statement_24 : decode cX5_statement 24 = .ok (.bipush 98, 2) := by decide +kernel
theorem dX5_statement_26 : decode cX5_statement 26 = .ok (.if_icmp .eq 17, 3) := by decide +kernel
theorem dX5_statement_29 : decode cX5_statement 29 = .ok (.iload_n 1, 1) := by decide +kernel
theorem dX5_statement_30 : decode cX5_statement 30 = .ok (.bipush 118, 2) := by decide +kernel
theorem dX5_statement_32 : decode cX5_statement 32 = .ok (.if_icmp .eq 11, 3) := by decide +kernel
theorem dX5_statement_35 : decode cX5_statement 35 = .ok (.iload_n 1, 1) := by decide +kernel
theorem dX5_statement_36 : decode cX5_statement 36 = .ok (.bipush 119, 2) := by decide +kernel
theorem dX5_statement_38 : decode cX5_statement 38 = .ok (.if_icmp .eq 5, 3) := by decide +kernel
theorem dX5_statement_41 : decode cX5_statement 41 = .ok (.iconst 0, 1) := by decide +kernel
theorem dX5_statement_42 : decode cX5_statement 42 = .ok (.ireturn, 1) := by decide +kernel
theorem dX5_statement_43 : decode cX5_statement 43 = .ok (.aload_n 0, 1) := by decide +kernel
theorem dX5_statement_44 : decode cX5_statement 44 = .ok (.getfield 37, 3) := by decide +kernel
theorem dX5_statement_47 : decode cX5_statement 47 = .ok (.aload_n 0, 1) := by decide +kernel
theorem dX5_statement_48 : decode cX5_statement 48 = .ok (.getfield 101, 3) := by decide +kernel
theorem dX5_statement_51 : decode cX5_statement 51 = .ok (.iload_n 1, 1) := by decide +kernel
theorem dX5_statement_52 : decode cX5_statement 52 = .ok (.iastore, 1) := by decide +kernel
theorem dX5_statement_53 : decode cX5_statement 53 = .ok (.aload_n 0, 1) := by decide +kernel
theorem dX5_statement_54 : decode cX5_statement 54 = .ok (.getfield 40, 3) := by decide +kernel
theorem dX5_statement_57 : decode cX5_statement 57 = .ok (.aload_n 0, 1) := by decide +kernel
theorem dX5_statement_58 : decode cX5_statement 58 = .ok (.getfield 101, 3) := by decide +kernel
theorem dX5_statement_61 : decode cX5_statement 61 = .ok (.aload_n 0, 1) := by decide +kernel
theorem dX5_statement_62 : decode cX5_statement 62 = .ok (.getfield 79, 3) := by decide +kernel
theorem dX5_statement_65 : decode cX5_statement 65 = .ok (.iastore, 1) := by decide +kernel
theorem dX5_statement_66 : decode cX5_statement 66 = .ok (.aload_n 0, 1) := by decide +kernel
theorem dX5_statement_67 : decode cX5_statement 67 = .ok (.dup, 1) := by decide +kernel
theorem dX5_statement_68 : decode cX5_statement 68 = .ok (.getfield 79, 3) := by decide +kernel
theorem dX5_statement_71 : decode cX5_statement 71 = .ok (.iconst 1, 1) := by decide +kernel
theorem dX5_statement_72 : decode cX5_statement 72 = .ok (.iadd, 1) := by decide +kernel
theorem dX5_statement_73 : decode cX5_statement 73 = .ok (.putfield 79, 3) := by decide +kernel
theorem dX5_statement_76 : decode cX5_statement 76 = .ok (.aload_n 0, 1) := by decide +kernel
theorem dX5_statement_77 : decode cX5_statement 77 = .ok (.iload_n 1, 1) := by decide +kernel
theorem dX5_statement_78 : decode cX5_statement 78 = .ok (.iconst 4, 1) := by decide +kernel
theorem dX5_statement_79 : decode cX5_statement 79 = .ok (.aload_n 0, 1) := by decide +kernel
theorem dX5_statement_80 : decode cX5_statement 80 = .ok (.getfield 101, 3) := by decide +kernel
theorem dX5_statement_83 : decode cX5_statement 83 = .ok (.imul, 1) := by decide +kernel
theorem dX5_statement_84 : decode cX5_statement 84 = .ok (.invokevirtual 104, 3) := by decide +kernel
theorem dX5_statement_87 : decode cX5_statement 87 = .ok (.ifCond .eq 12, 3) := by decide +kernel
theorem dX5_statement_90 : decode cX5_statement 90 = .ok (.aload_n 0, 1) := by decide +kernel
theorem dX5_statement_91 : decode cX5_statement 91 = .ok (.invokevirtual 82, 3) := by decide +kernel
theorem dX5_statement_94 : decode cX5_statement 94 = .ok (.bipush 59, 2) := by decide +kernel
theorem dX5_statement_96 : decode cX5_statement 96 = .ok (.if_icmp .eq 5, 3) := by decide +kernel
theorem dX5_statement_99 : decode cX5_statement 99 = .ok (.iconst 0, 1) := by decide +kernel
theorem dX5_statement_100 : decode cX5_statement 100 = .ok (.ireturn, 1) := by decide +kernel
theorem dX5_statement_101 : decode cX5_statement 101 = .ok (.aload_n 0, 1) := by decide +kernel
theorem dX5_statement_102 : decode cX5_statement 102 = .ok (.dup, 1) := by decide +kernel
theorem dX5_statement_103 : decode cX5_statement 103 = .ok (.getfield 79, 3) := by decide +kernel
theorem dX5_statement_106 : decode cX5_statement 106 = .ok (.iconst 1, 1) := by decide +kernel
theorem dX5_statement_107 : decode cX5_statement 107 = .ok (.iadd, 1) := by decide +kernel
theorem dX5_statement_108 : decode cX5_statement 108 = .ok (.putfield 79, 3) := by decide +kernel
theorem dX5_statement_111 : decode cX5_statement 111 = .ok (.iconst 1, 1) := by decide +kernel
theorem dX5_statement_112 : decode cX5_statement 112 = .ok (.ireturn, 1) := by decide +kernel
theorem dX5_comesShip_0 : decode cX5_comesShip 0 = .ok (.aload_n 0, 1) := by decide +kernel
theorem dX5_comesShip_1 : decode cX5_comesShip 1 = .ok (.getfield 58, 3) := by decide +kernel
theorem dX5_comesShip_4 : decode cX5_comesShip 4 = .ok (.iconst 5, 1) := by decide +kernel
theorem dX5_comesShip_5 : decode cX5_comesShip 5 = .ok (.if_icmp .ne 5, 3) := by decide +kernel
theorem dX5_comesShip_8 : decode cX5_comesShip 8 = .ok (.iconst 0, 1) := by decide +kernel
theorem dX5_comesShip_9 : decode cX5_comesShip 9 = .ok (.ireturn, 1) := by decide +kernel
theorem dX5_comesShip_10 : decode cX5_comesShip 10 = .ok (.aload_n 0, 1) := by decide +kernel
theorem dX5_comesShip_11 : decode cX5_comesShip 11 = .ok (.getfield 13, 3) := by decide +kernel
theorem dX5_comesShip_14 : decode cX5_comesShip 14 = .ok (.aload_n 0, 1) := by decide +kernel
theorem dX5_comesShip_15 : decode cX5_comesShip 15 = .ok (.getfield 58, 3) := by decide +kernel
theorem dX5_comesShip_18 : decode cX5_comesShip 18 = .ok (.iload_n 1, 1) := by decide +kernel
theorem dX5_comesShip_19 : decode cX5_comesShip 19 = .ok (.iastore, 1) := by decide +kernel
theorem dX5_comesShip_20 : decode cX5_comesShip 20 = .ok (.aload_n 0, 1) := by decide +kernel
theorem dX5_comesShip_21 : decode cX5_comesShip 21 = .ok (.getfield 16, 3) := by decide +kernel
theorem dX5_comesShip_24 : decode cX5_comesShip 24 = .ok (.aload_n 0, 1) := by decide +kernel
theorem dX5_comesShip_25 : decode cX5_comesShip 25 = .ok (.getfield 58, 3) := by decide +kernel
theorem dX5_comesShip_28 : decode cX5_comesShip 28 = .ok (.iconst 0, 1) := by decide +kernel
theorem dX5_comesShip_29 : decode cX5_comesShip 29 = .ok (.iastore, 1) := by decide +kernel
theorem dX5_comesShip_30 : decode cX5_comesShip 30 = .ok (.aload_n 0, 1) := by decide +kernel
theorem dX5_comesShip_31 : decode cX5_comesShip 31 = .ok (.getfield 19, 3) := by decide +kernel
theorem dX5_comesShip_34 : decode cX5_comesShip 34 = .ok (.aload_n 0, 1) := by decide +kernel
theorem dX5_comesShip_35 : decode cX5_comesShip 35 = .ok (.getfield 58, 3) := by decide +kernel
theorem dX5_comesShip_38 : decode cX5_comesShip 38 = .ok (.iconst 0, 1) := by decide +kernel
theorem dX5_comesShip_39 : decode cX5_comesShip 39 = .ok (.iastore, 1) := by decide +kernel
theorem dX5_comesShip_40 : decode cX5_comesShip 40 = .ok (.aload_n 0, 1) := by decide +kernel
theorem dX5_comesShip_41 : decode cX5_comesShip 41 = .ok (.dup, 1) := by decide +kernel
theorem dX5_comesShip_42 : decode cX5_comesShip 42 = .ok (.getfield 58, 3) := by decide +kernel
theorem dX5_comesShip_45 : decode cX5_comesShip 45 = .ok (.iconst 1, 1) := by decide +kernel
theorem dX5_comesShip_46 : decode cX5_comesShip 46 = .ok (.iadd, 1) := by decide +kernel
theorem dX5_comesShip_47 : decode cX5_comesShip 47 = .ok (.putfield 58, 3) := by decide +kernel
theorem dX5_comesShip_50 : decode cX5_comesShip 50 = .ok (.iconst 1, 1) := by decide +kernel
theorem dX5_comesShip_51 : decode cX5_comesShip 51 = .ok (.ireturn, 1) := by decide +kernel
set_option maxRecDepth 20000 in
theorem ggX5_comesMan_X5_isShip : GoodIn wsX5_comesMan wsX5_isShip := goodIn_r _ [11, 12, 13, 14, 15, 16, 17, 18, 19, 20, 21, 22, 23, 24, 25, 26, 27, 28, 29, 30, 31, 32, 33, 34, 35, 36, 37, 38, 39] (by decide +kernel) (by decide +kernel)
set_option maxRecDepth 20000 in
theorem gX5_comesMan_X5_isShip : GoodIn wsX5_comesMan (wsV RX5 107 RX5 yX5_isShip wsX5_isShip) := goodIn_app (goodIn_of _ (by decide +kernel)) ggX5_comesMan_X5_isShip
theorem dX5_comesMan_0 : decode cX5_comesMan 0 = .ok (.aload_n 0, 1) := by decide +kernel
theorem dX5_comesMan_1 : decode cX5_comesMan 1 = .ok (.aload_n 0, 1) := by decide +kernel
theorem dX5_comesMan_2 : decode cX5_comesMan 2 = .ok (.getfield 43, 3) := by decide +kernel
theorem dX5_comesMan_5 : decode cX5_comesMan 5 = .ok (.iload_n 1, 1) := by decide +kernel
theorem dX5_comesMan_6 : decode cX5_comesMan 6 = .ok (.iconst 3, 1) := by decide +kernel
theorem dX5_comesMan_7 : decode cX5_comesMan 7 = .ok (.iadd, 1) := by decide +kernel
theorem dX5_comesMan_8 : decode cX5_comesMan 8 = .ok (.iaload, 1) := by decide +kernel
theorem dX5_comesMan_9 : decode cX5_comesMan 9 = .ok (.invokevirtual 107, 3) := by decide +kernel
theorem dX5_comesMan_12 : decode cX5_comesMan 12 = .ok (.ifCond .eq 12, 3) := by decide +kernel
theorem dX5_comesMan_15 : decode cX5_comesMan 15 = .ok (.aload_n 0, 1) := by decide +kernel
theorem dX5_comesMan_16 : decode cX5_comesMan 16 = .ok (.getfield 65, 3) := by decide +kernel
theorem dX5_comesMan_19 : decode cX5_comesMan 19 = .ok (.bipush 8, 2) := by decide +kernel
theorem dX5_comesMan_21 : decode cX5_comesMan 21 = .ok (.if_icmp .ne 5, 3) := by decide +kernel
theorem dX5_comesMan_24 : decode cX5_comesMan 24 = .ok (.iconst 0, 1) := by decide +kernel
theorem dX5_comesMan_25 : decode cX5_comesMan 25 = .ok (.ireturn, 1) := by decide +kernel
theorem dX5_comesMan_26 : decode cX5_comesMan 26 = .ok (.aload_n 0, 1) := by decide +kernel
theorem dX5_comesMan_27 : decode cX5_comesMan 27 = .ok (.getfield 22, 3) := by decide +kernel
theorem dX5_comesMan_30 : decode cX5_comesMan 30 = .ok (.aload_n 0, 1) := by decide +kernel
theorem dX5_comesMan_31 : decode cX5_comesMan 31 = .ok (.getfield 65, 3) := by decide +kernel
theorem dX5_comesMan_34 : decode cX5_comesMan 34 = .ok (.aload_n 0, 1) := by decide +kernel
theorem dX5_comesMan_35 : decode cX5_comesMan 35 = .ok (.getfield 43, 3) := by decide +kernel
theorem dX5_comesMan_38 : decode cX5_comesMan 38 = .ok (.iload_n 1, 1) := by decide +kernel
theorem dX5_comesMan_39 : decode cX5_comesMan 39 = .ok (.iaload, 1) := by decide +kernel
theorem dX5_comesMan_40 : decode cX5_comesMan 40 = .ok (.iastore, 1) := by decide +kernel
theorem dX5_comesMan_41 : decode cX5_comesMan 41 = .ok (.aload_n 0, 1) := by decide +kernel
theorem dX5_comesMan_42 : decode cX5_comesMan 42 = .ok (.getfield 25, 3) := by decide +kernel
theorem dX5_comesMan_45 : decode cX5_comesMan 45 = .ok (.aload_n 0, 1) := by decide +kernel
theorem dX5_comesMan_46 : decode cX5_comesMan 46 = .ok (.getfield 65, 3) := by decide +kernel
theorem dX5_comesMan_49 : decode cX5_comesMan 49 = .ok (.aload_n 0, 1) := by decide +kernel
theorem dX5_comesMan_50 : decode cX5_comesMan 50 = .ok (.getfield 43, 3) := by decide +kernel
theorem dX5_comesMan_53 : decode cX5_comesMan 53 = .ok (.iload_n 1, 1) := by decide +kernel
theorem dX5_comesMan_54 : decode cX5_comesMan 54 = .ok (.iconst 1, 1) := by decide +kernel
theorem dX5_comesMan_55 : decode cX5_comesMan 55 = .ok (.iadd, 1) := by decide +kernel
theorem dX5_comesMan_56 : decode cX5_comesMan 56 = .ok (.iaload, 1) := by decide +kernel
theorem dX5_comesMan_57 : decode cX5_comesMan 57 = .ok (.iastore, 1) := by decide +kernel
theorem dX5_comesMan_58 : decode cX5_comesMan 58 = .ok (.aload_n 0, 1) := by decide +kernel
theorem dX5_comesMan_59 : decode cX5_comesMan 59 = .ok (.getfield 28, 3) := by decide +kernel
theorem dX5_comesMan_62 : decode cX5_comesMan 62 = .ok (.aload_n 0, 1) := by decide +kernel
theorem dX5_comesMan_63 : decode cX5_comesMan 63 = .ok (.getfield 65, 3) := by decide +kernel
theorem dX5_comesMan_66 : decode cX5_comesMan 66 = .ok (.aload_n 0, 1) := by decide +kernel
theorem dX5_comesMan_67 : decode cX5_comesMan 67 = .ok (.getfield 43, 3) := by decide +kernel
theorem dX5_comesMan_70 : decode cX5_comesMan 70 = .ok (.iload_n 1, 1) := by decide +kernel
theorem dX5_comesMan_71 : decode cX5_comesMan 71 = .ok (.iconst 2, 1) := by decide +kernel
theorem dX5_comesMan_72 : decode cX5_comesMan 72 = .ok (.iadd, 1) := by decide +kernel
theorem dX5_comesMan_73 : decode cX5_comesMan 73 = .ok (.iaload, 1) := by decide +kernel
theorem dX5_comesMan_74 : decode cX5_comesMan 74 = .ok (.iastore, 1) := by decide +kernel
theorem dX5_comesMan_75 : decode cX5_comesMan 75 = .ok (.aload_n 0, 1) := by decide +kernel
theorem dX5_comesMan_76 : decode cX5_comesMan 76 = .ok (.getfield 31, 3) := by decide +kernel
theorem dX5_comesMan_79 : decode cX5_comesMan 79 = .ok (.aload_n 0, 1) := by decide +kernel
theorem dX5_comesMan_80 : decode cX5_comesMan 80 = .ok (.getfield 65, 3) := by decide +kernel
theorem dX5_comesMan_83 : decode cX5_comesMan 83 = .ok (.aload_n 0, 1) := by decide +kernel
theorem dX5_comesMan_84 : decode cX5_comesMan 84 = .ok (.getfield 43, 3) := by decide +kernel
theorem dX5_comesMan_87 : decode cX5_comesMan 87 = .ok (.iload_n 1, 1) := by decide +kernel
theorem dX5_comesMan_88 : decode cX5_comesMan 88 = .ok (.iconst 3, 1) := by decide +kernel
theorem dX5_comesMan_89 : decode cX5_comesMan 89 = .ok (.iadd, 1) := by decide +kernel
theorem dX5_comesMan_90 : decode cX5_comesMan 90 = .ok (.iaload, 1) := by decide +kernel
theorem dX5_comesMan_91 : decode cX5_comesMan 91 = .ok (.iastore, 1) := by decide +kernel
theorem dX5_comesMan_92 : decode cX5_comesMan 92 = .ok (.aload_n 0, 1) := by decide +kernel
theorem dX5_comesMan_93 : decode cX5_comesMan 93 = .ok (.dup, 1) := by decide +kernel
theorem dX5_comesMan_94 : decode cX5_comesMan 94 = .ok (.getfield 65, 3) := by decide +kernel
theorem dX5_comesMan_97 : decode cX5_comesMan 97 = .ok (.iconst 1, 1) := by decide +kernel
theorem dX5_comesMan_98 : decode cX5_comesMan 98 = .ok (.iadd, 1) := by decide +kernel
theorem dX5_comesMan_99 : decode cX5_comesMan 99 = .ok (.putfield 65, 3) := by decide +kernel
theorem dX5_comesMan_102 : decode cX5_comesMan 102 = .ok (.iconst 1, 1) := by decide +kernel
theorem dX5_comesMan_103 : decode cX5_comesMan 103 = .ok (.ireturn, 1) := by decide +kernel
set_option maxRecDepth 20000 in
theorem ggX5_comesTides_X5_isIn : GoodIn wsX5_comesTides wsX5_isIn := goodIn_r _ [5] (by decide +kernel) (by decide +kernel)
set_option maxRecDepth 20000 in
theorem gX5_comesTides_X5_isIn : GoodIn wsX5_comesTides (va_wsS RX5 86 yX5_isIn wsX5_isIn) := goodIn_app (goodIn_of _ (by decide +kernel)) ggX5_comesTides_X5_isIn
set_option maxRecDepth 20000 in
theorem ggX5_comesTides_X5_goes : GoodIn wsX5_comesTides wsX5_goes := goodIn_r _ [9, 10, 11, 12, 4, 13, 1, 14, 15, 16, 17, 18, 19, 20, 21, 22, 23, 24, 25, 26, 27, 28, 29, 30, 31, 32, 33, 34, 35, 36, 37, 38, 39, 40, 41, 42, 43, 44, 45, 46, 47, 48, 49, 50, 51, 52, 53] (by decide +kernel) (by decide +kernel)
set_option maxRecDepth 20000 in
theorem gX5_comesTides_X5_goes : GoodIn wsX5_comesTides (wsV RX5 113 RX5 yX5_goes wsX5_goes) := goodIn_app (goodIn_of _ (by decide +kernel)) ggX5_comesTides_X5_goes
theorem dX5_comesTides_0 : decode cX5_comesTides 0 = .ok (.iload_n 1, 1) := by decide +kernel
theorem dX5_comesTides_1 : decode cX5_comesTides 1 = .ok (.iconst 1, 1) := by decide +kernel
theorem dX5_comesTides_2 : decode cX5_comesTides 2 = .ok (.bipush 60, 2) := by decide +kernel
theorem dX5_comesTides_4 : decode cX5_comesTides 4 = .ok (.invokestatic 86, 3) := by decide +kernel
theorem dX5_comesTides_7 : decode cX5_comesTides 7 = .ok (.ifCond .eq 15, 3) := by decide +kernel
theorem dX5_comesTides_10 : decode cX5_comesTides 10 = .ok (.aload_n 0, 1) := by decide +kernel
theorem dX5_comesTides_11 : decode cX5_comesTides 11 = .ok (.getfield 110, 3) := by decide +kernel
theorem dX5_comesTides_14 : decode cX5_comesTides 14 = .ok (.iload_n 1, 1) := by decide +kernel
theorem dX5_comesTides_15 : decode cX5_comesTides 15 = .ok (.iadd, 1) := by decide +kernel
theorem dX5_comesTides_16 : decode cX5_comesTides 16 = .ok (.sipush 999, 3) := by decide +kernel
theorem dX5_comesTides_19 : decode cX5_comesTides 19 = .ok (.if_icmp .le 5, 3) := by decide +kernel
theorem dX5_comesTides_22 : decode cX5_comesTides 22 = .ok (.iconst 0, 1) := by decide +kernel
theorem dX5_comesTides_23 : decode cX5_comesTides 23 = .ok (.ireturn, 1) := by decide +kernel
theorem dX5_comesTides_24 : decode cX5_comesTides 24 = .ok (.aload_n 0, 1) := by decide +kernel
theorem dX5_comesTides_25 : decode cX5_comesTides 25 = .ok (.iload_n 1, 1) := by decide +kernel
theorem dX5_comesTides_26 : decode cX5_comesTides 26 = .ok (.invokevirtual 113, 3) := by decide +kernel
theorem dX5_comesTides_29 : decode cX5_comesTides 29 = .ok (.iconst 1, 1) := by decide +kernel
theorem dX5_comesTides_30 : decode cX5_comesTides 30 = .ok (.ireturn, 1) := by decide +kernel
set_option maxRecDepth 20000 in
theorem ggX5_comes_X5_comesShip : GoodIn wsX5_comes wsX5_comesShip := goodIn_r _ [9, 10, 11, 12, 13, 81, 82, 83, 84, 85, 86, 87, 88, 89, 90, 91, 92, 93, 94, 95, 96, 97, 98, 99, 100, 101, 102, 103, 104, 105, 106, 107] (by decide +kernel) (by decide +kernel)
set_option maxRecDepth 20000 in
theorem gX5_comes_X5_comesShip : GoodIn wsX5_comes (wsV RX5 117 RX5 yX5_comesShip wsX5_comesShip) := goodIn_app (goodIn_of _ (by decide +kernel)) ggX5_comes_X5_comesShip
set_option maxRecDepth 20000 in
theorem ggX5_comes_X5_comesMan : GoodIn wsX5_comes wsX5_comesMan := goodIn_r _ [17, 2, 18, 19, 20, 4, 3, 21, 22, 23, 8, 24, 10, 81, 82, 83, 84, 85, 86, 87, 88, 89, 90, 91, 92, 93, 94, 95, 96, 97, 98, 99, 100, 101, 102, 103, 104, 105, 106, 107] (by decide +kernel) (by decide +kernel)
set_option maxRecDepth 20000 in
theorem gX5_comes_X5_comesMan : GoodIn wsX5_comes (wsV RX5 120 RX5 yX5_comesMan wsX5_comesMan) := goodIn_app (goodIn_of _ (by decide +kernel)) ggX5_comes_X5_comesMan
set_option maxRecDepth 20000 in
theorem ggX5_comes_X5_canTell : GoodIn wsX5_comes wsX5_canTell := goodIn_r _ [28, 4, 13, 3, 29, 30, 31, 8, 32, 18, 81, 82, 83, 84, 85, 86, 87, 88, 89, 90, 91, 92, 93, 94, 95, 96, 97, 98, 99, 100, 101, 102, 103, 104, 105, 106, 107] (by decide +kernel) (by decide +kernel)
set_option maxRecDepth 20000 in
theorem gX5_comes_X5_canTell : GoodIn wsX5_comes (wsV RX5 123 RX5 yX5_canTell wsX5_canTell) := goodIn_app (goodIn_of _ (by decide +kernel)) ggX5_comes_X5_canTell
set_option maxRecDepth 20000 in
theorem ggX5_comes_X5_tellsOne : GoodIn wsX5_comes wsX5_tellsOne := goodIn_r _ [36, 4, 37, 10, 13, 12, 3, 38, 39, 8, 40, 41, 42, 43, 44, 45, 46, 47, 48, 49, 20, 19, 50, 51, 52, 53, 54, 55, 56, 57, 58, 59, 60, 61, 11, 81, 82, 83, 84, 85, 86, 87, 88, 89, 90, 91, 92, 93, 94, 95, 96, 97, 98, 99, 100, 101, 102, 103, 104, 105, 106, 107] (by decide +kernel) (by decide +kernel)
set_option maxRecDepth 20000 in
theorem gX5_comes_X5_tellsOne : GoodIn wsX5_comes (wsV RX5 126 RX5 yX5_tellsOne wsX5_tellsOne) := goodIn_app (goodIn_of _ (by decide +kernel)) ggX5_comes_X5_tellsOne
set_option maxRecDepth 20000 in
theorem ggX5_comes_X5_isMan : GoodIn wsX5_comes wsX5_isMan := goodIn_r _ [32, 18, 81, 82, 83, 84, 85, 86, 87, 88, 89, 90, 91, 92, 93, 94, 95, 96, 97, 98, 99, 100, 101, 102, 103, 104, 105, 106, 107] (by decide +kernel) (by decide +kernel)
set_option maxRecDepth 20000 in
theorem gX5_comes_X5_isMan : GoodIn wsX5_comes (wsV RX5 129 RX5 yX5_isMan wsX5_isMan) := goodIn_app (goodIn_of _ (by decide +kernel)) ggX5_comes_X5_isMan
set_option maxRecDepth 20000 in
theorem ggX5_comes_X5_isShip : GoodIn wsX5_comes wsX5_isShip := goodIn_r _ [24, 10, 81, 82, 83, 84, 85, 86, 87, 88, 89, 90, 91, 92, 93, 94, 95, 96, 97, 98, 99, 100, 101, 102, 103, 104, 105, 106, 107] (by decide +kernel) (by decide +kernel)
set_option maxRecDepth 20000 in
theorem gX5_comes_X5_isShip : GoodIn wsX5_comes (wsV RX5 107 RX5 yX5_isShip wsX5_isShip) := goodIn_app (goodIn_of _ (by decide +kernel)) ggX5_comes_X5_isShip
set_option maxRecDepth 20000 in
theorem ggX5_comes_X5_comesTides : GoodIn wsX5_comes wsX5_comesTides := goodIn_r _ [65, 45, 66, 67, 8, 68, 69, 70, 71, 72, 73, 74, 75, 76, 18, 13, 3, 4, 10, 77, 78, 79, 80, 19, 38, 39, 40, 81, 82, 83, 84, 85, 86, 87, 88, 89, 90, 91, 92, 93, 94, 95, 96, 97, 98, 99, 100, 101, 102, 103, 104, 105, 106, 107] (by decide +kernel) (by decide +kernel)
set_option maxRecDepth 20000 in
theorem gX5_comes_X5_comesTides : GoodIn wsX5_comes (wsV RX5 132 RX5 yX5_comesTides wsX5_comesTides) := goodIn_app (goodIn_of _ (by decide +kernel)) ggX5_comes_X5_comesTides
theorem dX5_comes_0 : decode cX5_comes 0 = .ok (.iconst 4, 1) := by decide +kernel
theorem dX5_comes_1 : decode cX5_comes 1 = .ok (.iload_n 1, 1) := by decide +kernel
theorem dX5_comes_2 : decode cX5_comes 2 = .ok (.imul, 1) := by decide +kernel
theorem dX5_comes_3 : decode cX5_comes 3 = .ok (.istore_n 2, 1) := by decide +kernel
theorem dX5_comes_4 : decode cX5_comes 4 = .ok (.aload_n 0, 1) := by decide +kernel
theorem dX5_comes_5 : decode cX5_comes 5 = .ok (.getfield 37, 3) := by decide +kernel
theorem dX5_comes_8 : decode cX5_comes 8 = .ok (.iload_n 1, 1) := by decide +kernel
theorem dX5_comes_9 : decode cX5_comes 9 = .ok (.iaload, 1) := by decide +kernel
theorem dX5_comes_10 : decode cX5_comes 10 = .ok (.lookupswitch 182 #[(98, 95), (109, 61), (115, 50), (116, 67), (118, 146)], 50) := by decide +kernel
theorem dX5_comes_60 : decode cX5_comes 60 = .ok (.aload_n 0, 1) := by decide +kernel
theorem dX5_comes_61 : decode cX5_comes 61 = .ok (.aload_n 0, 1) := by decide +kernel
theorem dX5_comes_62 : decode cX5_comes 62 = .ok (.getfield 43, 3) := by decide +kernel
theorem dX5_comes_65 : decode cX5_comes 65 = .ok (.iload_n 2, 1) := by decide +kernel
theorem dX5_comes_66 : decode cX5_comes 66 = .ok (.iaload, 1) := by decide +kernel
theorem dX5_comes_67 : decode cX5_comes 67 = .ok (.invokevirtual 117, 3) := by decide +kernel
theorem dX5_comes_70 : decode cX5_comes 70 = .ok (.ireturn, 1) := by decide +kernel
theorem dX5_comes_71 : decode cX5_comes 71 = .ok (.aload_n 0, 1) := by decide +kernel
theorem dX5_comes_72 : decode cX5_comes 72 = .ok (.iload_n 2, 1) := by decide +kernel
theorem dX5_comes_73 : decode cX5_comes 73 = .ok (.invokevirtual 120, 3) := by decide +kernel
theorem dX5_comes_76 : decode cX5_comes 76 = .ok (.ireturn, 1) := by decide +kernel
theorem dX5_comes_77 : decode cX5_comes 77 = .ok (.aload_n 0, 1) := by decide +kernel
theorem dX5_comes_78 : decode cX5_comes 78 = .ok (.aload_n 0, 1) := by decide +kernel
theorem dX5_comes_79 : decode cX5_comes 79 = .ok (.getfield 43, 3) := by decide +kernel
theorem dX5_comes_82 : decode cX5_comes 82 = .ok (.iload_n 2, 1) := by decide +kernel
theorem dX5_comes_83 : decode cX5_comes 83 = .ok (.iaload, 1) := by decide +kernel
theorem dX5_comes_84 : decode cX5_comes 84 = .ok (.invokevirtual 123, 3) := by decide +kernel
theorem dX5_comes_87 : decode cX5_comes 87 = .ok (.ifCond .ne 5, 3) := by decide +kernel
theorem dX5_comes_90 : decode cX5_comes 90 = .ok (.iconst 0, 1) := by decide +kernel
theorem dX5_comes_91 : decode cX5_comes 91 = .ok (.ireturn, 1) := by decide +kernel
theorem dX5_comes_92 : decode cX5_comes 92 = .ok (.aload_n 0, 1) := by decide +kernel
theorem dX5_comes_93 : decode cX5_comes 93 = .ok (.aload_n 0, 1) := by decide +kernel
theorem dX5_comes_94 : decode cX5_comes 94 = .ok (.getfield 43, 3) := by decide +kernel
theorem dX5_comes_97 : decode cX5_comes 97 = .ok (.iload_n 2, 1) := by decide +kernel
theorem dX5_comes_98 : decode cX5_comes 98 = .ok (.iaload, 1) := by decide +kernel
theorem dX5_comes_99 : decode cX5_comes 99 = .ok (.invokevirtual 126, 3) := by decide +kernel
theorem dX5_comes_102 : decode cX5_comes 102 = .ok (.pop, 1) := by decide +kernel
theorem dX5_comes_103 : decode cX5_comes 103 = .ok (.iconst 1, 1) := by decide +kernel
theorem dX5_comes_104 : decode cX5_comes 104 = .ok (.ireturn, 1) := by decide +kernel
theorem dX5_comes_105 : decode cX5_comes 105 = .ok (.aload_n 0, 1) := by decide +kernel
theorem dX5_comes_106 : decode cX5_comes 106 = .ok (.aload_n 0, 1) := by decide +kernel
theorem dX5_comes_107 : decode cX5_comes 107 = .ok (.getfield 43, 3) := by decide +kernel
theorem dX5_comes_110 : decode cX5_comes 110 = .ok (.iload_n 2, 1) := by decide +kernel
theorem dX5_comes_111 : decode cX5_comes 111 = .ok (.iaload, 1) := by decide +kernel
theorem dX5_comes_112 : decode cX5_comes 112 = .ok (.invokevirtual 129, 3) := by decide +kernel
theorem dX5_comes_115 : decode cX5_comes 115 = .ok (.ifCond .eq 18, 3) := by decide +kernel
theorem dX5_comes_118 : decode cX5_comes 118 = .ok (.aload_n 0, 1) := by decide +kernel
theorem dX5_comes_119 : decode cX5_comes 119 = .ok (.aload_n 0, 1) := by decide +kernel
theorem dX5_comes_120 : decode cX5_comes 120 = .ok (.getfield 43, 3) := by decide +kernel
theorem dX5_comes_123 : decode cX5_comes 123 = .ok (.iload_n 2, 1) := by decide +kernel
theorem dX5_comes_124 : decode cX5_comes 124 = .ok (.iconst 1, 1) := by decide +kernel
theorem dX5_comes_125 : decode cX5_comes 125 = .ok (.iadd, 1) := by decide +kernel
theorem dX5_comes_126 : decode cX5_comes 126 = .ok (.iaload, 1) := by decide +kernel
theorem dX5_comes_127 : decode cX5_comes 127 = .ok (.invokevirtual 107, 3) := by decide +kernel
theorem dX5_comes_130 : decode cX5_comes 130 = .ok (.ifCond .ne 5, 3) := by decide +kernel
theorem dX5_comes_133 : decode cX5_comes 133 = .ok (.iconst 0, 1) := by decide +kernel
theorem dX5_comes_134 : decode cX5_comes 134 = .ok (.ireturn, 1) := by decide +kernel
theorem dX5_comes_135 : decode cX5_comes 135 = .ok (.aload_n 0, 1) := by decide +kernel
theorem dX5_comes_136 : decode cX5_comes 136 = .ok (.getfield 31, 3) := by decide +kernel
theorem dX5_comes_139 : decode cX5_comes 139 = .ok (.aload_n 0, 1) := by decide +kernel
theorem dX5_comes_140 : decode cX5_comes 140 = .ok (.getfield 43, 3) := by decide +kernel
theorem dX5_comes_143 : decode cX5_comes 143 = .ok (.iload_n 2, 1) := by decide +kernel
theorem dX5_comes_144 : decode cX5_comes 144 = .ok (.iaload, 1) := by decide +kernel
theorem dX5_comes_145 : decode cX5_comes 145 = .ok (.aload_n 0, 1) := by decide +kernel
theorem dX5_comes_146 : decode cX5_comes 146 = .ok (.getfield 43, 3) := by decide +kernel
theorem dX5_comes_149 : decode cX5_comes 149 = .ok (.iload_n 2, 1) := by decide +kernel
theorem dX5_comes_150 : decode cX5_comes 150 = .ok (.iconst 1, 1) := by decide +kernel
theorem dX5_comes_151 : decode cX5_comes 151 = .ok (.iadd, 1) := by decide +kernel
theorem dX5_comes_152 : decode cX5_comes 152 = .ok (.iaload, 1) := by decide +kernel
theorem dX5_comes_153 : decode cX5_comes 153 = .ok (.iastore, 1) := by decide +kernel
theorem dX5_comes_154 : decode cX5_comes 154 = .ok (.iconst 1, 1) := by decide +kernel
theorem dX5_comes_155 : decode cX5_comes 155 = .ok (.ireturn, 1) := by decide +kernel
theorem dX5_comes_156 : decode cX5_comes 156 = .ok (.aload_n 0, 1) := by decide +kernel
theorem dX5_comes_157 : decode cX5_comes 157 = .ok (.aload_n 0, 1) := by decide +kernel
theorem dX5_comes_158 : decode cX5_comes 158 = .ok (.getfield 43, 3) := by decide +kernel
theorem dX5_comes_161 : decode cX5_comes 161 = .ok (.iload_n 2, 1) := by decide +kernel
theorem dX5_comes_162 : decode cX5_comes 162 = .ok (.iaload, 1) := by decide +kernel
theorem dX5_comes_163 : decode cX5_comes 163 = .ok (.invokevirtual 129, 3) := by decide +kernel
theorem dX5_comes_166 : decode cX5_comes 166 = .ok (.ifCond .ne 5, 3) := by decide +kernel
theorem dX5_comes_169 : decode cX5_comes 169 = .ok (.iconst 0, 1) := by decide +kernel
theorem dX5_comes_170 : decode cX5_comes 170 = .ok (.ireturn, 1) := by decide +kernel
theorem dX5_comes_171 : decode cX5_comes 171 = .ok (.aload_n 0, 1) := by decide +kernel
theorem dX5_comes_172 : decode cX5_comes 172 = .ok (.getfield 28, 3) := by decide +kernel
theorem dX5_comes_175 : decode cX5_comes 175 = .ok (.aload_n 0, 1) := by decide +kernel
theorem dX5_comes_176 : decode cX5_comes 176 = .ok (.getfield 43, 3) := by decide +kernel
theorem dX5_comes_179 : decode cX5_comes 179 = .ok (.iload_n 2, 1) := by decide +kernel
theorem dX5_comes_180 : decode cX5_comes 180 = .ok (.iaload, 1) := by decide +kernel
theorem dX5_comes_181 : decode cX5_comes 181 = .ok (.aload_n 0, 1) := by decide +kernel
theorem dX5_comes_182 : decode cX5_comes 182 = .ok (.getfield 43, 3) := by decide +kernel
theorem dX5_comes_185 : decode cX5_comes 185 = .ok (.iload_n 2, 1) := by decide +kernel
theorem dX5_comes_186 : decode cX5_comes 186 = .ok (.iconst 1, 1) := by decide +kernel
theorem dX5_comes_187 : decode cX5_comes 187 = .ok (.iadd, 1) := by decide +kernel
theorem dX5_comes_188 : decode cX5_comes 188 = .ok (.iaload, 1) := by decide +kernel
theorem dX5_comes_189 : decode cX5_comes 189 = .ok (.iastore, 1) := by decide +kernel
theorem dX5_comes_190 : decode cX5_comes 190 = .ok (.iconst 1, 1) := by decide +kernel
theorem dX5_comes_191 : decode cX5_comes 191 = .ok (.ireturn, 1) := by decide +kernel
theorem dX5_comes_192 : decode cX5_comes 192 = .ok (.aload_n 0, 1) := by decide +kernel
theorem dX5_comes_193 : decode cX5_comes 193 = .ok (.aload_n 0, 1) := by decide +kernel
theorem dX5_comes_194 : decode cX5_comes 194 = .ok (.getfield 43, 3) := by decide +kernel
theorem dX5_comes_197 : decode cX5_comes 197 = .ok (.iload_n 2, 1) := by decide +kernel
theorem dX5_comes_198 : decode cX5_comes 198 = .ok (.iaload, 1) := by decide +kernel
theorem dX5_comes_199 : decode cX5_comes 199 = .ok (.invokevirtual 132, 3) := by decide +kernel
theorem dX5_comes_202 : decode cX5_comes 202 = .ok (.ireturn, 1) := by decide +kernel
set_option maxRecDepth 20000 in
theorem ggX5_harbour_X5_statement : GoodIn wsX5_harbour wsX5_statement := goodIn_r _ [9, 10, 2, 4, 1, 11, 12, 13, 8, 14, 3, 15, 16, 17, 18, 19, 20, 21, 22, 23, 24, 25, 26, 27, 28, 29, 30, 31, 32, 33, 34, 128, 129, 130, 131, 132, 133, 134, 135, 136, 137, 138, 139, 140, 141, 142, 143, 144, 145, 146, 147, 148, 149, 150, 151, 152, 153, 154] (by decide +kernel) (by decide +kernel)
set_option maxRecDepth 20000 in
theorem gX5_harbour_X5_statement : GoodIn wsX5_harbour (wsV RX5 135 RX5 yX5_statement wsX5_statement) := goodIn_app (goodIn_of _ (by decide +kernel)) ggX5_harbour_X5_statement
set_option maxRecDepth 20000 in
theorem ggX5_harbour_X5_passesAll : GoodIn wsX5_harbour wsX5_passesAll := goodIn_r _ [38, 39, 40, 41, 42, 43, 44, 45, 46, 47, 48, 49, 50, 51, 52, 53, 54, 8, 55, 56, 57, 58, 59, 60, 128, 129, 130, 131, 132, 133, 134, 135, 136, 137, 138, 139, 140, 141, 142, 143, 144, 145, 146, 147, 148, 149, 150, 151, 152, 153, 154] (by decide +kernel) (by decide +kernel)
set_option maxRecDepth 20000 in
theorem gX5_harbour_X5_passesAll : GoodIn wsX5_harbour (wsV RX5 139 RX5 yX5_passesAll wsX5_passesAll) := goodIn_app (goodIn_of _ (by decide +kernel)) ggX5_harbour_X5_passesAll
set_option maxRecDepth 20000 in
theorem ggX5_harbour_X5_comes : GoodIn wsX5_harbour wsX5_comes := goodIn_r _ [64, 10, 24, 47, 46, 65, 66, 67, 8, 68, 48, 41, 42, 43, 69, 70, 71, 72, 49, 44, 45, 73, 74, 75, 76, 77, 78, 79, 80, 81, 82, 83, 84, 85, 86, 87, 88, 50, 89, 90, 91, 92, 93, 94, 95, 51, 96, 97, 98, 99, 100, 101, 102, 103, 104, 105, 106, 107, 108, 109, 110, 111, 112, 113, 114, 115, 32, 33, 34, 116, 117, 118, 119, 120, 121, 122, 123, 124, 125, 126, 127, 128, 129, 130, 131, 132, 133, 134, 135, 136, 137, 138, 139, 140, 141, 142, 143, 144, 145, 146, 147, 148, 149, 150, 151, 152, 153, 154] (by decide +kernel) (by decide +kernel)
set_option maxRecDepth 20000 in
theorem gX5_harbour_X5_comes : GoodIn wsX5_harbour (wsV RX5 143 RX5 yX5_comes wsX5_comes) := goodIn_app (goodIn_of _ (by decide +kernel)) ggX5_harbour_X5_comes
theorem dX5_harbour_0 : decode cX5_harbour 0 = .ok (.aload_n 0, 1) := by decide +kernel
theorem dX5_harbour_1 : decode cX5_harbour 1 = .ok (.iconst 0, 1) := by decide +kernel
theorem dX5_harbour_2 : decode cX5_harbour 2 = .ok (.putfield 79, 3) := by decide +kernel
theorem dX5_harbour_5 : decode cX5_harbour 5 = .ok (.aload_n 0, 1) := by decide +kernel
theorem dX5_harbour_6 : decode cX5_harbour 6 = .ok (.iconst 0, 1) := by decide +kernel
theorem dX5_harbour_7 : decode cX5_harbour 7 = .ok (.putfield 101, 3) := by decide +kernel
theorem dX5_harbour_10 : decode cX5_harbour 10 = .ok (.iconst 1, 1) := by decide +kernel
theorem dX5_harbour_11 : decode cX5_harbour 11 = .ok (.istore_n 1, 1) := by decide +kernel
theorem dX5_harbour_12 : decode cX5_harbour 12 = .ok (.iload_n 1, 1) := by decide +kernel
theorem dX5_harbour_13 : decode cX5_harbour 13 = .ok (.ifCond .eq 47, 3) := by decide +kernel
theorem dX5_harbour_16 : decode cX5_harbour 16 = .ok (.aload_n 0, 1) := by decide +kernel
theorem dX5_harbour_17 : decode cX5_harbour 17 = .ok (.getfield 79, 3) := by decide +kernel
theorem dX5_harbour_20 : decode cX5_harbour 20 = .ok (.aload_n 0, 1) := by decide +kernel
theorem dX5_harbour_21 : decode cX5_harbour 21 = .ok (.getfield 72, 3) := by decide +kernel
theorem dX5_harbour_24 : decode cX5_harbour 24 = .ok (.if_icmp .lt 10, 3) := by decide +kernel
theorem dX5_harbour_27 : decode cX5_harbour 27 = .ok (.aload_n 0, 1) := by decide +kernel
theorem dX5_harbour_28 : decode cX5_harbour 28 = .ok (.getfield 101, 3) := by decide +kernel
theorem dX5_harbour_31 : decode cX5_harbour 31 = .ok (.ifCond .ne 29, 3) := by decide +kernel
theorem dX5_harbour_34 : decode cX5_harbour 34 = .ok (.aload_n 0, 1) := by decide +kernel
theorem dX5_harbour_35 : decode cX5_harbour 35 = .ok (.invokevirtual 135, 3) := by decide +kernel
theorem dX5_harbour_38 : decode cX5_harbour 38 = .ok (.istore_n 1, 1) := by decide +kernel
theorem dX5_harbour_39 : decode cX5_harbour 39 = .ok (.aload_n 0, 1) := by decide +kernel
theorem dX5_harbour_40 : decode cX5_harbour 40 = .ok (.dup, 1) := by decide +kernel
theorem dX5_harbour_41 : decode cX5_harbour 41 = .ok (.getfield 101, 3) := by decide +kernel
theorem dX5_harbour_44 : decode cX5_harbour 44 = .ok (.iload_n 1, 1) := by decide +kernel
theorem dX5_harbour_45 : decode cX5_harbour 45 = .ok (.ifCond .eq 7, 3) := by decide +kernel
theorem dX5_harbour_48 : decode cX5_harbour 48 = .ok (.iconst 1, 1) := by decide +kernel
theorem dX5_harbour_49 : decode cX5_harbour 49 = .ok (.goto 4, 3) := by decide +kernel
theorem dX5_harbour_52 : decode cX5_harbour 52 = .ok (.iconst 0, 1) := by decide +kernel
theorem dX5_harbour_53 : decode cX5_harbour 53 = .ok (.iadd, 1) := by decide +kernel
theorem dX5_harbour_54 : decode cX5_harbour 54 = .ok (.putfield 101, 3) := by decide +kernel
theorem dX5_harbour_57 : decode cX5_harbour 57 = .ok (.goto (-45), 3) := by decide +kernel
theorem dX5_harbour_60 : decode cX5_harbour 60 = .ok (.aload_n 0, 1) := by decide +kernel
theorem dX5_harbour_61 : decode cX5_harbour 61 = .ok (.iconst 0, 1) := by decide +kernel
theorem dX5_harbour_62 : decode cX5_harbour 62 = .ok (.putfield 72, 3) := by decide +kernel
theorem dX5_harbour_65 : decode cX5_harbour 65 = .ok (.iload_n 1, 1) := by decide +kernel
theorem dX5_harbour_66 : decode cX5_harbour 66 = .ok (.ifCond .ne 12, 3) := by decide +kernel
theorem dX5_harbour_69 : decode cX5_harbour 69 = .ok (.sipush (-1000), 3) := by decide +kernel
theorem dX5_harbour_72 : decode cX5_harbour 72 = .ok (.aload_n 0, 1) := by decide +kernel
theorem dX5_harbour_73 : decode cX5_harbour 73 = .ok (.getfield 79, 3) := by decide +kernel
theorem dX5_harbour_76 : decode cX5_harbour 76 = .ok (.isub, 1) := by decide +kernel
theorem dX5_harbour_77 : decode cX5_harbour 77 = .ok (.ireturn, 1) := by decide +kernel
theorem dX5_harbour_78 : decode cX5_harbour 78 = .ok (.aload_n 0, 1) := by decide +kernel
theorem dX5_harbour_79 : decode cX5_harbour 79 = .ok (.iconst 1, 1) := by decide +kernel
theorem dX5_harbour_80 : decode cX5_harbour 80 = .ok (.iconst 1, 1) := by decide +kernel
theorem dX5_harbour_81 : decode cX5_harbour 81 = .ok (.invokevirtual 139, 3) := by decide +kernel
theorem dX5_harbour_84 : decode cX5_harbour 84 = .ok (.iconst 0, 1) := by decide +kernel
theorem dX5_harbour_85 : decode cX5_harbour 85 = .ok (.istore_n 2, 1) := by decide +kernel
theorem dX5_harbour_86 : decode cX5_harbour 86 = .ok (.iload_n 2, 1) := by decide +kernel
theorem dX5_harbour_87 : decode cX5_harbour 87 = .ok (.aload_n 0, 1) := by decide +kernel
theorem dX5_harbour_88 : decode cX5_harbour 88 = .ok (.getfield 101, 3) := by decide +kernel
theorem dX5_harbour_91 : decode cX5_harbour 91 = .ok (.if_icmp .ge 37, 3) := by decide +kernel
theorem dX5_harbour_94 : decode cX5_harbour 94 = .ok (.aload_n 0, 1) := by decide +kernel
theorem dX5_harbour_95 : decode cX5_harbour 95 = .ok (.iload_n 2, 1) := by decide +kernel
theorem dX5_harbour_96 : decode cX5_harbour 96 = .ok (.invokevirtual 143, 3) := by decide +kernel
theorem dX5_harbour_99 : decode cX5_harbour 99 = .ok (.ifCond .eq 6, 3) := by decide +kernel
theorem dX5_harbour_102 : decode cX5_harbour 102 = .ok (.goto 20, 3) := by decide +kernel
theorem dX5_harbour_105 : decode cX5_harbour 105 = .ok (.aload_n 0, 1) := by decide +kernel
theorem dX5_harbour_106 : decode cX5_harbour 106 = .ok (.iconst 1, 1) := by decide +kernel
theorem dX5_harbour_107 : decode cX5_harbour 107 = .ok (.iconst 0, 1) := by decide +kernel
theorem dX5_harbour_108 : decode cX5_harbour 108 = .ok (.invokevirtual 139, 3) := by decide +kernel
theorem dX5_harbour_111 : decode cX5_harbour 111 = .ok (.sipush (-2000), 3) := by decide +kernel
theorem dX5_harbour_114 : decode cX5_harbour 114 = .ok (.aload_n 0, 1) := by decide +kernel
theorem dX5_harbour_115 : decode cX5_harbour 115 = .ok (.getfield 40, 3) := by decide +kernel
theorem dX5_harbour_118 : decode cX5_harbour 118 = .ok (.iload_n 2, 1) := by decide +kernel
theorem dX5_harbour_119 : decode cX5_harbour 119 = .ok (.iaload, 1) := by decide +kernel
theorem dX5_harbour_120 : decode cX5_harbour 120 = .ok (.isub, 1) := by decide +kernel
theorem dX5_harbour_121 : decode cX5_harbour 121 = .ok (.ireturn, 1) := by decide +kernel
theorem dX5_harbour_122 : decode cX5_harbour 122 = .ok (.iinc 2 1, 3) := by decide +kernel
theorem dX5_harbour_125 : decode cX5_harbour 125 = .ok (.goto (-39), 3) := by decide +kernel
theorem dX5_harbour_128 : decode cX5_harbour 128 = .ok (.aload_n 0, 1) := by decide +kernel
theorem dX5_harbour_129 : decode cX5_harbour 129 = .ok (.getfield 101, 3) := by decide +kernel
theorem dX5_harbour_132 : decode cX5_harbour 132 = .ok (.ireturn, 1) := by decide +kernel
theorem dX5_passes_0 : decode cX5_passes 0 = .ok (.iconst 0, 1) := by decide +kernel
theorem dX5_passes_1 : decode cX5_passes 1 = .ok (.istore_n 2, 1) := by decide +kernel
theorem dX5_passes_2 : decode cX5_passes 2 = .ok (.iload_n 2, 1) := by decide +kernel
theorem dX5_passes_3 : decode cX5_passes 3 = .ok (.aload_n 1, 1) := by decide +kernel
theorem dX5_passes_4 : decode cX5_passes 4 = .ok (.arraylength, 1) := by decide +kernel
theorem dX5_passes_5 : decode cX5_passes 5 = .ok (.if_icmp .ge 53, 3) := by decide +kernel
theorem dX5_passes_8 : decode cX5_passes 8 = .ok (.aload_n 0, 1) := by decide +kernel
theorem dX5_passes_9 : decode cX5_passes 9 = .ok (.getfield 146, 3) := by decide +kernel
theorem dX5_passes_12 : decode cX5_passes 12 = .ok (.ifCond .eq 18, 3) := by decide +kernel
theorem dX5_passes_15 : decode cX5_passes 15 = .ok (.aload_n 0, 1) := by decide +kernel
theorem dX5_passes_16 : decode cX5_passes 16 = .ok (.getfield 46, 3) := by decide +kernel
theorem dX5_passes_19 : decode cX5_passes 19 = .ok (.aload_n 0, 1) := by decide +kernel
theorem dX5_passes_20 : decode cX5_passes 20 = .ok (.getfield 150, 3) := by decide +kernel
theorem dX5_passes_23 : decode cX5_passes 23 = .ok (.aload_n 1, 1) := by decide +kernel
theorem dX5_passes_24 : decode cX5_passes 24 = .ok (.iload_n 2, 1) := by decide +kernel
theorem dX5_passes_25 : decode cX5_passes 25 = .ok (.iaload, 1) := by decide +kernel
theorem dX5_passes_26 : decode cX5_passes 26 = .ok (.iastore, 1) := by decide +kernel
theorem dX5_passes_27 : decode cX5_passes 27 = .ok (.goto 15, 3) := by decide +kernel
theorem dX5_passes_30 : decode cX5_passes 30 = .ok (.aload_n 1, 1) := by decide +kernel
theorem dX5_passes_31 : decode cX5_passes 31 = .ok (.iload_n 2, 1) := by decide +kernel
theorem dX5_passes_32 : decode cX5_passes 32 = .ok (.aload_n 0, 1) := by decide +kernel
theorem dX5_passes_33 : decode cX5_passes 33 = .ok (.getfield 46, 3) := by decide +kernel
theorem dX5_passes_36 : decode cX5_passes 36 = .ok (.aload_n 0, 1) := by decide +kernel
theorem dX5_passes_37 : decode cX5_passes 37 = .ok (.getfield 150, 3) := by decide +kernel
theorem dX5_passes_40 : decode cX5_passes 40 = .ok (.iaload, 1) := by decide +kernel
theorem dX5_passes_41 : decode cX5_passes 41 = .ok (.iastore, 1) := by decide +kernel
theorem dX5_passes_42 : decode cX5_passes 42 = .ok (.aload_n 0, 1) := by decide +kernel
theorem dX5_passes_43 : decode cX5_passes 43 = .ok (.dup, 1) := by decide +kernel
theorem dX5_passes_44 : decode cX5_passes 44 = .ok (.getfield 150, 3) := by decide +kernel
theorem dX5_passes_47 : decode cX5_passes 47 = .ok (.iconst 1, 1) := by decide +kernel
theorem dX5_passes_48 : decode cX5_passes 48 = .ok (.iadd, 1) := by decide +kernel
theorem dX5_passes_49 : decode cX5_passes 49 = .ok (.putfield 150, 3) := by decide +kernel
theorem dX5_passes_52 : decode cX5_passes 52 = .ok (.iinc 2 1, 3) := by decide +kernel
theorem dX5_passes_55 : decode cX5_passes 55 = .ok (.goto (-53), 3) := by decide +kernel
theorem dX5_passes_58 : decode cX5_passes 58 = .ok (.return_, 1) := by decide +kernel
theorem dX5_passOne_0 : decode cX5_passOne 0 = .ok (.aload_n 0, 1) := by decide +kernel
theorem dX5_passOne_1 : decode cX5_passOne 1 = .ok (.getfield 146, 3) := by decide +kernel
theorem dX5_passOne_4 : decode cX5_passOne 4 = .ok (.ifCond .eq 7, 3) := by decide +kernel
theorem dX5_passOne_7 : decode cX5_passOne 7 = .ok (.iload_n 1, 1) := by decide +kernel
theorem dX5_passOne_8 : decode cX5_passOne 8 = .ok (.goto 12, 3) := by decide +kernel
theorem dX5_passOne_11 : decode cX5_passOne 11 = .ok (.aload_n 0, 1) := by decide +kernel
theorem dX5_passOne_12 : decode cX5_passOne 12 = .ok (.getfield 46, 3) := by decide +kernel
theorem dX5_passOne_15 : decode cX5_passOne 15 = .ok (.aload_n 0, 1) := by decide +kernel
theorem dX5_passOne_16 : decode cX5_passOne 16 = .ok (.getfield 150, 3) := by decide +kernel
theorem dX5_passOne_19 : decode cX5_passOne 19 = .ok (.iaload, 1) := by decide +kernel
theorem dX5_passOne_20 : decode cX5_passOne 20 = .ok (.istore_n 2, 1) := by decide +kernel
theorem dX5_passOne_21 : decode cX5_passOne 21 = .ok (.aload_n 0, 1) := by decide +kernel
theorem dX5_passOne_22 : decode cX5_passOne 22 = .ok (.getfield 146, 3) := by decide +kernel
theorem dX5_passOne_25 : decode cX5_passOne 25 = .ok (.ifCond .eq 13, 3) := by decide +kernel
theorem dX5_passOne_28 : decode cX5_passOne 28 = .ok (.aload_n 0, 1) := by decide +kernel
theorem dX5_passOne_29 : decode cX5_passOne 29 = .ok (.getfield 46, 3) := by decide +kernel
theorem dX5_passOne_32 : decode cX5_passOne 32 = .ok (.aload_n 0, 1) := by decide +kernel
theorem dX5_passOne_33 : decode cX5_passOne 33 = .ok (.getfield 150, 3) := by decide +kernel
theorem dX5_passOne_36 : decode cX5_passOne 36 = .ok (.iload_n 1, 1) := by decide +kernel
theorem dX5_passOne_37 : decode cX5_passOne 37 = .ok (.iastore, 1) := by decide +kernel
theorem dX5_passOne_38 : decode cX5_passOne 38 = .ok (.aload_n 0, 1) := by decide +kernel
theorem dX5_passOne_39 : decode cX5_passOne 39 = .ok (.dup, 1) := by decide +kernel
theorem dX5_passOne_40 : decode cX5_passOne 40 = .ok (.getfield 150, 3) := by decide +kernel
theorem dX5_passOne_43 : decode cX5_passOne 43 = .ok (.iconst 1, 1) := by decide +kernel
theorem dX5_passOne_44 : decode cX5_passOne 44 = .ok (.iadd, 1) := by decide +kernel
theorem dX5_passOne_45 : decode cX5_passOne 45 = .ok (.putfield 150, 3) := by decide +kernel
theorem dX5_passOne_48 : decode cX5_passOne 48 = .ok (.iload_n 2, 1) := by decide +kernel
theorem dX5_passOne_49 : decode cX5_passOne 49 = .ok (.ireturn, 1) := by decide +kernel
set_option maxRecDepth 20000 in
theorem ggX5_passesAll_X5_passes : GoodIn wsX5_passesAll wsX5_passes := goodIn_r _ [18, 2, 19, 1, 24, 25, 26, 27, 28, 29, 30, 31, 32, 33, 34, 35, 36, 37, 38, 39, 40, 41, 42, 43, 44, 45, 46, 47, 48, 49, 50] (by decide +kernel) (by decide +kernel)
set_option maxRecDepth 20000 in
theorem gX5_passesAll_X5_passes : GoodIn wsX5_passesAll (wsV RX5 153 RX5 yX5_passes wsX5_passes) := goodIn_app (goodIn_of _ (by decide +kernel)) ggX5_passesAll_X5_passes
set_option maxRecDepth 20000 in
theorem ggX5_passesAll_X5_passOne : GoodIn wsX5_passesAll wsX5_passOne := goodIn_r _ [23, 2, 19, 1, 24, 25, 26, 27, 28, 29, 30, 31, 32, 33, 34, 35, 36, 37, 38, 39, 40, 41, 42, 43, 44, 45, 46, 47, 48, 49, 50] (by decide +kernel) (by decide +kernel)
set_option maxRecDepth 20000 in
theorem gX5_passesAll_X5_passOne : GoodIn wsX5_passesAll (wsV RX5 157 RX5 yX5_passOne wsX5_passOne) := goodIn_app (goodIn_of _ (by decide +kernel)) ggX5_passesAll_X5_passOne
theorem dX5_passesAll_0 : decode cX5_passesAll 0 = .ok (.aload_n 0, 1) := by decide +kernel
theorem dX5_passesAll_1 : decode cX5_passesAll 1 = .ok (.bipush 51, 2) := by decide +kernel
theorem dX5_passesAll_3 : decode cX5_passesAll 3 = .ok (.iload_n 1, 1) := by decide +kernel
theorem dX5_passesAll_4 : decode cX5_passesAll 4 = .ok (.imul, 1) := by decide +kernel
theorem dX5_passesAll_5 : decode cX5_passesAll 5 = .ok (.putfield 150, 3) := by decide +kernel
theorem dX5_passesAll_8 : decode cX5_passesAll 8 = .ok (.aload_n 0, 1) := by decide +kernel
theorem dX5_passesAll_9 : decode cX5_passesAll 9 = .ok (.iload_n 2, 1) := by decide +kernel
theorem dX5_passesAll_10 : decode cX5_passesAll 10 = .ok (.putfield 146, 3) := by decide +kernel
theorem dX5_passesAll_13 : decode cX5_passesAll 13 = .ok (.aload_n 0, 1) := by decide +kernel
theorem dX5_passesAll_14 : decode cX5_passesAll 14 = .ok (.aload_n 0, 1) := by decide +kernel
theorem dX5_passesAll_15 : decode cX5_passesAll 15 = .ok (.getfield 13, 3) := by decide +kernel
theorem dX5_passesAll_18 : decode cX5_passesAll 18 = .ok (.invokevirtual 153, 3) := by decide +kernel
theorem dX5_passesAll_21 : decode cX5_passesAll 21 = .ok (.aload_n 0, 1) := by decide +kernel
theorem dX5_passesAll_22 : decode cX5_passesAll 22 = .ok (.aload_n 0, 1) := by decide +kernel
theorem dX5_passesAll_23 : decode cX5_passesAll 23 = .ok (.getfield 16, 3) := by decide +kernel
theorem dX5_passesAll_26 : decode cX5_passesAll 26 = .ok (.invokevirtual 153, 3) := by decide +kernel
theorem dX5_passesAll_29 : decode cX5_passesAll 29 = .ok (.aload_n 0, 1) := by decide +kernel
theorem dX5_passesAll_30 : decode cX5_passesAll 30 = .ok (.aload_n 0, 1) := by decide +kernel
theorem dX5_passesAll_31 : decode cX5_passesAll 31 = .ok (.getfield 19, 3) := by decide +kernel
theorem dX5_passesAll_34 : decode cX5_passesAll 34 = .ok (.invokevirtual 153, 3) := by decide +kernel
theorem dX5_passesAll_37 : decode cX5_passesAll 37 = .ok (.aload_n 0, 1) := by decide +kernel
theorem dX5_passesAll_38 : decode cX5_passesAll 38 = .ok (.aload_n 0, 1) := by decide +kernel
theorem dX5_passesAll_39 : decode cX5_passesAll 39 = .ok (.getfield 22, 3) := by decide +kernel
theorem dX5_passesAll_42 : decode cX5_passesAll 42 = .ok (.invokevirtual 153, 3) := by decide +kernel
theorem dX5_passesAll_45 : decode cX5_passesAll 45 = .ok (.aload_n 0, 1) := by decide +kernel
theorem dX5_passesAll_46 : decode cX5_passesAll 46 = .ok (.aload_n 0, 1) := by decide +kernel
theorem dX5_passesAll_47 : decode cX5_passesAll 47 = .ok (.getfield 25, 3) := by decide +kernel
theorem dX5_passesAll_50 : decode cX5_passesAll 50 = .ok (.invokevirtual 153, 3) := by decide +kernel
theorem dX5_passesAll_53 : decode cX5_passesAll 53 = .ok (.aload_n 0, 1) := by decide +kernel
theorem dX5_passesAll_54 : decode cX5_passesAll 54 = .ok (.aload_n 0, 1) := by decide +kernel
theorem dX5_passesAll_55 : decode cX5_passesAll 55 = .ok (.getfield 28, 3) := by decide +kernel
theorem dX5_passesAll_58 : decode cX5_passesAll 58 = .ok (.invokevirtual 153, 3) := by decide +kernel
theorem dX5_passesAll_61 : decode cX5_passesAll 61 = .ok (.aload_n 0, 1) := by decide +kernel
theorem dX5_passesAll_62 : decode cX5_passesAll 62 = .ok (.aload_n 0, 1) := by decide +kernel
theorem dX5_passesAll_63 : decode cX5_passesAll 63 = .ok (.getfield 31, 3) := by decide +kernel
theorem dX5_passesAll_66 : decode cX5_passesAll 66 = .ok (.invokevirtual 153, 3) := by decide +kernel
theorem dX5_passesAll_69 : decode cX5_passesAll 69 = .ok (.aload_n 0, 1) := by decide +kernel
theorem dX5_passesAll_70 : decode cX5_passesAll 70 = .ok (.aload_n 0, 1) := by decide +kernel
theorem dX5_passesAll_71 : decode cX5_passesAll 71 = .ok (.aload_n 0, 1) := by decide +kernel
theorem dX5_passesAll_72 : decode cX5_passesAll 72 = .ok (.getfield 58, 3) := by decide +kernel
theorem dX5_passesAll_75 : decode cX5_passesAll 75 = .ok (.invokevirtual 157, 3) := by decide +kernel
theorem dX5_passesAll_78 : decode cX5_passesAll 78 = .ok (.putfield 58, 3) := by decide +kernel
theorem dX5_passesAll_81 : decode cX5_passesAll 81 = .ok (.aload_n 0, 1) := by decide +kernel
theorem dX5_passesAll_82 : decode cX5_passesAll 82 = .ok (.aload_n 0, 1) := by decide +kernel
theorem dX5_passesAll_83 : decode cX5_passesAll 83 = .ok (.aload_n 0, 1) := by decide +kernel
theorem dX5_passesAll_84 : decode cX5_passesAll 84 = .ok (.getfield 65, 3) := by decide +kernel
theorem dX5_passesAll_87 : decode cX5_passesAll 87 = .ok (.invokevirtual 157, 3) := by decide +kernel
theorem dX5_passesAll_90 : decode cX5_passesAll 90 = .ok (.putfield 65, 3) := by decide +kernel
theorem dX5_passesAll_93 : decode cX5_passesAll 93 = .ok (.aload_n 0, 1) := by decide +kernel
theorem dX5_passesAll_94 : decode cX5_passesAll 94 = .ok (.aload_n 0, 1) := by decide +kernel
theorem dX5_passesAll_95 : decode cX5_passesAll 95 = .ok (.aload_n 0, 1) := by decide +kernel
theorem dX5_passesAll_96 : decode cX5_passesAll 96 = .ok (.getfield 160, 3) := by decide +kernel
theorem dX5_passesAll_99 : decode cX5_passesAll 99 = .ok (.invokevirtual 157, 3) := by decide +kernel
theorem dX5_passesAll_102 : decode cX5_passesAll 102 = .ok (.putfield 160, 3) := by decide +kernel
theorem dX5_passesAll_105 : decode cX5_passesAll 105 = .ok (.aload_n 0, 1) := by decide +kernel
theorem dX5_passesAll_106 : decode cX5_passesAll 106 = .ok (.aload_n 0, 1) := by decide +kernel
theorem dX5_passesAll_107 : decode cX5_passesAll 107 = .ok (.aload_n 0, 1) := by decide +kernel
theorem dX5_passesAll_108 : decode cX5_passesAll 108 = .ok (.getfield 110, 3) := by decide +kernel
theorem dX5_passesAll_111 : decode cX5_passesAll 111 = .ok (.invokevirtual 157, 3) := by decide +kernel
theorem dX5_passesAll_114 : decode cX5_passesAll 114 = .ok (.putfield 110, 3) := by decide +kernel
theorem dX5_passesAll_117 : decode cX5_passesAll 117 = .ok (.return_, 1) := by decide +kernel
set_option maxRecDepth 20000 in
theorem ggX5_thinks_X5_passesAll : GoodIn wsX5_thinks wsX5_passesAll := goodIn_r _ [5, 6, 7, 8, 9, 10, 11, 12, 13, 14, 15, 16, 17, 18, 19, 20, 21, 4, 22, 23, 24, 25, 26, 27, 28, 29, 30, 31, 32, 33, 34, 35, 36, 37, 38, 39, 40, 41, 42, 43, 44, 45, 46, 47, 48, 49, 50, 51, 52, 53, 54] (by decide +kernel) (by decide +kernel)
set_option maxRecDepth 20000 in
theorem gX5_thinks_X5_passesAll : GoodIn wsX5_thinks (wsV RX5 139 RX5 yX5_passesAll wsX5_passesAll) := goodIn_app (goodIn_of _ (by decide +kernel)) ggX5_thinks_X5_passesAll
theorem dX5_thinks_0 : decode cX5_thinks 0 = .ok (.aload_n 0, 1) := by decide +kernel
theorem dX5_thinks_1 : decode cX5_thinks 1 = .ok (.iconst 2, 1) := by decide +kernel
theorem dX5_thinks_2 : decode cX5_thinks 2 = .ok (.iconst 1, 1) := by decide +kernel
theorem dX5_thinks_3 : decode cX5_thinks 3 = .ok (.invokevirtual 139, 3) := by decide +kernel
theorem dX5_thinks_6 : decode cX5_thinks 6 = .ok (.return_, 1) := by decide +kernel
set_option maxRecDepth 20000 in
theorem ggX5_forgets_X5_passesAll : GoodIn wsX5_forgets wsX5_passesAll := goodIn_r _ [5, 6, 7, 8, 9, 10, 11, 12, 13, 14, 15, 16, 17, 18, 19, 20, 21, 4, 22, 23, 24, 25, 26, 27, 28, 29, 30, 31, 32, 33, 34, 35, 36, 37, 38, 39, 40, 41, 42, 43, 44, 45, 46, 47, 48, 49, 50, 51, 52, 53, 54] (by decide +kernel) (by decide +kernel)
set_option maxRecDepth 20000 in
theorem gX5_forgets_X5_passesAll : GoodIn wsX5_forgets (wsV RX5 139 RX5 yX5_passesAll wsX5_passesAll) := goodIn_app (goodIn_of _ (by decide +kernel)) ggX5_forgets_X5_passesAll
theorem dX5_forgets_0 : decode cX5_forgets 0 = .ok (.aload_n 0, 1) := by decide +kernel
theorem dX5_forgets_1 : decode cX5_forgets 1 = .ok (.iconst 2, 1) := by decide +kernel
theorem dX5_forgets_2 : decode cX5_forgets 2 = .ok (.iconst 0, 1) := by decide +kernel
theorem dX5_forgets_3 : decode cX5_forgets 3 = .ok (.invokevirtual 139, 3) := by decide +kernel
theorem dX5_forgets_6 : decode cX5_forgets 6 = .ok (.return_, 1) := by decide +kernel
set_option maxRecDepth 20000 in
theorem ggX5_image_X5_passesAll : GoodIn wsX5_image wsX5_passesAll := goodIn_r _ [7, 8, 9, 10, 11, 12, 13, 14, 15, 16, 17, 18, 19, 2, 20, 21, 22, 6, 23, 24, 25, 26, 27, 28, 29, 30, 31, 32, 33, 34, 35, 36, 37, 38, 39, 40, 41, 42, 43, 44, 45, 46, 47, 48, 49, 50, 51, 52, 53, 54, 55] (by decide +kernel) (by decide +kernel)
set_option maxRecDepth 20000 in
theorem gX5_image_X5_passesAll : GoodIn wsX5_image (wsV RX5 139 RX5 yX5_passesAll wsX5_passesAll) := goodIn_app (goodIn_of _ (by decide +kernel)) ggX5_image_X5_passesAll
theorem dX5_image_0 : decode cX5_image 0 = .ok (.aload_n 0, 1) := by decide +kernel
theorem dX5_image_1 : decode cX5_image 1 = .ok (.iconst 1, 1) := by decide +kernel
theorem dX5_image_2 : decode cX5_image 2 = .ok (.putfield 163, 3) := by decide +kernel
theorem dX5_image_5 : decode cX5_image 5 = .ok (.aload_n 0, 1) := by decide +kernel
theorem dX5_image_6 : decode cX5_image 6 = .ok (.iconst 0, 1) := by decide +kernel
theorem dX5_image_7 : decode cX5_image 7 = .ok (.iconst 1, 1) := by decide +kernel
theorem dX5_image_8 : decode cX5_image 8 = .ok (.invokevirtual 139, 3) := by decide +kernel
theorem dX5_image_11 : decode cX5_image 11 = .ok (.aload_n 0, 1) := by decide +kernel
theorem dX5_image_12 : decode cX5_image 12 = .ok (.getfield 110, 3) := by decide +kernel
theorem dX5_image_15 : decode cX5_image 15 = .ok (.ireturn, 1) := by decide +kernel
set_option maxRecDepth 20000 in
theorem ggX5_on_X5_no : GoodIn wsX5_on wsX5_no := goodIn_r _ [7, 8, 34, 35, 36, 37, 38, 39, 40, 41, 42, 43, 44, 45, 46, 47, 48, 49, 50, 51, 52, 53, 54, 55, 56, 57, 58, 59, 60] (by decide +kernel) (by decide +kernel)
set_option maxRecDepth 20000 in
theorem gX5_on_X5_no : GoodIn wsX5_on (wsV RX5 75 RX5 yX5_no wsX5_no) := goodIn_app (goodIn_of _ (by decide +kernel)) ggX5_on_X5_no
set_option maxRecDepth 20000 in
theorem ggX5_on_X5_passesAll : GoodIn wsX5_on wsX5_passesAll := goodIn_r _ [12, 13, 14, 15, 16, 17, 18, 19, 20, 21, 22, 23, 24, 2, 25, 26, 27, 6, 28, 29, 30, 31, 32, 33, 34, 35, 36, 37, 38, 39, 40, 41, 42, 43, 44, 45, 46, 47, 48, 49, 50, 51, 52, 53, 54, 55, 56, 57, 58, 59, 60] (by decide +kernel) (by decide +kernel)
set_option maxRecDepth 20000 in
theorem gX5_on_X5_passesAll : GoodIn wsX5_on (wsV RX5 139 RX5 yX5_passesAll wsX5_passesAll) := goodIn_app (goodIn_of _ (by decide +kernel)) ggX5_on_X5_passesAll
theorem dX5_on_0 : decode cX5_on 0 = .ok (.aload_n 0, 1) := by decide +kernel
theorem dX5_on_1 : decode cX5_on 1 = .ok (.getfield 163, 3) := by decide +kernel
theorem dX5_on_4 : decode cX5_on 4 = .ok (.ifCond .ne 10, 3) := by decide +kernel
theorem dX5_on_7 : decode cX5_on 7 = .ok (.aload_n 0, 1) := by decide +kernel
theorem dX5_on_8 : decode cX5_on 8 = .ok (.bipush (-3), 2) := by decide +kernel
theorem dX5_on_10 : decode cX5_on 10 = .ok (.invokevirtual 75, 3) := by decide +kernel
theorem dX5_on_13 : decode cX5_on 13 = .ok (.ireturn, 1) := by decide +kernel
theorem dX5_on_14 : decode cX5_on 14 = .ok (.aload_n 0, 1) := by decide +kernel
theorem dX5_on_15 : decode cX5_on 15 = .ok (.iconst 0, 1) := by decide +kernel
theorem dX5_on_16 : decode cX5_on 16 = .ok (.iconst 0, 1) := by decide +kernel
theorem dX5_on_17 : decode cX5_on 17 = .ok (.invokevirtual 139, 3) := by decide +kernel
theorem dX5_on_20 : decode cX5_on 20 = .ok (.aload_n 0, 1) := by decide +kernel
theorem dX5_on_21 : decode cX5_on 21 = .ok (.getfield 110, 3) := by decide +kernel
theorem dX5_on_24 : decode cX5_on 24 = .ok (.ireturn, 1) := by decide +kernel
theorem dX5_worthOn_0 : decode cX5_worthOn 0 = .ok (.aload_n 0, 1) := by decide +kernel
theorem dX5_worthOn_1 : decode cX5_worthOn 1 = .ok (.getfield 25, 3) := by decide +kernel
theorem dX5_worthOn_4 : decode cX5_worthOn 4 = .ok (.iload_n 1, 1) := by decide +kernel
theorem dX5_worthOn_5 : decode cX5_worthOn 5 = .ok (.iaload, 1) := by decide +kernel
theorem dX5_worthOn_6 : decode cX5_worthOn 6 = .ok (.iconst 1, 1) := by decide +kernel
theorem dX5_worthOn_7 : decode cX5_worthOn 7 = .ok (.iadd, 1) := by decide +kernel
theorem dX5_worthOn_8 : decode cX5_worthOn 8 = .ok (.istore_n 3, 1) := by decide +kernel
theorem dX5_worthOn_9 : decode cX5_worthOn 9 = .ok (.iload_n 2, 1) := by decide +kernel
theorem dX5_worthOn_10 : decode cX5_worthOn 10 = .ok (.iconst 2, 1) := by decide +kernel
theorem dX5_worthOn_11 : decode cX5_worthOn 11 = .ok (.irem, 1) := by decide +kernel
theorem dX5_worthOn_12 : decode cX5_worthOn 12 = .ok (.iconst 1, 1) := by decide +kernel
theorem dX5_worthOn_13 : decode cX5_worthOn 13 = .ok (.if_icmp .ne 9, 3) := by decide +kernel
theorem dX5_worthOn_16 : decode cX5_worthOn 16 = .ok (.iconst 2, 1) := by decide +kernel
theorem dX5_worthOn_17 : decode cX5_worthOn 17 = .ok (.iload_n 3, 1) := by decide +kernel
theorem dX5_worthOn_18 : decode cX5_worthOn 18 = .ok (.imul, 1) := by decide +kernel
theorem dX5_worthOn_19 : decode cX5_worthOn 19 = .ok (.goto 4, 3) := by decide +kernel
theorem dX5_worthOn_22 : decode cX5_worthOn 22 = .ok (.iload_n 3, 1) := by decide +kernel
theorem dX5_worthOn_23 : decode cX5_worthOn 23 = .ok (.istore 4, 2) := by decide +kernel
theorem dX5_worthOn_25 : decode cX5_worthOn 25 = .ok (.aload_n 0, 1) := by decide +kernel
theorem dX5_worthOn_26 : decode cX5_worthOn 26 = .ok (.getfield 22, 3) := by decide +kernel
theorem dX5_worthOn_29 : decode cX5_worthOn 29 = .ok (.iload_n 1, 1) := by decide +kernel
theorem dX5_worthOn_30 : decode cX5_worthOn 30 = .ok (.iaload, 1) := by decide +kernel
theorem dX5_worthOn_31 : decode cX5_worthOn 31 = .ok (.tableswitch 58 1 5 #[33, 35, 38, 53, 33], 33) := by decide +kernel
theorem dX5_worthOn_64 : decode cX5_worthOn 64 = .ok (.iconst 0, 1) := by decide +kernel
theorem dX5_worthOn_65 : decode cX5_worthOn 65 = .ok (.ireturn, 1) := by decide +kernel
theorem dX5_worthOn_66 : decode cX5_worthOn 66 = .ok (.iload 4, 2) := by decide +kernel
theorem dX5_worthOn_68 : decode cX5_worthOn 68 = .ok (.ireturn, 1) := by decide +kernel
theorem dX5_worthOn_69 : decode cX5_worthOn 69 = .ok (.iload_n 3, 1) := by decide +kernel
theorem dX5_worthOn_70 : decode cX5_worthOn 70 = .ok (.iconst 2, 1) := by decide +kernel
theorem dX5_worthOn_71 : decode cX5_worthOn 71 = .ok (.idiv, 1) := by decide +kernel
theorem dX5_worthOn_72 : decode cX5_worthOn 72 = .ok (.iconst 1, 1) := by decide +kernel
theorem dX5_worthOn_73 : decode cX5_worthOn 73 = .ok (.if_icmp .le 9, 3) := by decide +kernel
theorem dX5_worthOn_76 : decode cX5_worthOn 76 = .ok (.iload_n 3, 1) := by decide +kernel
theorem dX5_worthOn_77 : decode cX5_worthOn 77 = .ok (.iconst 2, 1) := by decide +kernel
theorem dX5_worthOn_78 : decode cX5_worthOn 78 = .ok (.idiv, 1) := by decide +kernel
theorem dX5_worthOn_79 : decode cX5_worthOn 79 = .ok (.goto 4, 3) := by decide +kernel
theorem dX5_worthOn_82 : decode cX5_worthOn 82 = .ok (.iconst 1, 1) := by decide +kernel
theorem dX5_worthOn_83 : decode cX5_worthOn 83 = .ok (.ireturn, 1) := by decide +kernel
theorem dX5_worthOn_84 : decode cX5_worthOn 84 = .ok (.iload 4, 2) := by decide +kernel
theorem dX5_worthOn_86 : decode cX5_worthOn 86 = .ok (.iconst 3, 1) := by decide +kernel
theorem dX5_worthOn_87 : decode cX5_worthOn 87 = .ok (.iadd, 1) := by decide +kernel
theorem dX5_worthOn_88 : decode cX5_worthOn 88 = .ok (.ireturn, 1) := by decide +kernel
theorem dX5_worthOn_89 : decode cX5_worthOn 89 = .ok (.iload_n 3, 1) := by decide +kernel
theorem dX5_worthOn_90 : decode cX5_worthOn 90 = .ok (.ireturn, 1) := by decide +kernel
set_option maxRecDepth 20000 in
theorem ggX5_worth_X5_worthOn : GoodIn wsX5_worth wsX5_worthOn := goodIn_r _ [6, 7, 8, 9, 10, 11, 12, 13, 14, 15, 16, 17, 18, 19, 20, 21, 22, 23, 24, 25, 26, 27, 28, 29, 30, 31, 32, 33, 34, 35] (by decide +kernel) (by decide +kernel)
set_option maxRecDepth 20000 in
theorem gX5_worth_X5_worthOn : GoodIn wsX5_worth (wsV RX5 166 RX5 yX5_worthOn wsX5_worthOn) := goodIn_app (goodIn_of _ (by decide +kernel)) ggX5_worth_X5_worthOn
theorem dX5_worth_0 : decode cX5_worth 0 = .ok (.aload_n 0, 1) := by decide +kernel
theorem dX5_worth_1 : decode cX5_worth 1 = .ok (.iload_n 1, 1) := by decide +kernel
theorem dX5_worth_2 : decode cX5_worth 2 = .ok (.aload_n 0, 1) := by decide +kernel
theorem dX5_worth_3 : decode cX5_worth 3 = .ok (.getfield 110, 3) := by decide +kernel
theorem dX5_worth_6 : decode cX5_worth 6 = .ok (.invokevirtual 166, 3) := by decide +kernel
theorem dX5_worth_9 : decode cX5_worth 9 = .ok (.ireturn, 1) := by decide +kernel
set_option maxRecDepth 20000 in
theorem ggX5_heardOf_X5_worth : GoodIn wsX5_heardOf wsX5_worth := goodIn_r _ [6, 7, 8, 9, 10, 5, 11, 12, 1, 13, 14, 15, 16, 17, 18, 19, 20, 21, 22, 23, 24, 25, 26, 27, 28, 29, 30, 31, 32, 33, 34, 35, 36, 37, 38, 39] (by decide +kernel) (by decide +kernel)
set_option maxRecDepth 20000 in
theorem gX5_heardOf_X5_worth : GoodIn wsX5_heardOf (wsV RX5 170 RX5 yX5_worth wsX5_worth) := goodIn_app (goodIn_of _ (by decide +kernel)) ggX5_heardOf_X5_worth
theorem dX5_heardOf_0 : decode cX5_heardOf 0 = .ok (.aload_n 0, 1) := by decide +kernel
theorem dX5_heardOf_1 : decode cX5_heardOf 1 = .ok (.getfield 22, 3) := by decide +kernel
theorem dX5_heardOf_4 : decode cX5_heardOf 4 = .ok (.iload_n 1, 1) := by decide +kernel
theorem dX5_heardOf_5 : decode cX5_heardOf 5 = .ok (.iaload, 1) := by decide +kernel
theorem dX5_heardOf_6 : decode cX5_heardOf 6 = .ok (.iconst 4, 1) := by decide +kernel
theorem dX5_heardOf_7 : decode cX5_heardOf 7 = .ok (.if_icmp .ne 13, 3) := by decide +kernel
theorem dX5_heardOf_10 : decode cX5_heardOf 10 = .ok (.aload_n 0, 1) := by decide +kernel
theorem dX5_heardOf_11 : decode cX5_heardOf 11 = .ok (.iload_n 1, 1) := by decide +kernel
theorem dX5_heardOf_12 : decode cX5_heardOf 12 = .ok (.invokevirtual 170, 3) := by decide +kernel
theorem dX5_heardOf_15 : decode cX5_heardOf 15 = .ok (.iconst 3, 1) := by decide +kernel
theorem dX5_heardOf_16 : decode cX5_heardOf 16 = .ok (.idiv, 1) := by decide +kernel
theorem dX5_heardOf_17 : decode cX5_heardOf 17 = .ok (.goto 18, 3) := by decide +kernel
theorem dX5_heardOf_20 : decode cX5_heardOf 20 = .ok (.aload_n 0, 1) := by decide +kernel
theorem dX5_heardOf_21 : decode cX5_heardOf 21 = .ok (.getfield 22, 3) := by decide +kernel
theorem dX5_heardOf_24 : decode cX5_heardOf 24 = .ok (.iload_n 1, 1) := by decide +kernel
theorem dX5_heardOf_25 : decode cX5_heardOf 25 = .ok (.iaload, 1) := by decide +kernel
theorem dX5_heardOf_26 : decode cX5_heardOf 26 = .ok (.iconst 5, 1) := by decide +kernel
theorem dX5_heardOf_27 : decode cX5_heardOf 27 = .ok (.if_icmp .ne 7, 3) := by decide +kernel
theorem dX5_heardOf_30 : decode cX5_heardOf 30 = .ok (.iconst 1, 1) := by decide +kernel
theorem dX5_heardOf_31 : decode cX5_heardOf 31 = .ok (.goto 4, 3) := by decide +kernel
theorem dX5_heardOf_34 : decode cX5_heardOf 34 = .ok (.iconst 0, 1) := by decide +kernel
theorem dX5_heardOf_35 : decode cX5_heardOf 35 = .ok (.ireturn, 1) := by decide +kernel
theorem dX5_moreSins_0 : decode cX5_moreSins 0 = .ok (.aload_n 0, 1) := by decide +kernel
theorem dX5_moreSins_1 : decode cX5_moreSins 1 = .ok (.getfield 22, 3) := by decide +kernel
theorem dX5_moreSins_4 : decode cX5_moreSins 4 = .ok (.iload_n 1, 1) := by decide +kernel
theorem dX5_moreSins_5 : decode cX5_moreSins 5 = .ok (.iaload, 1) := by decide +kernel
theorem dX5_moreSins_6 : decode cX5_moreSins 6 = .ok (.iconst 1, 1) := by decide +kernel
theorem dX5_moreSins_7 : decode cX5_moreSins 7 = .ok (.if_icmp .eq 13, 3) := by decide +kernel
theorem dX5_moreSins_10 : decode cX5_moreSins 10 = .ok (.aload_n 0, 1) := by decide +kernel
theorem dX5_moreSins_11 : decode cX5_moreSins 11 = .ok (.getfield 22, 3) := by decide +kernel
theorem dX5_moreSins_14 : decode cX5_moreSins 14 = .ok (.iload_n 1, 1) := by decide +kernel
theorem dX5_moreSins_15 : decode cX5_moreSins 15 = .ok (.iaload, 1) := by decide +kernel
theorem dX5_moreSins_16 : decode cX5_moreSins 16 = .ok (.iconst 5, 1) := by decide +kernel
theorem dX5_moreSins_17 : decode cX5_moreSins 17 = .ok (.if_icmp .ne 7, 3) := by decide +kernel
theorem dX5_moreSins_20 : decode cX5_moreSins 20 = .ok (.iconst 0, 1) := by decide +kernel
theorem dX5_moreSins_21 : decode cX5_moreSins 21 = .ok (.goto 18, 3) := by decide +kernel
theorem dX5_moreSins_24 : decode cX5_moreSins 24 = .ok (.aload_n 0, 1) := by decide +kernel
theorem dX5_moreSins_25 : decode cX5_moreSins 25 = .ok (.getfield 22, 3) := by decide +kernel
theorem dX5_moreSins_28 : decode cX5_moreSins 28 = .ok (.iload_n 1, 1) := by decide +kernel
theorem dX5_moreSins_29 : decode cX5_moreSins 29 = .ok (.iaload, 1) := by decide +kernel
theorem dX5_moreSins_30 : decode cX5_moreSins 30 = .ok (.iconst 3, 1) := by decide +kernel
theorem dX5_moreSins_31 : decode cX5_moreSins 31 = .ok (.if_icmp .ne 7, 3) := by decide +kernel
theorem dX5_moreSins_34 : decode cX5_moreSins 34 = .ok (.iconst 2, 1) := by decide +kernel
theorem dX5_moreSins_35 : decode cX5_moreSins 35 = .ok (.goto 4, 3) := by decide +kernel
theorem dX5_moreSins_38 : decode cX5_moreSins 38 = .ok (.iconst 1, 1) := by decide +kernel
theorem dX5_moreSins_39 : decode cX5_moreSins 39 = .ok (.ireturn, 1) := by decide +kernel
theorem dX5_holds_0 : decode cX5_holds 0 = .ok (.iconst 3, 1) := by decide +kernel
theorem dX5_holds_1 : decode cX5_holds 1 = .ok (.aload_n 0, 1) := by decide +kernel
theorem dX5_holds_2 : decode cX5_holds 2 = .ok (.getfield 13, 3) := by decide +kernel
theorem dX5_holds_5 : decode cX5_holds 5 = .ok (.iload_n 1, 1) := by decide +kernel
theorem dX5_holds_6 : decode cX5_holds 6 = .ok (.iaload, 1) := by decide +kernel
theorem dX5_holds_7 : decode cX5_holds 7 = .ok (.imul, 1) := by decide +kernel
theorem dX5_holds_8 : decode cX5_holds 8 = .ok (.iconst 2, 1) := by decide +kernel
theorem dX5_holds_9 : decode cX5_holds 9 = .ok (.iadd, 1) := by decide +kernel
theorem dX5_holds_10 : decode cX5_holds 10 = .ok (.aload_n 0, 1) := by decide +kernel
theorem dX5_holds_11 : decode cX5_holds 11 = .ok (.getfield 110, 3) := by decide +kernel
theorem dX5_holds_14 : decode cX5_holds 14 = .ok (.iconst 2, 1) := by decide +kernel
theorem dX5_holds_15 : decode cX5_holds 15 = .ok (.irem, 1) := by decide +kernel
theorem dX5_holds_16 : decode cX5_holds 16 = .ok (.ifCond .ne 7, 3) := by decide +kernel
theorem dX5_holds_19 : decode cX5_holds 19 = .ok (.iconst 2, 1) := by decide +kernel
theorem dX5_holds_20 : decode cX5_holds 20 = .ok (.goto 4, 3) := by decide +kernel
theorem dX5_holds_23 : decode cX5_holds 23 = .ok (.iconst 0, 1) := by decide +kernel
theorem dX5_holds_24 : decode cX5_holds 24 = .ok (.iadd, 1) := by decide +kernel
theorem dX5_holds_25 : decode cX5_holds 25 = .ok (.aload_n 0, 1) := by decide +kernel
theorem dX5_holds_26 : decode cX5_holds 26 = .ok (.getfield 160, 3) := by decide +kernel
theorem dX5_holds_29 : decode cX5_holds 29 = .ok (.bipush 10, 2) := by decide +kernel
theorem dX5_holds_31 : decode cX5_holds 31 = .ok (.idiv, 1) := by decide +kernel
theorem dX5_holds_32 : decode cX5_holds 32 = .ok (.iadd, 1) := by decide +kernel
theorem dX5_holds_33 : decode cX5_holds 33 = .ok (.ireturn, 1) := by decide +kernel
set_option maxRecDepth 20000 in
theorem ggX5_lacks_X5_holds : GoodIn wsX5_lacks wsX5_holds := goodIn_r _ [7, 8, 9, 10, 11, 12, 13, 14, 15, 16, 17, 18, 19, 20, 21, 22, 23, 24, 25, 26, 27, 28, 29, 30, 31, 32, 33, 34, 35, 36, 37] (by decide +kernel) (by decide +kernel)
set_option maxRecDepth 20000 in
theorem gX5_lacks_X5_holds : GoodIn wsX5_lacks (wsV RX5 173 RX5 yX5_holds wsX5_holds) := goodIn_app (goodIn_of _ (by decide +kernel)) ggX5_lacks_X5_holds
theorem dX5_lacks_0 : decode cX5_lacks 0 = .ok (.aload_n 0, 1) := by decide +kernel
theorem dX5_lacks_1 : decode cX5_lacks 1 = .ok (.getfield 19, 3) := by decide +kernel
theorem dX5_lacks_4 : decode cX5_lacks 4 = .ok (.iload_n 1, 1) := by decide +kernel
theorem dX5_lacks_5 : decode cX5_lacks 5 = .ok (.iaload, 1) := by decide +kernel
theorem dX5_lacks_6 : decode cX5_lacks 6 = .ok (.ifCond .gt 17, 3) := by decide +kernel
theorem dX5_lacks_9 : decode cX5_lacks 9 = .ok (.aload_n 0, 1) := by decide +kernel
theorem dX5_lacks_10 : decode cX5_lacks 10 = .ok (.getfield 16, 3) := by decide +kernel
theorem dX5_lacks_13 : decode cX5_lacks 13 = .ok (.iload_n 1, 1) := by decide +kernel
theorem dX5_lacks_14 : decode cX5_lacks 14 = .ok (.iaload, 1) := by decide +kernel
theorem dX5_lacks_15 : decode cX5_lacks 15 = .ok (.aload_n 0, 1) := by decide +kernel
theorem dX5_lacks_16 : decode cX5_lacks 16 = .ok (.iload_n 1, 1) := by decide +kernel
theorem dX5_lacks_17 : decode cX5_lacks 17 = .ok (.invokevirtual 173, 3) := by decide +kernel
theorem dX5_lacks_20 : decode cX5_lacks 20 = .ok (.if_icmp .lt 7, 3) := by decide +kernel
theorem dX5_lacks_23 : decode cX5_lacks 23 = .ok (.iconst 0, 1) := by decide +kernel
theorem dX5_lacks_24 : decode cX5_lacks 24 = .ok (.goto 15, 3) := by decide +kernel
theorem dX5_lacks_27 : decode cX5_lacks 27 = .ok (.aload_n 0, 1) := by decide +kernel
theorem dX5_lacks_28 : decode cX5_lacks 28 = .ok (.iload_n 1, 1) := by decide +kernel
theorem dX5_lacks_29 : decode cX5_lacks 29 = .ok (.invokevirtual 173, 3) := by decide +kernel
theorem dX5_lacks_32 : decode cX5_lacks 32 = .ok (.aload_n 0, 1) := by decide +kernel
theorem dX5_lacks_33 : decode cX5_lacks 33 = .ok (.getfield 16, 3) := by decide +kernel
theorem dX5_lacks_36 : decode cX5_lacks 36 = .ok (.iload_n 1, 1) := by decide +kernel
theorem dX5_lacks_37 : decode cX5_lacks 37 = .ok (.iaload, 1) := by decide +kernel
theorem dX5_lacks_38 : decode cX5_lacks 38 = .ok (.isub, 1) := by decide +kernel
theorem dX5_lacks_39 : decode cX5_lacks 39 = .ok (.ireturn, 1) := by decide +kernel
set_option maxRecDepth 20000 in
theorem ggX5_poolOn_X5_worthOn : GoodIn wsX5_poolOn wsX5_worthOn := goodIn_r _ [8, 9, 10, 11, 12, 13, 14, 15, 16, 17, 18, 19, 20, 21, 22, 23, 24, 25, 26, 27, 28, 29, 30, 31, 32, 33, 34, 35, 36, 37] (by decide +kernel) (by decide +kernel)
set_option maxRecDepth 20000 in
theorem gX5_poolOn_X5_worthOn : GoodIn wsX5_poolOn (wsV RX5 166 RX5 yX5_worthOn wsX5_worthOn) := goodIn_app (goodIn_of _ (by decide +kernel)) ggX5_poolOn_X5_worthOn
theorem dX5_poolOn_0 : decode cX5_poolOn 0 = .ok (.iconst 0, 1) := by decide +kernel
theorem dX5_poolOn_1 : decode cX5_poolOn 1 = .ok (.istore_n 3, 1) := by decide +kernel
theorem dX5_poolOn_2 : decode cX5_poolOn 2 = .ok (.iconst 0, 1) := by decide +kernel
theorem dX5_poolOn_3 : decode cX5_poolOn 3 = .ok (.istore 4, 2) := by decide +kernel
theorem dX5_poolOn_5 : decode cX5_poolOn 5 = .ok (.iload 4, 2) := by decide +kernel
theorem dX5_poolOn_7 : decode cX5_poolOn 7 = .ok (.aload_n 0, 1) := by decide +kernel
theorem dX5_poolOn_8 : decode cX5_poolOn 8 = .ok (.getfield 65, 3) := by decide +kernel
theorem dX5_poolOn_11 : decode cX5_poolOn 11 = .ok (.if_icmp .ge 42, 3) := by decide +kernel
theorem dX5_poolOn_14 : decode cX5_poolOn 14 = .ok (.iload_n 3, 1) := by decide +kernel
theorem dX5_poolOn_15 : decode cX5_poolOn 15 = .ok (.aload_n 0, 1) := by decide +kernel
theorem dX5_poolOn_16 : decode cX5_poolOn 16 = .ok (.getfield 31, 3) := by decide +kernel
theorem dX5_poolOn_19 : decode cX5_poolOn 19 = .ok (.iload 4, 2) := by decide +kernel
theorem dX5_poolOn_21 : decode cX5_poolOn 21 = .ok (.iaload, 1) := by decide +kernel
theorem dX5_poolOn_22 : decode cX5_poolOn 22 = .ok (.iload_n 1, 1) := by decide +kernel
theorem dX5_poolOn_23 : decode cX5_poolOn 23 = .ok (.if_icmp .ne 21, 3) := by decide +kernel
theorem dX5_poolOn_26 : decode cX5_poolOn 26 = .ok (.aload_n 0, 1) := by decide +kernel
theorem dX5_poolOn_27 : decode cX5_poolOn 27 = .ok (.getfield 28, 3) := by decide +kernel
theorem dX5_poolOn_30 : decode cX5_poolOn 30 = .ok (.iload 4, 2) := by decide +kernel
theorem dX5_poolOn_32 : decode cX5_poolOn 32 = .ok (.iaload, 1) := by decide +kernel
theorem dX5_poolOn_33 : decode cX5_poolOn 33 = .ok (.aload_n 0, 1) := by decide +kernel
theorem dX5_poolOn_34 : decode cX5_poolOn 34 = .ok (.iload 4, 2) := by decide +kernel
theorem dX5_poolOn_36 : decode cX5_poolOn 36 = .ok (.iload_n 2, 1) := by decide +kernel
theorem dX5_poolOn_37 : decode cX5_poolOn 37 = .ok (.invokevirtual 166, 3) := by decide +kernel
theorem dX5_poolOn_40 : decode cX5_poolOn 40 = .ok (.imul, 1) := by decide +kernel
theorem dX5_poolOn_41 : decode cX5_poolOn 41 = .ok (.goto 4, 3) := by decide +kernel
theorem dX5_poolOn_44 : decode cX5_poolOn 44 = .ok (.iconst 0, 1) := by decide +kernel
theorem dX5_poolOn_45 : decode cX5_poolOn 45 = .ok (.iadd, 1) := by decide +kernel
theorem dX5_poolOn_46 : decode cX5_poolOn 46 = .ok (.istore_n 3, 1) := by decide +kernel
theorem dX5_poolOn_47 : decode cX5_poolOn 47 = .ok (.iinc 4 1, 3) := by decide +kernel
theorem dX5_poolOn_50 : decode cX5_poolOn 50 = .ok (.goto (-45), 3) := by decide +kernel
theorem dX5_poolOn_53 : decode cX5_poolOn 53 = .ok (.iload_n 3, 1) := by decide +kernel
theorem dX5_poolOn_54 : decode cX5_poolOn 54 = .ok (.ireturn, 1) := by decide +kernel
set_option maxRecDepth 20000 in
theorem ggX5_pool_X5_poolOn : GoodIn wsX5_pool wsX5_poolOn := goodIn_r _ [6, 7, 8, 9, 10, 11, 12, 5, 13, 14, 15, 16, 17, 18, 19, 20, 21, 22, 23, 24, 25, 26, 27, 28, 29, 30, 31, 32, 33, 34, 35, 36, 37, 38, 39, 40, 41, 42] (by decide +kernel) (by decide +kernel)
set_option maxRecDepth 20000 in
theorem gX5_pool_X5_poolOn : GoodIn wsX5_pool (wsV RX5 176 RX5 yX5_poolOn wsX5_poolOn) := goodIn_app (goodIn_of _ (by decide +kernel)) ggX5_pool_X5_poolOn
theorem dX5_pool_0 : decode cX5_pool 0 = .ok (.aload_n 0, 1) := by decide +kernel
theorem dX5_pool_1 : decode cX5_pool 1 = .ok (.iload_n 1, 1) := by decide +kernel
theorem dX5_pool_2 : decode cX5_pool 2 = .ok (.aload_n 0, 1) := by decide +kernel
theorem dX5_pool_3 : decode cX5_pool 3 = .ok (.getfield 110, 3) := by decide +kernel
theorem dX5_pool_6 : decode cX5_pool 6 = .ok (.invokevirtual 176, 3) := by decide +kernel
theorem dX5_pool_9 : decode cX5_pool 9 = .ok (.ireturn, 1) := by decide +kernel
theorem dX5_crew_0 : decode cX5_crew 0 = .ok (.iconst 0, 1) := by decide +kernel
theorem dX5_crew_1 : decode cX5_crew 1 = .ok (.istore_n 2, 1) := by decide +kernel
theorem dX5_crew_2 : decode cX5_crew 2 = .ok (.iconst 0, 1) := by decide +kernel
theorem dX5_crew_3 : decode cX5_crew 3 = .ok (.istore_n 3, 1) := by decide +kernel
theorem dX5_crew_4 : decode cX5_crew 4 = .ok (.iload_n 3, 1) := by decide +kernel
theorem dX5_crew_5 : decode cX5_crew 5 = .ok (.aload_n 0, 1) := by decide +kernel
theorem dX5_crew_6 : decode cX5_crew 6 = .ok (.getfield 65, 3) := by decide +kernel
theorem dX5_crew_9 : decode cX5_crew 9 = .ok (.if_icmp .ge 29, 3) := by decide +kernel
theorem dX5_crew_12 : decode cX5_crew 12 = .ok (.iload_n 2, 1) := by decide +kernel
theorem dX5_crew_13 : decode cX5_crew 13 = .ok (.aload_n 0, 1) := by decide +kernel
theorem dX5_crew_14 : decode cX5_crew 14 = .ok (.getfield 31, 3) := by decide +kernel
theorem dX5_crew_17 : decode cX5_crew 17 = .ok (.iload_n 3, 1) := by decide +kernel
theorem dX5_crew_18 : decode cX5_crew 18 = .ok (.iaload, 1) := by decide +kernel
theorem dX5_crew_19 : decode cX5_crew 19 = .ok (.iload_n 1, 1) := by decide +kernel
theorem dX5_crew_20 : decode cX5_crew 20 = .ok (.if_icmp .ne 9, 3) := by decide +kernel
theorem dX5_crew_23 : decode cX5_crew 23 = .ok (.iconst 1, 1) := by decide +kernel
theorem dX5_crew_24 : decode cX5_crew 24 = .ok (.iload_n 3, 1) := by decide +kernel
theorem dX5_crew_25 : decode cX5_crew 25 = .ok (.ishl, 1) := by decide +kernel
theorem dX5_crew_26 : decode cX5_crew 26 = .ok (.goto 4, 3) := by decide +kernel
theorem dX5_crew_29 : decode cX5_crew 29 = .ok (.iconst 0, 1) := by decide +kernel
theorem dX5_crew_30 : decode cX5_crew 30 = .ok (.ior, 1) := by decide +kernel
theorem dX5_crew_31 : decode cX5_crew 31 = .ok (.istore_n 2, 1) := by decide +kernel
theorem dX5_crew_32 : decode cX5_crew 32 = .ok (.iinc 3 1, 3) := by decide +kernel
theorem dX5_crew_35 : decode cX5_crew 35 = .ok (.goto (-31), 3) := by decide +kernel
theorem dX5_crew_38 : decode cX5_crew 38 = .ok (.iload_n 2, 1) := by decide +kernel
theorem dX5_crew_39 : decode cX5_crew 39 = .ok (.ireturn, 1) := by decide +kernel
set_option maxRecDepth 20000 in
theorem ggX5_canTell_X5_isMan : GoodIn wsX5_canTell wsX5_isMan := goodIn_r _ [8, 9, 10, 11, 12, 13, 14, 15, 16, 17, 18, 19, 20, 21, 22, 23, 24, 25, 26, 27, 28, 29, 30, 31, 32, 33, 34, 35, 36] (by decide +kernel) (by decide +kernel)
set_option maxRecDepth 20000 in
theorem gX5_canTell_X5_isMan : GoodIn wsX5_canTell (wsV RX5 129 RX5 yX5_isMan wsX5_isMan) := goodIn_app (goodIn_of _ (by decide +kernel)) ggX5_canTell_X5_isMan
theorem dX5_canTell_0 : decode cX5_canTell 0 = .ok (.aload_n 0, 1) := by decide +kernel
theorem dX5_canTell_1 : decode cX5_canTell 1 = .ok (.iload_n 1, 1) := by decide +kernel
theorem dX5_canTell_2 : decode cX5_canTell 2 = .ok (.invokevirtual 129, 3) := by decide +kernel
theorem dX5_canTell_5 : decode cX5_canTell 5 = .ok (.ifCond .eq 30, 3) := by decide +kernel
theorem dX5_canTell_8 : decode cX5_canTell 8 = .ok (.aload_n 0, 1) := by decide +kernel
theorem dX5_canTell_9 : decode cX5_canTell 9 = .ok (.getfield 28, 3) := by decide +kernel
theorem dX5_canTell_12 : decode cX5_canTell 12 = .ok (.iload_n 1, 1) := by decide +kernel
theorem dX5_canTell_13 : decode cX5_canTell 13 = .ok (.iaload, 1) := by decide +kernel
theorem dX5_canTell_14 : decode cX5_canTell 14 = .ok (.ifCond .le 21, 3) := by decide +kernel
theorem dX5_canTell_17 : decode cX5_canTell 17 = .ok (.aload_n 0, 1) := by decide +kernel
theorem dX5_canTell_18 : decode cX5_canTell 18 = .ok (.getfield 19, 3) := by decide +kernel
theorem dX5_canTell_21 : decode cX5_canTell 21 = .ok (.aload_n 0, 1) := by decide +kernel
theorem dX5_canTell_22 : decode cX5_canTell 22 = .ok (.getfield 31, 3) := by decide +kernel
theorem dX5_canTell_25 : decode cX5_canTell 25 = .ok (.iload_n 1, 1) := by decide +kernel
theorem dX5_canTell_26 : decode cX5_canTell 26 = .ok (.iaload, 1) := by decide +kernel
theorem dX5_canTell_27 : decode cX5_canTell 27 = .ok (.iaload, 1) := by decide +kernel
theorem dX5_canTell_28 : decode cX5_canTell 28 = .ok (.ifCond .ne 7, 3) := by decide +kernel
theorem dX5_canTell_31 : decode cX5_canTell 31 = .ok (.iconst 1, 1) := by decide +kernel
theorem dX5_canTell_32 : decode cX5_canTell 32 = .ok (.goto 4, 3) := by decide +kernel
theorem dX5_canTell_35 : decode cX5_canTell 35 = .ok (.iconst 0, 1) := by decide +kernel
theorem dX5_canTell_36 : decode cX5_canTell 36 = .ok (.ireturn, 1) := by decide +kernel
set_option maxRecDepth 20000 in
theorem ggX5_rises_X5_holds : GoodIn wsX5_rises wsX5_holds := goodIn_r _ [8, 9, 10, 11, 12, 13, 14, 15, 16, 17, 18, 19, 20, 21, 22, 23, 24, 25, 26, 27, 28, 29, 30, 31, 32, 33, 34, 35, 36, 37, 38] (by decide +kernel) (by decide +kernel)
set_option maxRecDepth 20000 in
theorem gX5_rises_X5_holds : GoodIn wsX5_rises (wsV RX5 173 RX5 yX5_holds wsX5_holds) := goodIn_app (goodIn_of _ (by decide +kernel)) ggX5_rises_X5_holds
theorem dX5_rises_0 : decode cX5_rises 0 = .ok (.iconst 0, 1) := by decide +kernel
theorem dX5_rises_1 : decode cX5_rises 1 = .ok (.istore_n 1, 1) := by decide +kernel
theorem dX5_rises_2 : decode cX5_rises 2 = .ok (.iconst 0, 1) := by decide +kernel
theorem dX5_rises_3 : decode cX5_rises 3 = .ok (.istore_n 2, 1) := by decide +kernel
theorem dX5_rises_4 : decode cX5_rises 4 = .ok (.iload_n 2, 1) := by decide +kernel
theorem dX5_rises_5 : decode cX5_rises 5 = .ok (.aload_n 0, 1) := by decide +kernel
theorem dX5_rises_6 : decode cX5_rises 6 = .ok (.getfield 58, 3) := by decide +kernel
theorem dX5_rises_9 : decode cX5_rises 9 = .ok (.if_icmp .ge 52, 3) := by decide +kernel
theorem dX5_rises_12 : decode cX5_rises 12 = .ok (.aload_n 0, 1) := by decide +kernel
theorem dX5_rises_13 : decode cX5_rises 13 = .ok (.getfield 19, 3) := by decide +kernel
theorem dX5_rises_16 : decode cX5_rises 16 = .ok (.iload_n 2, 1) := by decide +kernel
theorem dX5_rises_17 : decode cX5_rises 17 = .ok (.iaload, 1) := by decide +kernel
theorem dX5_rises_18 : decode cX5_rises 18 = .ok (.ifCond .gt 37, 3) := by decide +kernel
theorem dX5_rises_21 : decode cX5_rises 21 = .ok (.aload_n 0, 1) := by decide +kernel
theorem dX5_rises_22 : decode cX5_rises 22 = .ok (.getfield 16, 3) := by decide +kernel
theorem dX5_rises_25 : decode cX5_rises 25 = .ok (.iload_n 2, 1) := by decide +kernel
theorem dX5_rises_26 : decode cX5_rises 26 = .ok (.iaload, 1) := by decide +kernel
theorem dX5_rises_27 : decode cX5_rises 27 = .ok (.aload_n 0, 1) := by decide +kernel
theorem dX5_rises_28 : decode cX5_rises 28 = .ok (.iload_n 2, 1) := by decide +kernel
theorem dX5_rises_29 : decode cX5_rises 29 = .ok (.invokevirtual 173, 3) := by decide +kernel
theorem dX5_rises_32 : decode cX5_rises 32 = .ok (.if_icmp .ge 6, 3) := by decide +kernel
theorem dX5_rises_35 : decode cX5_rises 35 = .ok (.goto 20, 3) := by decide +kernel
theorem dX5_rises_38 : decode cX5_rises 38 = .ok (.aload_n 0, 1) := by decide +kernel
theorem dX5_rises_39 : decode cX5_rises 39 = .ok (.getfield 19, 3) := by decide +kernel
theorem dX5_rises_42 : decode cX5_rises 42 = .ok (.iload_n 2, 1) := by decide +kernel
theorem dX5_rises_43 : decode cX5_rises 43 = .ok (.iconst 3, 1) := by decide +kernel
theorem dX5_rises_44 : decode cX5_rises 44 = .ok (.iastore, 1) := by decide +kernel
theorem dX5_rises_45 : decode cX5_rises 45 = .ok (.aload_n 0, 1) := by decide +kernel
theorem dX5_rises_46 : decode cX5_rises 46 = .ok (.getfield 16, 3) := by decide +kernel
theorem dX5_rises_49 : decode cX5_rises 49 = .ok (.iload_n 2, 1) := by decide +kernel
theorem dX5_rises_50 : decode cX5_rises 50 = .ok (.iconst 0, 1) := by decide +kernel
theorem dX5_rises_51 : decode cX5_rises 51 = .ok (.iastore, 1) := by decide +kernel
theorem dX5_rises_52 : decode cX5_rises 52 = .ok (.iinc 1 1, 3) := by decide +kernel
theorem dX5_rises_55 : decode cX5_rises 55 = .ok (.iinc 2 1, 3) := by decide +kernel
theorem dX5_rises_58 : decode cX5_rises 58 = .ok (.goto (-54), 3) := by decide +kernel
theorem dX5_rises_61 : decode cX5_rises 61 = .ok (.iload_n 1, 1) := by decide +kernel
theorem dX5_rises_62 : decode cX5_rises 62 = .ok (.ireturn, 1) := by decide +kernel
set_option maxRecDepth 20000 in
theorem ggX5_tellsOne_X5_held : GoodIn wsX5_tellsOne wsX5_held := goodIn_r _ [10] (by decide +kernel) (by decide +kernel)
set_option maxRecDepth 20000 in
theorem gX5_tellsOne_X5_held : GoodIn wsX5_tellsOne (va_wsS RX5 179 yX5_held wsX5_held) := goodIn_app (goodIn_of _ (by decide +kernel)) ggX5_tellsOne_X5_held
set_option maxRecDepth 20000 in
theorem ggX5_tellsOne_X5_worth : GoodIn wsX5_tellsOne wsX5_worth := goodIn_r _ [14, 15, 16, 17, 18, 9, 19, 20, 21, 35, 36, 37, 38, 39, 40, 41, 42, 43, 44, 45, 46, 47, 48, 49, 50, 51, 52, 53, 54, 55, 56, 57, 58, 59, 60, 61] (by decide +kernel) (by decide +kernel)
set_option maxRecDepth 20000 in
theorem gX5_tellsOne_X5_worth : GoodIn wsX5_tellsOne (wsV RX5 170 RX5 yX5_worth wsX5_worth) := goodIn_app (goodIn_of _ (by decide +kernel)) ggX5_tellsOne_X5_worth
set_option maxRecDepth 20000 in
theorem ggX5_tellsOne_X5_heardOf : GoodIn wsX5_tellsOne wsX5_heardOf := goodIn_r _ [25, 21, 11, 12, 13, 9, 14, 15, 16, 17, 18, 19, 20, 35, 36, 37, 38, 39, 40, 41, 42, 43, 44, 45, 46, 47, 48, 49, 50, 51, 52, 53, 54, 55, 56, 57, 58, 59, 60, 61] (by decide +kernel) (by decide +kernel)
set_option maxRecDepth 20000 in
theorem gX5_tellsOne_X5_heardOf : GoodIn wsX5_tellsOne (wsV RX5 182 RX5 yX5_heardOf wsX5_heardOf) := goodIn_app (goodIn_of _ (by decide +kernel)) ggX5_tellsOne_X5_heardOf
set_option maxRecDepth 20000 in
theorem ggX5_tellsOne_X5_rises : GoodIn wsX5_tellsOne wsX5_rises := goodIn_r _ [29, 3, 4, 5, 30, 31, 32, 9, 33, 34, 15, 2, 35, 36, 37, 38, 39, 40, 41, 42, 43, 44, 45, 46, 47, 48, 49, 50, 51, 52, 53, 54, 55, 56, 57, 58, 59, 60, 61] (by decide +kernel) (by decide +kernel)
set_option maxRecDepth 20000 in
theorem gX5_tellsOne_X5_rises : GoodIn wsX5_tellsOne (wsV RX5 185 RX5 yX5_rises wsX5_rises) := goodIn_app (goodIn_of _ (by decide +kernel)) ggX5_tellsOne_X5_rises
theorem dX5_tellsOne_0 : decode cX5_tellsOne 0 = .ok (.aload_n 0, 1) := by decide +kernel
theorem dX5_tellsOne_1 : decode cX5_tellsOne 1 = .ok (.getfield 28, 3) := by decide +kernel
theorem dX5_tellsOne_4 : decode cX5_tellsOne 4 = .ok (.iload_n 1, 1) := by decide +kernel
theorem dX5_tellsOne_5 : decode cX5_tellsOne 5 = .ok (.dup2, 1) := by decide +kernel
theorem dX5_tellsOne_6 : decode cX5_tellsOne 6 = .ok (.iaload, 1) := by decide +kernel
theorem dX5_tellsOne_7 : decode cX5_tellsOne 7 = .ok (.iconst 1, 1) := by decide +kernel
theorem dX5_tellsOne_8 : decode cX5_tellsOne 8 = .ok (.isub, 1) := by decide +kernel
theorem dX5_tellsOne_9 : decode cX5_tellsOne 9 = .ok (.iastore, 1) := by decide +kernel
theorem dX5_tellsOne_10 : decode cX5_tellsOne 10 = .ok (.aload_n 0, 1) := by decide +kernel
theorem dX5_tellsOne_11 : decode cX5_tellsOne 11 = .ok (.aload_n 0, 1) := by decide +kernel
theorem dX5_tellsOne_12 : decode cX5_tellsOne 12 = .ok (.getfield 160, 3) := by decide +kernel
theorem dX5_tellsOne_15 : decode cX5_tellsOne 15 = .ok (.iconst 1, 1) := by decide +kernel
theorem dX5_tellsOne_16 : decode cX5_tellsOne 16 = .ok (.iadd, 1) := by decide +kernel
theorem dX5_tellsOne_17 : decode cX5_tellsOne 17 = .ok (.iconst 0, 1) := by decide +kernel
theorem dX5_tellsOne_18 : decode cX5_tellsOne 18 = .ok (.sipush 999, 3) := by decide +kernel
theorem dX5_tellsOne_21 : decode cX5_tellsOne 21 = .ok (.invokestatic 179, 3) := by decide +kernel
theorem dX5_tellsOne_24 : decode cX5_tellsOne 24 = .ok (.putfield 160, 3) := by decide +kernel
theorem dX5_tellsOne_27 : decode cX5_tellsOne 27 = .ok (.iconst 0, 1) := by decide +kernel
theorem dX5_tellsOne_28 : decode cX5_tellsOne 28 = .ok (.istore_n 2, 1) := by decide +kernel
theorem dX5_tellsOne_29 : decode cX5_tellsOne 29 = .ok (.iload_n 2, 1) := by decide +kernel
theorem dX5_tellsOne_30 : decode cX5_tellsOne 30 = .ok (.aload_n 0, 1) := by decide +kernel
theorem dX5_tellsOne_31 : decode cX5_tellsOne 31 = .ok (.getfield 58, 3) := by decide +kernel
theorem dX5_tellsOne_34 : decode cX5_tellsOne 34 = .ok (.if_icmp .ge 60, 3) := by decide +kernel
theorem dX5_tellsOne_37 : decode cX5_tellsOne 37 = .ok (.aload_n 0, 1) := by decide +kernel
theorem dX5_tellsOne_38 : decode cX5_tellsOne 38 = .ok (.getfield 19, 3) := by decide +kernel
theorem dX5_tellsOne_41 : decode cX5_tellsOne 41 = .ok (.iload_n 2, 1) := by decide +kernel
theorem dX5_tellsOne_42 : decode cX5_tellsOne 42 = .ok (.iaload, 1) := by decide +kernel
theorem dX5_tellsOne_43 : decode cX5_tellsOne 43 = .ok (.ifCond .ne 45, 3) := by decide +kernel
theorem dX5_tellsOne_46 : decode cX5_tellsOne 46 = .ok (.aload_n 0, 1) := by decide +kernel
theorem dX5_tellsOne_47 : decode cX5_tellsOne 47 = .ok (.getfield 16, 3) := by decide +kernel
theorem dX5_tellsOne_50 : decode cX5_tellsOne 50 = .ok (.iload_n 2, 1) := by decide +kernel
theorem dX5_tellsOne_51 : decode cX5_tellsOne 51 = .ok (.aload_n 0, 1) := by decide +kernel
theorem dX5_tellsOne_52 : decode cX5_tellsOne 52 = .ok (.getfield 16, 3) := by decide +kernel
theorem dX5_tellsOne_55 : decode cX5_tellsOne 55 = .ok (.iload_n 2, 1) := by decide +kernel
theorem dX5_tellsOne_56 : decode cX5_tellsOne 56 = .ok (.iaload, 1) := by decide +kernel
theorem dX5_tellsOne_57 : decode cX5_tellsOne 57 = .ok (.iload_n 2, 1) := by decide +kernel
theorem dX5_tellsOne_58 : decode cX5_tellsOne 58 = .ok (.aload_n 0, 1) := by decide +kernel
theorem dX5_tellsOne_59 : decode cX5_tellsOne 59 = .ok (.getfield 31, 3) := by decide +kernel
theorem dX5_tellsOne_62 : decode cX5_tellsOne 62 = .ok (.iload_n 1, 1) := by decide +kernel
theorem dX5_tellsOne_63 : decode cX5_tellsOne 63 = .ok (.iaload, 1) := by decide +kernel
theorem dX5_tellsOne_64 : decode cX5_tellsOne 64 = .ok (.if_icmp .ne 11, 3) := by decide +kernel
theorem dX5_tellsOne_67 : decode cX5_tellsOne 67 = .ok (.aload_n 0, 1) := by decide +kernel
theorem dX5_tellsOne_68 : decode cX5_tellsOne 68 = .ok (.iload_n 1, 1) := by decide +kernel
theorem dX5_tellsOne_69 : decode cX5_tellsOne 69 = .ok (.invokevirtual 170, 3) := by decide +kernel
theorem dX5_tellsOne_72 : decode cX5_tellsOne 72 = .ok (.goto 8, 3) := by decide +kernel
theorem dX5_tellsOne_75 : decode cX5_tellsOne 75 = .ok (.aload_n 0, 1) := by decide +kernel
theorem dX5_tellsOne_76 : decode cX5_tellsOne 76 = .ok (.iload_n 1, 1) := by decide +kernel
theorem dX5_tellsOne_77 : decode cX5_tellsOne 77 = .ok (.invokevirtual 182, 3) := by decide +kernel
theorem dX5_tellsOne_80 : decode cX5_tellsOne 80 = .ok (.iadd, 1) := by decide +kernel
theorem dX5_tellsOne_81 : decode cX5_tellsOne 81 = .ok (.iconst 0, 1) := by decide +kernel
theorem dX5_tellsOne_82 : decode cX5_tellsOne 82 = .ok (.bipush 99, 2) := by decide +kernel
theorem dX5_tellsOne_84 : decode cX5_tellsOne 84 = .ok (.invokestatic 179, 3) := by decide +kernel
theorem dX5_tellsOne_87 : decode cX5_tellsOne 87 = .ok (.iastore, 1) := by decide +kernel
theorem dX5_tellsOne_88 : decode cX5_tellsOne 88 = .ok (.iinc 2 1, 3) := by decide +kernel
theorem dX5_tellsOne_91 : decode cX5_tellsOne 91 = .ok (.goto (-62), 3) := by decide +kernel
theorem dX5_tellsOne_94 : decode cX5_tellsOne 94 = .ok (.aload_n 0, 1) := by decide +kernel
theorem dX5_tellsOne_95 : decode cX5_tellsOne 95 = .ok (.invokevirtual 185, 3) := by decide +kernel
theorem dX5_tellsOne_98 : decode cX5_tellsOne 98 = .ok (.ireturn, 1) := by decide +kernel
set_option maxRecDepth 20000 in
theorem ggX5_goesTide_X5_moreSins : GoodIn wsX5_goesTide wsX5_moreSins := goodIn_r _ [11, 12, 16, 17, 18, 19, 20, 21, 22, 23, 24, 25, 26, 27, 28, 29, 30, 31, 32, 33, 34, 35, 36, 37, 38, 39, 40, 41, 42] (by decide +kernel) (by decide +kernel)
set_option maxRecDepth 20000 in
theorem gX5_goesTide_X5_moreSins : GoodIn wsX5_goesTide (wsV RX5 188 RX5 yX5_moreSins wsX5_moreSins) := goodIn_app (goodIn_of _ (by decide +kernel)) ggX5_goesTide_X5_moreSins
set_option maxRecDepth 20000 in
theorem ggX5_goesTide_X5_held : GoodIn wsX5_goesTide wsX5_held := goodIn_r _ [15] (by decide +kernel) (by decide +kernel)
set_option maxRecDepth 20000 in
theorem gX5_goesTide_X5_held : GoodIn wsX5_goesTide (va_wsS RX5 179 yX5_held wsX5_held) := goodIn_app (goodIn_of _ (by decide +kernel)) ggX5_goesTide_X5_held
theorem dX5_goesTide_0 : decode cX5_goesTide 0 = .ok (.aload_n 0, 1) := by decide +kernel
theorem dX5_goesTide_1 : decode cX5_goesTide 1 = .ok (.dup, 1) := by decide +kernel
theorem dX5_goesTide_2 : decode cX5_goesTide 2 = .ok (.getfield 110, 3) := by decide +kernel
theorem dX5_goesTide_5 : decode cX5_goesTide 5 = .ok (.iconst 1, 1) := by decide +kernel
theorem dX5_goesTide_6 : decode cX5_goesTide 6 = .ok (.iadd, 1) := by decide +kernel
theorem dX5_goesTide_7 : decode cX5_goesTide 7 = .ok (.putfield 110, 3) := by decide +kernel
theorem dX5_goesTide_10 : decode cX5_goesTide 10 = .ok (.iconst 0, 1) := by decide +kernel
theorem dX5_goesTide_11 : decode cX5_goesTide 11 = .ok (.istore_n 1, 1) := by decide +kernel
theorem dX5_goesTide_12 : decode cX5_goesTide 12 = .ok (.iload_n 1, 1) := by decide +kernel
theorem dX5_goesTide_13 : decode cX5_goesTide 13 = .ok (.aload_n 0, 1) := by decide +kernel
theorem dX5_goesTide_14 : decode cX5_goesTide 14 = .ok (.getfield 65, 3) := by decide +kernel
theorem dX5_goesTide_17 : decode cX5_goesTide 17 = .ok (.if_icmp .ge 47, 3) := by decide +kernel
theorem dX5_goesTide_20 : decode cX5_goesTide 20 = .ok (.aload_n 0, 1) := by decide +kernel
theorem dX5_goesTide_21 : decode cX5_goesTide 21 = .ok (.getfield 19, 3) := by decide +kernel
theorem dX5_goesTide_24 : decode cX5_goesTide 24 = .ok (.aload_n 0, 1) := by decide +kernel
theorem dX5_goesTide_25 : decode cX5_goesTide 25 = .ok (.getfield 31, 3) := by decide +kernel
theorem dX5_goesTide_28 : decode cX5_goesTide 28 = .ok (.iload_n 1, 1) := by decide +kernel
theorem dX5_goesTide_29 : decode cX5_goesTide 29 = .ok (.iaload, 1) := by decide +kernel
theorem dX5_goesTide_30 : decode cX5_goesTide 30 = .ok (.iaload, 1) := by decide +kernel
theorem dX5_goesTide_31 : decode cX5_goesTide 31 = .ok (.ifCond .le 27, 3) := by decide +kernel
theorem dX5_goesTide_34 : decode cX5_goesTide 34 = .ok (.aload_n 0, 1) := by decide +kernel
theorem dX5_goesTide_35 : decode cX5_goesTide 35 = .ok (.getfield 28, 3) := by decide +kernel
theorem dX5_goesTide_38 : decode cX5_goesTide 38 = .ok (.iload_n 1, 1) := by decide +kernel
theorem dX5_goesTide_39 : decode cX5_goesTide 39 = .ok (.aload_n 0, 1) := by decide +kernel
theorem dX5_goesTide_40 : decode cX5_goesTide 40 = .ok (.getfield 28, 3) := by decide +kernel
theorem dX5_goesTide_43 : decode cX5_goesTide 43 = .ok (.iload_n 1, 1) := by decide +kernel
theorem dX5_goesTide_44 : decode cX5_goesTide 44 = .ok (.iaload, 1) := by decide +kernel
theorem dX5_goesTide_45 : decode cX5_goesTide 45 = .ok (.aload_n 0, 1) := by decide +kernel
theorem dX5_goesTide_46 : decode cX5_goesTide 46 = .ok (.iload_n 1, 1) := by decide +kernel
theorem dX5_goesTide_47 : decode cX5_goesTide 47 = .ok (.invokevirtual 188, 3) := by decide +kernel
theorem dX5_goesTide_50 : decode cX5_goesTide 50 = .ok (.iadd, 1) := by decide +kernel
theorem dX5_goesTide_51 : decode cX5_goesTide 51 = .ok (.iconst 0, 1) := by decide +kernel
theorem dX5_goesTide_52 : decode cX5_goesTide 52 = .ok (.bipush 9, 2) := by decide +kernel
theorem dX5_goesTide_54 : decode cX5_goesTide 54 = .ok (.invokestatic 179, 3) := by decide +kernel
theorem dX5_goesTide_57 : decode cX5_goesTide 57 = .ok (.iastore, 1) := by decide +kernel
theorem dX5_goesTide_58 : decode cX5_goesTide 58 = .ok (.iinc 1 1, 3) := by decide +kernel
theorem dX5_goesTide_61 : decode cX5_goesTide 61 = .ok (.goto (-49), 3) := by decide +kernel
theorem dX5_goesTide_64 : decode cX5_goesTide 64 = .ok (.iconst 0, 1) := by decide +kernel
theorem dX5_goesTide_65 : decode cX5_goesTide 65 = .ok (.istore_n 1, 1) := by decide +kernel
theorem dX5_goesTide_66 : decode cX5_goesTide 66 = .ok (.iload_n 1, 1) := by decide +kernel
theorem dX5_goesTide_67 : decode cX5_goesTide 67 = .ok (.aload_n 0, 1) := by decide +kernel
theorem dX5_goesTide_68 : decode cX5_goesTide 68 = .ok (.getfield 58, 3) := by decide +kernel
theorem dX5_goesTide_71 : decode cX5_goesTide 71 = .ok (.if_icmp .ge 32, 3) := by decide +kernel
theorem dX5_goesTide_74 : decode cX5_goesTide 74 = .ok (.aload_n 0, 1) := by decide +kernel
theorem dX5_goesTide_75 : decode cX5_goesTide 75 = .ok (.getfield 19, 3) := by decide +kernel
theorem dX5_goesTide_78 : decode cX5_goesTide 78 = .ok (.iload_n 1, 1) := by decide +kernel
theorem dX5_goesTide_79 : decode cX5_goesTide 79 = .ok (.dup2, 1) := by decide +kernel
theorem dX5_goesTide_80 : decode cX5_goesTide 80 = .ok (.iaload, 1) := by decide +kernel
theorem dX5_goesTide_81 : decode cX5_goesTide 81 = .ok (.aload_n 0, 1) := by decide +kernel
theorem dX5_goesTide_82 : decode cX5_goesTide 82 = .ok (.getfield 19, 3) := by decide +kernel
theorem dX5_goesTide_85 : decode cX5_goesTide 85 = .ok (.iload_n 1, 1) := by decide +kernel
theorem dX5_goesTide_86 : decode cX5_goesTide 86 = .ok (.iaload, 1) := by decide +kernel
theorem dX5_goesTide_87 : decode cX5_goesTide 87 = .ok (.ifCond .le 7, 3) := by decide +kernel
theorem dX5_goesTide_90 : decode cX5_goesTide 90 = .ok (.iconst 1, 1) := by decide +kernel
theorem dX5_goesTide_91 : decode cX5_goesTide 91 = .ok (.goto 4, 3) := by decide +kernel
theorem dX5_goesTide_94 : decode cX5_goesTide 94 = .ok (.iconst 0, 1) := by decide +kernel
theorem dX5_goesTide_95 : decode cX5_goesTide 95 = .ok (.isub, 1) := by decide +kernel
theorem dX5_goesTide_96 : decode cX5_goesTide 96 = .ok (.iastore, 1) := by decide +kernel
theorem dX5_goesTide_97 : decode cX5_goesTide 97 = .ok (.iinc 1 1, 3) := by decide +kernel
theorem dX5_goesTide_100 : decode cX5_goesTide 100 = .ok (.goto (-34), 3) := by decide +kernel
theorem dX5_goesTide_103 : decode cX5_goesTide 103 = .ok (.return_, 1) := by decide +kernel
set_option maxRecDepth 20000 in
theorem ggX5_goes_X5_goesTide : GoodIn wsX5_goes wsX5_goesTide := goodIn_r _ [5, 6, 7, 8, 9, 10, 11, 12, 13, 14, 4, 15, 16, 17, 18, 19, 20, 21, 22, 23, 24, 25, 26, 27, 28, 29, 30, 31, 32, 33, 34, 35, 36, 37, 38, 39, 40, 41, 42, 43, 44, 45, 46] (by decide +kernel) (by decide +kernel)
set_option maxRecDepth 20000 in
theorem gX5_goes_X5_goesTide : GoodIn wsX5_goes (wsV RX5 191 RX5 yX5_goesTide wsX5_goesTide) := goodIn_app (goodIn_of _ (by decide +kernel)) ggX5_goes_X5_goesTide
theorem dX5_goes_0 : decode cX5_goes 0 = .ok (.iconst 0, 1) := by decide +kernel
theorem dX5_goes_1 : decode cX5_goes 1 = .ok (.istore_n 2, 1) := by decide +kernel
theorem dX5_goes_2 : decode cX5_goes 2 = .ok (.iload_n 2, 1) := by decide +kernel
theorem dX5_goes_3 : decode cX5_goes 3 = .ok (.iload_n 1, 1) := by decide +kernel
theorem dX5_goes_4 : decode cX5_goes 4 = .ok (.if_icmp .ge 13, 3) := by decide +kernel
theorem dX5_goes_7 : decode cX5_goes 7 = .ok (.aload_n 0, 1) := by decide +kernel
theorem dX5_goes_8 : decode cX5_goes 8 = .ok (.invokevirtual 191, 3) := by decide +kernel
theorem dX5_goes_11 : decode cX5_goes 11 = .ok (.iinc 2 1, 3) := by decide +kernel
theorem dX5_goes_14 : decode cX5_goes 14 = .ok (.goto (-12), 3) := by decide +kernel
theorem dX5_goes_17 : decode cX5_goes 17 = .ok (.return_, 1) := by decide +kernel
theorem dX5_outOnes_0 : decode cX5_outOnes 0 = .ok (.iconst 0, 1) := by decide +kernel
theorem dX5_outOnes_1 : decode cX5_outOnes 1 = .ok (.istore_n 1, 1) := by decide +kernel
theorem dX5_outOnes_2 : decode cX5_outOnes 2 = .ok (.iconst 0, 1) := by decide +kernel
theorem dX5_outOnes_3 : decode cX5_outOnes 3 = .ok (.istore_n 2, 1) := by decide +kernel
theorem dX5_outOnes_4 : decode cX5_outOnes 4 = .ok (.iload_n 2, 1) := by decide +kernel
theorem dX5_outOnes_5 : decode cX5_outOnes 5 = .ok (.aload_n 0, 1) := by decide +kernel
theorem dX5_outOnes_6 : decode cX5_outOnes 6 = .ok (.getfield 58, 3) := by decide +kernel
theorem dX5_outOnes_9 : decode cX5_outOnes 9 = .ok (.if_icmp .ge 28, 3) := by decide +kernel
theorem dX5_outOnes_12 : decode cX5_outOnes 12 = .ok (.iload_n 1, 1) := by decide +kernel
theorem dX5_outOnes_13 : decode cX5_outOnes 13 = .ok (.aload_n 0, 1) := by decide +kernel
theorem dX5_outOnes_14 : decode cX5_outOnes 14 = .ok (.getfield 19, 3) := by decide +kernel
theorem dX5_outOnes_17 : decode cX5_outOnes 17 = .ok (.iload_n 2, 1) := by decide +kernel
theorem dX5_outOnes_18 : decode cX5_outOnes 18 = .ok (.iaload, 1) := by decide +kernel
theorem dX5_outOnes_19 : decode cX5_outOnes 19 = .ok (.ifCond .le 9, 3) := by decide +kernel
theorem dX5_outOnes_22 : decode cX5_outOnes 22 = .ok (.iconst 1, 1) := by decide +kernel
theorem dX5_outOnes_23 : decode cX5_outOnes 23 = .ok (.iload_n 2, 1) := by decide +kernel
theorem dX5_outOnes_24 : decode cX5_outOnes 24 = .ok (.ishl, 1) := by decide +kernel
theorem dX5_outOnes_25 : decode cX5_outOnes 25 = .ok (.goto 4, 3) := by decide +kernel
theorem dX5_outOnes_28 : decode cX5_outOnes 28 = .ok (.iconst 0, 1) := by decide +kernel
theorem dX5_outOnes_29 : decode cX5_outOnes 29 = .ok (.ior, 1) := by decide +kernel
theorem dX5_outOnes_30 : decode cX5_outOnes 30 = .ok (.istore_n 1, 1) := by decide +kernel
theorem dX5_outOnes_31 : decode cX5_outOnes 31 = .ok (.iinc 2 1, 3) := by decide +kernel
theorem dX5_outOnes_34 : decode cX5_outOnes 34 = .ok (.goto (-30), 3) := by decide +kernel
theorem dX5_outOnes_37 : decode cX5_outOnes 37 = .ok (.iload_n 1, 1) := by decide +kernel
theorem dX5_outOnes_38 : decode cX5_outOnes 38 = .ok (.ireturn, 1) := by decide +kernel
theorem dX5_allSins_0 : decode cX5_allSins 0 = .ok (.iconst 0, 1) := by decide +kernel
theorem dX5_allSins_1 : decode cX5_allSins 1 = .ok (.istore_n 1, 1) := by decide +kernel
theorem dX5_allSins_2 : decode cX5_allSins 2 = .ok (.iconst 0, 1) := by decide +kernel
theorem dX5_allSins_3 : decode cX5_allSins 3 = .ok (.istore_n 2, 1) := by decide +kernel
theorem dX5_allSins_4 : decode cX5_allSins 4 = .ok (.iload_n 2, 1) := by decide +kernel
theorem dX5_allSins_5 : decode cX5_allSins 5 = .ok (.aload_n 0, 1) := by decide +kernel
theorem dX5_allSins_6 : decode cX5_allSins 6 = .ok (.getfield 65, 3) := by decide +kernel
theorem dX5_allSins_9 : decode cX5_allSins 9 = .ok (.if_icmp .ge 18, 3) := by decide +kernel
theorem dX5_allSins_12 : decode cX5_allSins 12 = .ok (.iload_n 1, 1) := by decide +kernel
theorem dX5_allSins_13 : decode cX5_allSins 13 = .ok (.aload_n 0, 1) := by decide +kernel
theorem dX5_allSins_14 : decode cX5_allSins 14 = .ok (.getfield 28, 3) := by decide +kernel
theorem dX5_allSins_17 : decode cX5_allSins 17 = .ok (.iload_n 2, 1) := by decide +kernel
theorem dX5_allSins_18 : decode cX5_allSins 18 = .ok (.iaload, 1) := by decide +kernel
theorem dX5_allSins_19 : decode cX5_allSins 19 = .ok (.iadd, 1) := by decide +kernel
theorem dX5_allSins_20 : decode cX5_allSins 20 = .ok (.istore_n 1, 1) := by decide +kernel
theorem dX5_allSins_21 : decode cX5_allSins 21 = .ok (.iinc 2 1, 3) := by decide +kernel
theorem dX5_allSins_24 : decode cX5_allSins 24 = .ok (.goto (-20), 3) := by decide +kernel
theorem dX5_allSins_27 : decode cX5_allSins 27 = .ok (.iload_n 1, 1) := by decide +kernel
theorem dX5_allSins_28 : decode cX5_allSins 28 = .ok (.ireturn, 1) := by decide +kernel
set_option maxRecDepth 20000 in
theorem ggX5_ship_X5_isShip : GoodIn wsX5_ship wsX5_isShip := goodIn_r _ [8, 9, 46, 47, 48, 49, 50, 51, 52, 53, 54, 55, 56, 57, 58, 59, 60, 61, 62, 63, 64, 65, 66, 67, 68, 69, 70, 71, 72] (by decide +kernel) (by decide +kernel)
set_option maxRecDepth 20000 in
theorem gX5_ship_X5_isShip : GoodIn wsX5_ship (wsV RX5 107 RX5 yX5_isShip wsX5_isShip) := goodIn_app (goodIn_of _ (by decide +kernel)) ggX5_ship_X5_isShip
set_option maxRecDepth 20000 in
theorem ggX5_ship_X5_no : GoodIn wsX5_ship wsX5_no := goodIn_r _ [13, 14, 46, 47, 48, 49, 50, 51, 52, 53, 54, 55, 56, 57, 58, 59, 60, 61, 62, 63, 64, 65, 66, 67, 68, 69, 70, 71, 72] (by decide +kernel) (by decide +kernel)
set_option maxRecDepth 20000 in
theorem gX5_ship_X5_no : GoodIn wsX5_ship (wsV RX5 75 RX5 yX5_no wsX5_no) := goodIn_app (goodIn_of _ (by decide +kernel)) ggX5_ship_X5_no
set_option maxRecDepth 20000 in
theorem ggX5_ship_X5_holds : GoodIn wsX5_ship wsX5_holds := goodIn_r _ [18, 1, 19, 20, 46, 47, 48, 49, 50, 51, 52, 53, 54, 55, 56, 57, 58, 59, 60, 61, 62, 63, 64, 65, 66, 67, 68, 69, 70, 71, 72] (by decide +kernel) (by decide +kernel)
set_option maxRecDepth 20000 in
theorem gX5_ship_X5_holds : GoodIn wsX5_ship (wsV RX5 173 RX5 yX5_holds wsX5_holds) := goodIn_app (goodIn_of _ (by decide +kernel)) ggX5_ship_X5_holds
set_option maxRecDepth 20000 in
theorem ggX5_ship_X5_lacks : GoodIn wsX5_ship wsX5_lacks := goodIn_r _ [24, 3, 2, 15, 16, 17, 7, 18, 1, 19, 20, 46, 47, 48, 49, 50, 51, 52, 53, 54, 55, 56, 57, 58, 59, 60, 61, 62, 63, 64, 65, 66, 67, 68, 69, 70, 71, 72] (by decide +kernel) (by decide +kernel)
set_option maxRecDepth 20000 in
theorem gX5_ship_X5_lacks : GoodIn wsX5_ship (wsV RX5 194 RX5 yX5_lacks wsX5_lacks) := goodIn_app (goodIn_of _ (by decide +kernel)) ggX5_ship_X5_lacks
set_option maxRecDepth 20000 in
theorem ggX5_ship_X5_pool : GoodIn wsX5_ship wsX5_pool := goodIn_r _ [28, 19, 29, 30, 31, 7, 32, 33, 34, 35, 36, 37, 38, 39, 40, 41, 46, 47, 48, 49, 50, 51, 52, 53, 54, 55, 56, 57, 58, 59, 60, 61, 62, 63, 64, 65, 66, 67, 68, 69, 70, 71, 72] (by decide +kernel) (by decide +kernel)
set_option maxRecDepth 20000 in
theorem gX5_ship_X5_pool : GoodIn wsX5_ship (wsV RX5 197 RX5 yX5_pool wsX5_pool) := goodIn_app (goodIn_of _ (by decide +kernel)) ggX5_ship_X5_pool
set_option maxRecDepth 20000 in
theorem ggX5_ship_X5_crew : GoodIn wsX5_ship wsX5_crew := goodIn_r _ [45, 33, 34, 46, 47, 48, 49, 50, 51, 52, 53, 54, 55, 56, 57, 58, 59, 60, 61, 62, 63, 64, 65, 66, 67, 68, 69, 70, 71, 72] (by decide +kernel) (by decide +kernel)
set_option maxRecDepth 20000 in
theorem gX5_ship_X5_crew : GoodIn wsX5_ship (wsV RX5 200 RX5 yX5_crew wsX5_crew) := goodIn_app (goodIn_of _ (by decide +kernel)) ggX5_ship_X5_crew
theorem dX5_ship_0 : decode cX5_ship 0 = .ok (.aload_n 0, 1) := by decide +kernel
theorem dX5_ship_1 : decode cX5_ship 1 = .ok (.iload_n 1, 1) := by decide +kernel
theorem dX5_ship_2 : decode cX5_ship 2 = .ok (.invokevirtual 107, 3) := by decide +kernel
theorem dX5_ship_5 : decode cX5_ship 5 = .ok (.ifCond .ne 9, 3) := by decide +kernel
theorem dX5_ship_8 : decode cX5_ship 8 = .ok (.aload_n 0, 1) := by decide +kernel
theorem dX5_ship_9 : decode cX5_ship 9 = .ok (.iconst (-1), 1) := by decide +kernel
theorem dX5_ship_10 : decode cX5_ship 10 = .ok (.invokevirtual 75, 3) := by decide +kernel
theorem dX5_ship_13 : decode cX5_ship 13 = .ok (.ireturn, 1) := by decide +kernel
theorem dX5_ship_14 : decode cX5_ship 14 = .ok (.iload_n 2, 1) := by decide +kernel
theorem dX5_ship_15 : decode cX5_ship 15 = .ok (.tableswitch 86 0 6 #[41, 48, 55, 62, 68, 74, 80], 41) := by decide +kernel
theorem dX5_ship_56 : decode cX5_ship 56 = .ok (.aload_n 0, 1) := by decide +kernel
theorem dX5_ship_57 : decode cX5_ship 57 = .ok (.getfield 13, 3) := by decide +kernel
theorem dX5_ship_60 : decode cX5_ship 60 = .ok (.iload_n 1, 1) := by decide +kernel
theorem dX5_ship_61 : decode cX5_ship 61 = .ok (.iaload, 1) := by decide +kernel
theorem dX5_ship_62 : decode cX5_ship 62 = .ok (.ireturn, 1) := by decide +kernel
theorem dX5_ship_63 : decode cX5_ship 63 = .ok (.aload_n 0, 1) := by decide +kernel
theorem dX5_ship_64 : decode cX5_ship 64 = .ok (.getfield 16, 3) := by decide +kernel
theorem dX5_ship_67 : decode cX5_ship 67 = .ok (.iload_n 1, 1) := by decide +kernel
theorem dX5_ship_68 : decode cX5_ship 68 = .ok (.iaload, 1) := by decide +kernel
theorem dX5_ship_69 : decode cX5_ship 69 = .ok (.ireturn, 1) := by decide +kernel
theorem dX5_ship_70 : decode cX5_ship 70 = .ok (.aload_n 0, 1) := by decide +kernel
theorem dX5_ship_71 : decode cX5_ship 71 = .ok (.getfield 19, 3) := by decide +kernel
theorem dX5_ship_74 : decode cX5_ship 74 = .ok (.iload_n 1, 1) := by decide +kernel
theorem dX5_ship_75 : decode cX5_ship 75 = .ok (.iaload, 1) := by decide +kernel
theorem dX5_ship_76 : decode cX5_ship 76 = .ok (.ireturn, 1) := by decide +kernel
theorem dX5_ship_77 : decode cX5_ship 77 = .ok (.aload_n 0, 1) := by decide +kernel
theorem dX5_ship_78 : decode cX5_ship 78 = .ok (.iload_n 1, 1) := by decide +kernel
theorem dX5_ship_79 : decode cX5_ship 79 = .ok (.invokevirtual 173, 3) := by decide +kernel
theorem dX5_ship_82 : decode cX5_ship 82 = .ok (.ireturn, 1) := by decide +kernel
theorem dX5_ship_83 : decode cX5_ship 83 = .ok (.aload_n 0, 1) := by decide +kernel
theorem dX5_ship_84 : decode cX5_ship 84 = .ok (.iload_n 1, 1) := by decide +kernel
theorem dX5_ship_85 : decode cX5_ship 85 = .ok (.invokevirtual 194, 3) := by decide +kernel
theorem dX5_ship_88 : decode cX5_ship 88 = .ok (.ireturn, 1) := by decide +kernel
theorem dX5_ship_89 : decode cX5_ship 89 = .ok (.aload_n 0, 1) := by decide +kernel
theorem dX5_ship_90 : decode cX5_ship 90 = .ok (.iload_n 1, 1) := by decide +kernel
theorem dX5_ship_91 : decode cX5_ship 91 = .ok (.invokevirtual 197, 3) := by decide +kernel
theorem dX5_ship_94 : decode cX5_ship 94 = .ok (.ireturn, 1) := by decide +kernel
theorem dX5_ship_95 : decode cX5_ship 95 = .ok (.aload_n 0, 1) := by decide +kernel
theorem dX5_ship_96 : decode cX5_ship 96 = .ok (.iload_n 1, 1) := by decide +kernel
theorem dX5_ship_97 : decode cX5_ship 97 = .ok (.invokevirtual 200, 3) := by decide +kernel
theorem dX5_ship_100 : decode cX5_ship 100 = .ok (.ireturn, 1) := by decide +kernel
theorem dX5_ship_101 : decode cX5_ship 101 = .ok (.aload_n 0, 1) := by decide +kernel
theorem dX5_ship_102 : decode cX5_ship 102 = .ok (.bipush (-2), 2) := by decide +kernel
theorem dX5_ship_104 : decode cX5_ship 104 = .ok (.invokevirtual 75, 3) := by decide +kernel
theorem dX5_ship_107 : decode cX5_ship 107 = .ok (.ireturn, 1) := by decide +kernel
set_option maxRecDepth 20000 in
theorem ggX5_man_X5_isMan : GoodIn wsX5_man wsX5_isMan := goodIn_r _ [9, 10, 34, 35, 36, 37, 38, 39, 40, 41, 42, 43, 44, 45, 46, 47, 48, 49, 50, 51, 52, 53, 54, 55, 56, 57, 58, 59, 60] (by decide +kernel) (by decide +kernel)
set_option maxRecDepth 20000 in
theorem gX5_man_X5_isMan : GoodIn wsX5_man (wsV RX5 129 RX5 yX5_isMan wsX5_isMan) := goodIn_app (goodIn_of _ (by decide +kernel)) ggX5_man_X5_isMan
set_option maxRecDepth 20000 in
theorem ggX5_man_X5_no : GoodIn wsX5_man wsX5_no := goodIn_r _ [14, 15, 34, 35, 36, 37, 38, 39, 40, 41, 42, 43, 44, 45, 46, 47, 48, 49, 50, 51, 52, 53, 54, 55, 56, 57, 58, 59, 60] (by decide +kernel) (by decide +kernel)
set_option maxRecDepth 20000 in
theorem gX5_man_X5_no : GoodIn wsX5_man (wsV RX5 75 RX5 yX5_no wsX5_no) := goodIn_app (goodIn_of _ (by decide +kernel)) ggX5_man_X5_no
set_option maxRecDepth 20000 in
theorem ggX5_man_X5_worth : GoodIn wsX5_man wsX5_worth := goodIn_r _ [19, 20, 21, 22, 23, 8, 24, 2, 1, 34, 35, 36, 37, 38, 39, 40, 41, 42, 43, 44, 45, 46, 47, 48, 49, 50, 51, 52, 53, 54, 55, 56, 57, 58, 59, 60] (by decide +kernel) (by decide +kernel)
set_option maxRecDepth 20000 in
theorem gX5_man_X5_worth : GoodIn wsX5_man (wsV RX5 170 RX5 yX5_worth wsX5_worth) := goodIn_app (goodIn_of _ (by decide +kernel)) ggX5_man_X5_worth
set_option maxRecDepth 20000 in
theorem ggX5_man_X5_heardOf : GoodIn wsX5_man wsX5_heardOf := goodIn_r _ [28, 1, 16, 17, 18, 8, 19, 20, 21, 22, 23, 24, 2, 34, 35, 36, 37, 38, 39, 40, 41, 42, 43, 44, 45, 46, 47, 48, 49, 50, 51, 52, 53, 54, 55, 56, 57, 58, 59, 60] (by decide +kernel) (by decide +kernel)
set_option maxRecDepth 20000 in
theorem gX5_man_X5_heardOf : GoodIn wsX5_man (wsV RX5 182 RX5 yX5_heardOf wsX5_heardOf) := goodIn_app (goodIn_of _ (by decide +kernel)) ggX5_man_X5_heardOf
set_option maxRecDepth 20000 in
theorem ggX5_man_X5_canTell : GoodIn wsX5_man wsX5_canTell := goodIn_r _ [32, 3, 33, 4, 5, 6, 7, 8, 9, 10, 34, 35, 36, 37, 38, 39, 40, 41, 42, 43, 44, 45, 46, 47, 48, 49, 50, 51, 52, 53, 54, 55, 56, 57, 58, 59, 60] (by decide +kernel) (by decide +kernel)
set_option maxRecDepth 20000 in
theorem gX5_man_X5_canTell : GoodIn wsX5_man (wsV RX5 123 RX5 yX5_canTell wsX5_canTell) := goodIn_app (goodIn_of _ (by decide +kernel)) ggX5_man_X5_canTell
theorem dX5_man_0 : decode cX5_man 0 = .ok (.aload_n 0, 1) := by decide +kernel
theorem dX5_man_1 : decode cX5_man 1 = .ok (.iload_n 1, 1) := by decide +kernel
theorem dX5_man_2 : decode cX5_man 2 = .ok (.invokevirtual 129, 3) := by decide +kernel
theorem dX5_man_5 : decode cX5_man 5 = .ok (.ifCond .ne 9, 3) := by decide +kernel
theorem dX5_man_8 : decode cX5_man 8 = .ok (.aload_n 0, 1) := by decide +kernel
theorem dX5_man_9 : decode cX5_man 9 = .ok (.iconst (-1), 1) := by decide +kernel
theorem dX5_man_10 : decode cX5_man 10 = .ok (.invokevirtual 75, 3) := by decide +kernel
theorem dX5_man_13 : decode cX5_man 13 = .ok (.ireturn, 1) := by decide +kernel
theorem dX5_man_14 : decode cX5_man 14 = .ok (.iload_n 2, 1) := by decide +kernel
theorem dX5_man_15 : decode cX5_man 15 = .ok (.tableswitch 95 0 6 #[41, 48, 55, 62, 69, 75, 81], 41) := by decide +kernel
theorem dX5_man_56 : decode cX5_man 56 = .ok (.aload_n 0, 1) := by decide +kernel
theorem dX5_man_57 : decode cX5_man 57 = .ok (.getfield 22, 3) := by decide +kernel
theorem dX5_man_60 : decode cX5_man 60 = .ok (.iload_n 1, 1) := by decide +kernel
theorem dX5_man_61 : decode cX5_man 61 = .ok (.iaload, 1) := by decide +kernel
theorem dX5_man_62 : decode cX5_man 62 = .ok (.ireturn, 1) := by decide +kernel
theorem dX5_man_63 : decode cX5_man 63 = .ok (.aload_n 0, 1) := by decide +kernel
theorem dX5_man_64 : decode cX5_man 64 = .ok (.getfield 25, 3) := by decide +kernel
theorem dX5_man_67 : decode cX5_man 67 = .ok (.iload_n 1, 1) := by decide +kernel
theorem dX5_man_68 : decode cX5_man 68 = .ok (.iaload, 1) := by decide +kernel
theorem dX5_man_69 : decode cX5_man 69 = .ok (.ireturn, 1) := by decide +kernel
theorem dX5_man_70 : decode cX5_man 70 = .ok (.aload_n 0, 1) := by decide +kernel
theorem dX5_man_71 : decode cX5_man 71 = .ok (.getfield 28, 3) := by decide +kernel
theorem dX5_man_74 : decode cX5_man 74 = .ok (.iload_n 1, 1) := by decide +kernel
theorem dX5_man_75 : decode cX5_man 75 = .ok (.iaload, 1) := by decide +kernel
theorem dX5_man_76 : decode cX5_man 76 = .ok (.ireturn, 1) := by decide +kernel
theorem dX5_man_77 : decode cX5_man 77 = .ok (.aload_n 0, 1) := by decide +kernel
theorem dX5_man_78 : decode cX5_man 78 = .ok (.getfield 31, 3) := by decide +kernel
theorem dX5_man_81 : decode cX5_man 81 = .ok (.iload_n 1, 1) := by decide +kernel
theorem dX5_man_82 : decode cX5_man 82 = .ok (.iaload, 1) := by decide +kernel
theorem dX5_man_83 : decode cX5_man 83 = .ok (.ireturn, 1) := by decide +kernel
theorem dX5_man_84 : decode cX5_man 84 = .ok (.aload_n 0, 1) := by decide +kernel
theorem dX5_man_85 : decode cX5_man 85 = .ok (.iload_n 1, 1) := by decide +kernel
theorem dX5_man_86 : decode cX5_man 86 = .ok (.invokevirtual 170, 3) := by decide +kernel
theorem dX5_man_89 : decode cX5_man 89 = .ok (.ireturn, 1) := by decide +kernel
theorem dX5_man_90 : decode cX5_man 90 = .ok (.aload_n 0, 1) := by decide +kernel
theorem dX5_man_91 : decode cX5_man 91 = .ok (.iload_n 1, 1) := by decide +kernel
theorem dX5_man_92 : decode cX5_man 92 = .ok (.invokevirtual 182, 3) := by decide +kernel
theorem dX5_man_95 : decode cX5_man 95 = .ok (.ireturn, 1) := by decide +kernel
theorem dX5_man_96 : decode cX5_man 96 = .ok (.aload_n 0, 1) := by decide +kernel
theorem dX5_man_97 : decode cX5_man 97 = .ok (.iload_n 1, 1) := by decide +kernel
theorem dX5_man_98 : decode cX5_man 98 = .ok (.invokevirtual 123, 3) := by decide +kernel
theorem dX5_man_101 : decode cX5_man 101 = .ok (.ifCond .eq 7, 3) := by decide +kernel
theorem dX5_man_104 : decode cX5_man 104 = .ok (.iconst 1, 1) := by decide +kernel
theorem dX5_man_105 : decode cX5_man 105 = .ok (.goto 4, 3) := by decide +kernel
theorem dX5_man_108 : decode cX5_man 108 = .ok (.iconst 0, 1) := by decide +kernel
theorem dX5_man_109 : decode cX5_man 109 = .ok (.ireturn, 1) := by decide +kernel
theorem dX5_man_110 : decode cX5_man 110 = .ok (.aload_n 0, 1) := by decide +kernel
theorem dX5_man_111 : decode cX5_man 111 = .ok (.bipush (-2), 2) := by decide +kernel
theorem dX5_man_113 : decode cX5_man 113 = .ok (.invokevirtual 75, 3) := by decide +kernel
theorem dX5_man_116 : decode cX5_man 116 = .ok (.ireturn, 1) := by decide +kernel
set_option maxRecDepth 20000 in
theorem ggX5_tells_X5_isMan : GoodIn wsX5_tells wsX5_isMan := goodIn_r _ [5, 6, 53, 54, 55, 56, 57, 58, 59, 60, 61, 62, 63, 64, 65, 66, 67, 68, 69, 70, 71, 72, 73, 74, 75, 76, 77, 78, 79] (by decide +kernel) (by decide +kernel)
set_option maxRecDepth 20000 in
theorem gX5_tells_X5_isMan : GoodIn wsX5_tells (wsV RX5 129 RX5 yX5_isMan wsX5_isMan) := goodIn_app (goodIn_of _ (by decide +kernel)) ggX5_tells_X5_isMan
set_option maxRecDepth 20000 in
theorem ggX5_tells_X5_canTell : GoodIn wsX5_tells wsX5_canTell := goodIn_r _ [10, 11, 12, 13, 1, 2, 3, 4, 5, 6, 53, 54, 55, 56, 57, 58, 59, 60, 61, 62, 63, 64, 65, 66, 67, 68, 69, 70, 71, 72, 73, 74, 75, 76, 77, 78, 79] (by decide +kernel) (by decide +kernel)
set_option maxRecDepth 20000 in
theorem gX5_tells_X5_canTell : GoodIn wsX5_tells (wsV RX5 123 RX5 yX5_canTell wsX5_canTell) := goodIn_app (goodIn_of _ (by decide +kernel)) ggX5_tells_X5_canTell
set_option maxRecDepth 20000 in
theorem ggX5_tells_X5_no : GoodIn wsX5_tells wsX5_no := goodIn_r _ [17, 18, 53, 54, 55, 56, 57, 58, 59, 60, 61, 62, 63, 64, 65, 66, 67, 68, 69, 70, 71, 72, 73, 74, 75, 76, 77, 78, 79] (by decide +kernel) (by decide +kernel)
set_option maxRecDepth 20000 in
theorem gX5_tells_X5_no : GoodIn wsX5_tells (wsV RX5 75 RX5 yX5_no wsX5_no) := goodIn_app (goodIn_of _ (by decide +kernel)) ggX5_tells_X5_no
set_option maxRecDepth 20000 in
theorem ggX5_tells_X5_tellsOne : GoodIn wsX5_tells wsX5_tellsOne := goodIn_r _ [22, 11, 23, 24, 12, 25, 13, 26, 27, 4, 28, 29, 30, 31, 32, 33, 34, 35, 36, 37, 38, 39, 40, 41, 42, 43, 44, 45, 46, 47, 48, 49, 50, 51, 52, 53, 54, 55, 56, 57, 58, 59, 60, 61, 62, 63, 64, 65, 66, 67, 68, 69, 70, 71, 72, 73, 74, 75, 76, 77, 78, 79] (by decide +kernel) (by decide +kernel)
set_option maxRecDepth 20000 in
theorem gX5_tells_X5_tellsOne : GoodIn wsX5_tells (wsV RX5 126 RX5 yX5_tellsOne wsX5_tellsOne) := goodIn_app (goodIn_of _ (by decide +kernel)) ggX5_tells_X5_tellsOne
theorem dX5_tells_0 : decode cX5_tells 0 = .ok (.aload_n 0, 1) := by decide +kernel
theorem dX5_tells_1 : decode cX5_tells 1 = .ok (.iload_n 1, 1) := by decide +kernel
theorem dX5_tells_2 : decode cX5_tells 2 = .ok (.invokevirtual 129, 3) := by decide +kernel
theorem dX5_tells_5 : decode cX5_tells 5 = .ok (.ifCond .ne 7, 3) := by decide +kernel
theorem dX5_tells_8 : decode cX5_tells 8 = .ok (.iconst (-1), 1) := by decide +kernel
theorem dX5_tells_9 : decode cX5_tells 9 = .ok (.goto 17, 3) := by decide +kernel
theorem dX5_tells_12 : decode cX5_tells 12 = .ok (.aload_n 0, 1) := by decide +kernel
theorem dX5_tells_13 : decode cX5_tells 13 = .ok (.iload_n 1, 1) := by decide +kernel
theorem dX5_tells_14 : decode cX5_tells 14 = .ok (.invokevirtual 123, 3) := by decide +kernel
theorem dX5_tells_17 : decode cX5_tells 17 = .ok (.ifCond .ne 8, 3) := by decide +kernel
theorem dX5_tells_20 : decode cX5_tells 20 = .ok (.bipush (-3), 2) := by decide +kernel
theorem dX5_tells_22 : decode cX5_tells 22 = .ok (.goto 4, 3) := by decide +kernel
theorem dX5_tells_25 : decode cX5_tells 25 = .ok (.iconst 0, 1) := by decide +kernel
theorem dX5_tells_26 : decode cX5_tells 26 = .ok (.istore_n 2, 1) := by decide +kernel
theorem dX5_tells_27 : decode cX5_tells 27 = .ok (.iload_n 2, 1) := by decide +kernel
theorem dX5_tells_28 : decode cX5_tells 28 = .ok (.ifCond .eq 11, 3) := by decide +kernel
theorem dX5_tells_31 : decode cX5_tells 31 = .ok (.aload_n 0, 1) := by decide +kernel
theorem dX5_tells_32 : decode cX5_tells 32 = .ok (.iload_n 2, 1) := by decide +kernel
theorem dX5_tells_33 : decode cX5_tells 33 = .ok (.invokevirtual 75, 3) := by decide +kernel
theorem dX5_tells_36 : decode cX5_tells 36 = .ok (.goto 8, 3) := by decide +kernel
theorem dX5_tells_39 : decode cX5_tells 39 = .ok (.aload_n 0, 1) := by decide +kernel
theorem dX5_tells_40 : decode cX5_tells 40 = .ok (.iload_n 1, 1) := by decide +kernel
theorem dX5_tells_41 : decode cX5_tells 41 = .ok (.invokevirtual 126, 3) := by decide +kernel
theorem dX5_tells_44 : decode cX5_tells 44 = .ok (.ireturn, 1) := by decide +kernel
set_option maxRecDepth 20000 in
theorem ggX5_boards_X5_isMan : GoodIn wsX5_boards wsX5_isMan := goodIn_r _ [6, 7, 18, 19, 20, 21, 22, 23, 24, 25, 26, 27, 28, 29, 30, 31, 32, 33, 34, 35, 36, 37, 38, 39, 40, 41, 42, 43, 44] (by decide +kernel) (by decide +kernel)
set_option maxRecDepth 20000 in
theorem gX5_boards_X5_isMan : GoodIn wsX5_boards (wsV RX5 129 RX5 yX5_isMan wsX5_isMan) := goodIn_app (goodIn_of _ (by decide +kernel)) ggX5_boards_X5_isMan
set_option maxRecDepth 20000 in
theorem ggX5_boards_X5_isShip : GoodIn wsX5_boards wsX5_isShip := goodIn_r _ [11, 12, 18, 19, 20, 21, 22, 23, 24, 25, 26, 27, 28, 29, 30, 31, 32, 33, 34, 35, 36, 37, 38, 39, 40, 41, 42, 43, 44] (by decide +kernel) (by decide +kernel)
set_option maxRecDepth 20000 in
theorem gX5_boards_X5_isShip : GoodIn wsX5_boards (wsV RX5 107 RX5 yX5_isShip wsX5_isShip) := goodIn_app (goodIn_of _ (by decide +kernel)) ggX5_boards_X5_isShip
set_option maxRecDepth 20000 in
theorem ggX5_boards_X5_no : GoodIn wsX5_boards wsX5_no := goodIn_r _ [16, 17, 18, 19, 20, 21, 22, 23, 24, 25, 26, 27, 28, 29, 30, 31, 32, 33, 34, 35, 36, 37, 38, 39, 40, 41, 42, 43, 44] (by decide +kernel) (by decide +kernel)
set_option maxRecDepth 20000 in
theorem gX5_boards_X5_no : GoodIn wsX5_boards (wsV RX5 75 RX5 yX5_no wsX5_no) := goodIn_app (goodIn_of _ (by decide +kernel)) ggX5_boards_X5_no
theorem dX5_boards_0 : decode cX5_boards 0 = .ok (.aload_n 0, 1) := by decide +kernel
theorem dX5_boards_1 : decode cX5_boards 1 = .ok (.iload_n 1, 1) := by decide +kernel
theorem dX5_boards_2 : decode cX5_boards 2 = .ok (.invokevirtual 129, 3) := by decide +kernel
theorem dX5_boards_5 : decode cX5_boards 5 = .ok (.ifCond .eq 11, 3) := by decide +kernel
theorem dX5_boards_8 : decode cX5_boards 8 = .ok (.aload_n 0, 1) := by decide +kernel
theorem dX5_boards_9 : decode cX5_boards 9 = .ok (.iload_n 2, 1) := by decide +kernel
theorem dX5_boards_10 : decode cX5_boards 10 = .ok (.invokevirtual 107, 3) := by decide +kernel
theorem dX5_boards_13 : decode cX5_boards 13 = .ok (.ifCond .ne 9, 3) := by decide +kernel
theorem dX5_boards_16 : decode cX5_boards 16 = .ok (.aload_n 0, 1) := by decide +kernel
theorem dX5_boards_17 : decode cX5_boards 17 = .ok (.iconst (-1), 1) := by decide +kernel
theorem dX5_boards_18 : decode cX5_boards 18 = .ok (.invokevirtual 75, 3) := by decide +kernel
theorem dX5_boards_21 : decode cX5_boards 21 = .ok (.ireturn, 1) := by decide +kernel
theorem dX5_boards_22 : decode cX5_boards 22 = .ok (.aload_n 0, 1) := by decide +kernel
theorem dX5_boards_23 : decode cX5_boards 23 = .ok (.getfield 31, 3) := by decide +kernel
theorem dX5_boards_26 : decode cX5_boards 26 = .ok (.iload_n 1, 1) := by decide +kernel
theorem dX5_boards_27 : decode cX5_boards 27 = .ok (.iaload, 1) := by decide +kernel
theorem dX5_boards_28 : decode cX5_boards 28 = .ok (.istore_n 3, 1) := by decide +kernel
theorem dX5_boards_29 : decode cX5_boards 29 = .ok (.aload_n 0, 1) := by decide +kernel
theorem dX5_boards_30 : decode cX5_boards 30 = .ok (.getfield 31, 3) := by decide +kernel
theorem dX5_boards_33 : decode cX5_boards 33 = .ok (.iload_n 1, 1) := by decide +kernel
theorem dX5_boards_34 : decode cX5_boards 34 = .ok (.iload_n 2, 1) := by decide +kernel
theorem dX5_boards_35 : decode cX5_boards 35 = .ok (.iastore, 1) := by decide +kernel
theorem dX5_boards_36 : decode cX5_boards 36 = .ok (.iload_n 3, 1) := by decide +kernel
theorem dX5_boards_37 : decode cX5_boards 37 = .ok (.ireturn, 1) := by decide +kernel
set_option maxRecDepth 20000 in
theorem ggX5_sins_X5_isMan : GoodIn wsX5_sins wsX5_isMan := goodIn_r _ [6, 7, 16, 17, 18, 19, 20, 21, 22, 23, 24, 25, 26, 27, 28, 29, 30, 31, 32, 33, 34, 35, 36, 37, 38, 39, 40, 41, 42] (by decide +kernel) (by decide +kernel)
set_option maxRecDepth 20000 in
theorem gX5_sins_X5_isMan : GoodIn wsX5_sins (wsV RX5 129 RX5 yX5_isMan wsX5_isMan) := goodIn_app (goodIn_of _ (by decide +kernel)) ggX5_sins_X5_isMan
set_option maxRecDepth 20000 in
theorem ggX5_sins_X5_bound : GoodIn wsX5_sins wsX5_bound := goodIn_r _ [10] (by decide +kernel) (by decide +kernel)
set_option maxRecDepth 20000 in
theorem gX5_sins_X5_bound : GoodIn wsX5_sins (va_wsS RX5 68 yX5_bound wsX5_bound) := goodIn_app (goodIn_of _ (by decide +kernel)) ggX5_sins_X5_bound
set_option maxRecDepth 20000 in
theorem ggX5_sins_X5_no : GoodIn wsX5_sins wsX5_no := goodIn_r _ [14, 15, 16, 17, 18, 19, 20, 21, 22, 23, 24, 25, 26, 27, 28, 29, 30, 31, 32, 33, 34, 35, 36, 37, 38, 39, 40, 41, 42] (by decide +kernel) (by decide +kernel)
set_option maxRecDepth 20000 in
theorem gX5_sins_X5_no : GoodIn wsX5_sins (wsV RX5 75 RX5 yX5_no wsX5_no) := goodIn_app (goodIn_of _ (by decide +kernel)) ggX5_sins_X5_no
theorem dX5_sins_0 : decode cX5_sins 0 = .ok (.aload_n 0, 1) := by decide +kernel
theorem dX5_sins_1 : decode cX5_sins 1 = .ok (.iload_n 1, 1) := by decide +kernel
theorem dX5_sins_2 : decode cX5_sins 2 = .ok (.invokevirtual 129, 3) := by decide +kernel
theorem dX5_sins_5 : decode cX5_sins 5 = .ok (.ifCond .ne 7, 3) := by decide +kernel
theorem dX5_sins_8 : decode cX5_sins 8 = .ok (.iconst (-1), 1) := by decide +kernel
theorem dX5_sins_9 : decode cX5_sins 9 = .ok (.goto 10, 3) := by decide +kernel
theorem dX5_sins_12 : decode cX5_sins 12 = .ok (.iload_n 2, 1) := by decide +kernel
theorem dX5_sins_13 : decode cX5_sins 13 = .ok (.iconst 0, 1) := by decide +kernel
theorem dX5_sins_14 : decode cX5_sins 14 = .ok (.bipush 9, 2) := by decide +kernel
theorem dX5_sins_16 : decode cX5_sins 16 = .ok (.invokestatic 68, 3) := by decide +kernel
theorem dX5_sins_19 : decode cX5_sins 19 = .ok (.istore_n 3, 1) := by decide +kernel
theorem dX5_sins_20 : decode cX5_sins 20 = .ok (.iload_n 3, 1) := by decide +kernel
theorem dX5_sins_21 : decode cX5_sins 21 = .ok (.ifCond .eq 9, 3) := by decide +kernel
theorem dX5_sins_24 : decode cX5_sins 24 = .ok (.aload_n 0, 1) := by decide +kernel
theorem dX5_sins_25 : decode cX5_sins 25 = .ok (.iload_n 3, 1) := by decide +kernel
theorem dX5_sins_26 : decode cX5_sins 26 = .ok (.invokevirtual 75, 3) := by decide +kernel
theorem dX5_sins_29 : decode cX5_sins 29 = .ok (.ireturn, 1) := by decide +kernel
theorem dX5_sins_30 : decode cX5_sins 30 = .ok (.aload_n 0, 1) := by decide +kernel
theorem dX5_sins_31 : decode cX5_sins 31 = .ok (.getfield 28, 3) := by decide +kernel
theorem dX5_sins_34 : decode cX5_sins 34 = .ok (.iload_n 1, 1) := by decide +kernel
theorem dX5_sins_35 : decode cX5_sins 35 = .ok (.iaload, 1) := by decide +kernel
theorem dX5_sins_36 : decode cX5_sins 36 = .ok (.istore 4, 2) := by decide +kernel
theorem dX5_sins_38 : decode cX5_sins 38 = .ok (.aload_n 0, 1) := by decide +kernel
theorem dX5_sins_39 : decode cX5_sins 39 = .ok (.getfield 28, 3) := by decide +kernel
theorem dX5_sins_42 : decode cX5_sins 42 = .ok (.iload_n 1, 1) := by decide +kernel
theorem dX5_sins_43 : decode cX5_sins 43 = .ok (.iload_n 2, 1) := by decide +kernel
theorem dX5_sins_44 : decode cX5_sins 44 = .ok (.iastore, 1) := by decide +kernel
theorem dX5_sins_45 : decode cX5_sins 45 = .ok (.iload 4, 2) := by decide +kernel
theorem dX5_sins_47 : decode cX5_sins 47 = .ok (.ireturn, 1) := by decide +kernel
set_option maxRecDepth 20000 in
theorem ggX5_loads_X5_isShip : GoodIn wsX5_loads wsX5_isShip := goodIn_r _ [6, 7, 16, 17, 18, 19, 20, 21, 22, 23, 24, 25, 26, 27, 28, 29, 30, 31, 32, 33, 34, 35, 36, 37, 38, 39, 40, 41, 42] (by decide +kernel) (by decide +kernel)
set_option maxRecDepth 20000 in
theorem gX5_loads_X5_isShip : GoodIn wsX5_loads (wsV RX5 107 RX5 yX5_isShip wsX5_isShip) := goodIn_app (goodIn_of _ (by decide +kernel)) ggX5_loads_X5_isShip
set_option maxRecDepth 20000 in
theorem ggX5_loads_X5_bound : GoodIn wsX5_loads wsX5_bound := goodIn_r _ [10] (by decide +kernel) (by decide +kernel)
set_option maxRecDepth 20000 in
theorem gX5_loads_X5_bound : GoodIn wsX5_loads (va_wsS RX5 68 yX5_bound wsX5_bound) := goodIn_app (goodIn_of _ (by decide +kernel)) ggX5_loads_X5_bound
set_option maxRecDepth 20000 in
theorem ggX5_loads_X5_no : GoodIn wsX5_loads wsX5_no := goodIn_r _ [14, 15, 16, 17, 18, 19, 20, 21, 22, 23, 24, 25, 26, 27, 28, 29, 30, 31, 32, 33, 34, 35, 36, 37, 38, 39, 40, 41, 42] (by decide +kernel) (by decide +kernel)
set_option maxRecDepth 20000 in
theorem gX5_loads_X5_no : GoodIn wsX5_loads (wsV RX5 75 RX5 yX5_no wsX5_no) := goodIn_app (goodIn_of _ (by decide +kernel)) ggX5_loads_X5_no
theorem dX5_loads_0 : decode cX5_loads 0 = .ok (.aload_n 0, 1) := by decide +kernel
theorem dX5_loads_1 : decode cX5_loads 1 = .ok (.iload_n 1, 1) := by decide +kernel
theorem dX5_loads_2 : decode cX5_loads 2 = .ok (.invokevirtual 107, 3) := by decide +kernel
theorem dX5_loads_5 : decode cX5_loads 5 = .ok (.ifCond .ne 7, 3) := by decide +kernel
theorem dX5_loads_8 : decode cX5_loads 8 = .ok (.iconst (-1), 1) := by decide +kernel
theorem dX5_loads_9 : decode cX5_loads 9 = .ok (.goto 10, 3) := by decide +kernel
theorem dX5_loads_12 : decode cX5_loads 12 = .ok (.iload_n 2, 1) := by decide +kernel
theorem dX5_loads_13 : decode cX5_loads 13 = .ok (.iconst 0, 1) := by decide +kernel
theorem dX5_loads_14 : decode cX5_loads 14 = .ok (.bipush 9, 2) := by decide +kernel
theorem dX5_loads_16 : decode cX5_loads 16 = .ok (.invokestatic 68, 3) := by decide +kernel
theorem dX5_loads_19 : decode cX5_loads 19 = .ok (.istore_n 3, 1) := by decide +kernel
theorem dX5_loads_20 : decode cX5_loads 20 = .ok (.iload_n 3, 1) := by decide +kernel
theorem dX5_loads_21 : decode cX5_loads 21 = .ok (.ifCond .eq 9, 3) := by decide +kernel
theorem dX5_loads_24 : decode cX5_loads 24 = .ok (.aload_n 0, 1) := by decide +kernel
theorem dX5_loads_25 : decode cX5_loads 25 = .ok (.iload_n 3, 1) := by decide +kernel
theorem dX5_loads_26 : decode cX5_loads 26 = .ok (.invokevirtual 75, 3) := by decide +kernel
theorem dX5_loads_29 : decode cX5_loads 29 = .ok (.ireturn, 1) := by decide +kernel
theorem dX5_loads_30 : decode cX5_loads 30 = .ok (.aload_n 0, 1) := by decide +kernel
theorem dX5_loads_31 : decode cX5_loads 31 = .ok (.getfield 13, 3) := by decide +kernel
theorem dX5_loads_34 : decode cX5_loads 34 = .ok (.iload_n 1, 1) := by decide +kernel
theorem dX5_loads_35 : decode cX5_loads 35 = .ok (.iaload, 1) := by decide +kernel
theorem dX5_loads_36 : decode cX5_loads 36 = .ok (.istore 4, 2) := by decide +kernel
theorem dX5_loads_38 : decode cX5_loads 38 = .ok (.aload_n 0, 1) := by decide +kernel
theorem dX5_loads_39 : decode cX5_loads 39 = .ok (.getfield 13, 3) := by decide +kernel
theorem dX5_loads_42 : decode cX5_loads 42 = .ok (.iload_n 1, 1) := by decide +kernel
theorem dX5_loads_43 : decode cX5_loads 43 = .ok (.iload_n 2, 1) := by decide +kernel
theorem dX5_loads_44 : decode cX5_loads 44 = .ok (.iastore, 1) := by decide +kernel
theorem dX5_loads_45 : decode cX5_loads 45 = .ok (.iload 4, 2) := by decide +kernel
theorem dX5_loads_47 : decode cX5_loads 47 = .ok (.ireturn, 1) := by decide +kernel
set_option maxRecDepth 20000 in
theorem ggX5_turn_X5_isMan : GoodIn wsX5_turn wsX5_isMan := goodIn_r _ [7, 8, 20, 21, 22, 23, 24, 25, 26, 27, 28, 29, 30, 31, 32, 33, 34, 35, 36, 37, 38, 39, 40, 41, 42, 43, 44, 45, 46] (by decide +kernel) (by decide +kernel)
set_option maxRecDepth 20000 in
theorem gX5_turn_X5_isMan : GoodIn wsX5_turn (wsV RX5 129 RX5 yX5_isMan wsX5_isMan) := goodIn_app (goodIn_of _ (by decide +kernel)) ggX5_turn_X5_isMan
set_option maxRecDepth 20000 in
theorem ggX5_turn_X5_isIn : GoodIn wsX5_turn wsX5_isIn := goodIn_r _ [11] (by decide +kernel) (by decide +kernel)
set_option maxRecDepth 20000 in
theorem gX5_turn_X5_isIn : GoodIn wsX5_turn (va_wsS RX5 86 yX5_isIn wsX5_isIn) := goodIn_app (goodIn_of _ (by decide +kernel)) ggX5_turn_X5_isIn
set_option maxRecDepth 20000 in
theorem ggX5_turn_X5_bound : GoodIn wsX5_turn wsX5_bound := goodIn_r _ [14] (by decide +kernel) (by decide +kernel)
set_option maxRecDepth 20000 in
theorem gX5_turn_X5_bound : GoodIn wsX5_turn (va_wsS RX5 68 yX5_bound wsX5_bound) := goodIn_app (goodIn_of _ (by decide +kernel)) ggX5_turn_X5_bound
set_option maxRecDepth 20000 in
theorem ggX5_turn_X5_no : GoodIn wsX5_turn wsX5_no := goodIn_r _ [18, 19, 20, 21, 22, 23, 24, 25, 26, 27, 28, 29, 30, 31, 32, 33, 34, 35, 36, 37, 38, 39, 40, 41, 42, 43, 44, 45, 46] (by decide +kernel) (by decide +kernel)
set_option maxRecDepth 20000 in
theorem gX5_turn_X5_no : GoodIn wsX5_turn (wsV RX5 75 RX5 yX5_no wsX5_no) := goodIn_app (goodIn_of _ (by decide +kernel)) ggX5_turn_X5_no
theorem dX5_turn_0 : decode cX5_turn 0 = .ok (.aload_n 0, 1) := by decide +kernel
theorem dX5_turn_1 : decode cX5_turn 1 = .ok (.iload_n 1, 1) := by decide +kernel
theorem dX5_turn_2 : decode cX5_turn 2 = .ok (.invokevirtual 129, 3) := by decide +kernel
theorem dX5_turn_5 : decode cX5_turn 5 = .ok (.ifCond .ne 7, 3) := by decide +kernel
theorem dX5_turn_8 : decode cX5_turn 8 = .ok (.iconst (-1), 1) := by decide +kernel
theorem dX5_turn_9 : decode cX5_turn 9 = .ok (.goto 24, 3) := by decide +kernel
theorem dX5_turn_12 : decode cX5_turn 12 = .ok (.iload_n 2, 1) := by decide +kernel
theorem dX5_turn_13 : decode cX5_turn 13 = .ok (.iconst 0, 1) := by decide +kernel
theorem dX5_turn_14 : decode cX5_turn 14 = .ok (.iconst 5, 1) := by decide +kernel
theorem dX5_turn_15 : decode cX5_turn 15 = .ok (.invokestatic 86, 3) := by decide +kernel
theorem dX5_turn_18 : decode cX5_turn 18 = .ok (.ifCond .ne 8, 3) := by decide +kernel
theorem dX5_turn_21 : decode cX5_turn 21 = .ok (.bipush (-2), 2) := by decide +kernel
theorem dX5_turn_23 : decode cX5_turn 23 = .ok (.goto 10, 3) := by decide +kernel
theorem dX5_turn_26 : decode cX5_turn 26 = .ok (.iload_n 3, 1) := by decide +kernel
theorem dX5_turn_27 : decode cX5_turn 27 = .ok (.iconst 0, 1) := by decide +kernel
theorem dX5_turn_28 : decode cX5_turn 28 = .ok (.bipush 9, 2) := by decide +kernel
theorem dX5_turn_30 : decode cX5_turn 30 = .ok (.invokestatic 68, 3) := by decide +kernel
theorem dX5_turn_33 : decode cX5_turn 33 = .ok (.istore 4, 2) := by decide +kernel
theorem dX5_turn_35 : decode cX5_turn 35 = .ok (.iload 4, 2) := by decide +kernel
theorem dX5_turn_37 : decode cX5_turn 37 = .ok (.ifCond .eq 10, 3) := by decide +kernel
theorem dX5_turn_40 : decode cX5_turn 40 = .ok (.aload_n 0, 1) := by decide +kernel
theorem dX5_turn_41 : decode cX5_turn 41 = .ok (.iload 4, 2) := by decide +kernel
theorem dX5_turn_43 : decode cX5_turn 43 = .ok (.invokevirtual 75, 3) := by decide +kernel
theorem dX5_turn_46 : decode cX5_turn 46 = .ok (.ireturn, 1) := by decide +kernel
theorem dX5_turn_47 : decode cX5_turn 47 = .ok (.bipush 10, 2) := by decide +kernel
theorem dX5_turn_49 : decode cX5_turn 49 = .ok (.aload_n 0, 1) := by decide +kernel
theorem dX5_turn_50 : decode cX5_turn 50 = .ok (.getfield 22, 3) := by decide +kernel
theorem dX5_turn_53 : decode cX5_turn 53 = .ok (.iload_n 1, 1) := by decide +kernel
theorem dX5_turn_54 : decode cX5_turn 54 = .ok (.iaload, 1) := by decide +kernel
theorem dX5_turn_55 : decode cX5_turn 55 = .ok (.imul, 1) := by decide +kernel
theorem dX5_turn_56 : decode cX5_turn 56 = .ok (.aload_n 0, 1) := by decide +kernel
theorem dX5_turn_57 : decode cX5_turn 57 = .ok (.getfield 25, 3) := by decide +kernel
theorem dX5_turn_60 : decode cX5_turn 60 = .ok (.iload_n 1, 1) := by decide +kernel
theorem dX5_turn_61 : decode cX5_turn 61 = .ok (.iaload, 1) := by decide +kernel
theorem dX5_turn_62 : decode cX5_turn 62 = .ok (.iadd, 1) := by decide +kernel
theorem dX5_turn_63 : decode cX5_turn 63 = .ok (.istore 5, 2) := by decide +kernel
theorem dX5_turn_65 : decode cX5_turn 65 = .ok (.aload_n 0, 1) := by decide +kernel
theorem dX5_turn_66 : decode cX5_turn 66 = .ok (.getfield 22, 3) := by decide +kernel
theorem dX5_turn_69 : decode cX5_turn 69 = .ok (.iload_n 1, 1) := by decide +kernel
theorem dX5_turn_70 : decode cX5_turn 70 = .ok (.iload_n 2, 1) := by decide +kernel
theorem dX5_turn_71 : decode cX5_turn 71 = .ok (.iastore, 1) := by decide +kernel
theorem dX5_turn_72 : decode cX5_turn 72 = .ok (.aload_n 0, 1) := by decide +kernel
theorem dX5_turn_73 : decode cX5_turn 73 = .ok (.getfield 25, 3) := by decide +kernel
theorem dX5_turn_76 : decode cX5_turn 76 = .ok (.iload_n 1, 1) := by decide +kernel
theorem dX5_turn_77 : decode cX5_turn 77 = .ok (.iload_n 3, 1) := by decide +kernel
theorem dX5_turn_78 : decode cX5_turn 78 = .ok (.iastore, 1) := by decide +kernel
theorem dX5_turn_79 : decode cX5_turn 79 = .ok (.iload 5, 2) := by decide +kernel
theorem dX5_turn_81 : decode cX5_turn 81 = .ok (.ireturn, 1) := by decide +kernel
set_option maxRecDepth 20000 in
theorem ggX5_tides_X5_bound : GoodIn wsX5_tides wsX5_bound := goodIn_r _ [5] (by decide +kernel) (by decide +kernel)
set_option maxRecDepth 20000 in
theorem gX5_tides_X5_bound : GoodIn wsX5_tides (va_wsS RX5 68 yX5_bound wsX5_bound) := goodIn_app (goodIn_of _ (by decide +kernel)) ggX5_tides_X5_bound
set_option maxRecDepth 20000 in
theorem ggX5_tides_X5_no : GoodIn wsX5_tides wsX5_no := goodIn_r _ [9, 10, 36, 37, 38, 39, 40, 41, 42, 43, 44, 45, 46, 47, 48, 49, 50, 51, 52, 53, 54, 55, 56, 57, 58, 59, 60, 61, 62] (by decide +kernel) (by decide +kernel)
set_option maxRecDepth 20000 in
theorem gX5_tides_X5_no : GoodIn wsX5_tides (wsV RX5 75 RX5 yX5_no wsX5_no) := goodIn_app (goodIn_of _ (by decide +kernel)) ggX5_tides_X5_no
set_option maxRecDepth 20000 in
theorem ggX5_tides_X5_goes : GoodIn wsX5_tides wsX5_goes := goodIn_r _ [14, 15, 16, 17, 4, 18, 1, 19, 20, 21, 22, 23, 24, 25, 26, 27, 28, 29, 30, 31, 36, 37, 38, 39, 40, 41, 42, 43, 44, 45, 46, 47, 48, 49, 50, 51, 52, 53, 54, 55, 56, 57, 58, 59, 60, 61, 62] (by decide +kernel) (by decide +kernel)
set_option maxRecDepth 20000 in
theorem gX5_tides_X5_goes : GoodIn wsX5_tides (wsV RX5 113 RX5 yX5_goes wsX5_goes) := goodIn_app (goodIn_of _ (by decide +kernel)) ggX5_tides_X5_goes
set_option maxRecDepth 20000 in
theorem ggX5_tides_X5_outOnes : GoodIn wsX5_tides wsX5_outOnes := goodIn_r _ [35, 23, 20, 36, 37, 38, 39, 40, 41, 42, 43, 44, 45, 46, 47, 48, 49, 50, 51, 52, 53, 54, 55, 56, 57, 58, 59, 60, 61, 62] (by decide +kernel) (by decide +kernel)
set_option maxRecDepth 20000 in
theorem gX5_tides_X5_outOnes : GoodIn wsX5_tides (wsV RX5 203 RX5 yX5_outOnes wsX5_outOnes) := goodIn_app (goodIn_of _ (by decide +kernel)) ggX5_tides_X5_outOnes
theorem dX5_tides_0 : decode cX5_tides 0 = .ok (.iload_n 1, 1) := by decide +kernel
theorem dX5_tides_1 : decode cX5_tides 1 = .ok (.iconst 1, 1) := by decide +kernel
theorem dX5_tides_2 : decode cX5_tides 2 = .ok (.bipush 60, 2) := by decide +kernel
theorem dX5_tides_4 : decode cX5_tides 4 = .ok (.invokestatic 68, 3) := by decide +kernel
theorem dX5_tides_7 : decode cX5_tides 7 = .ok (.istore_n 2, 1) := by decide +kernel
theorem dX5_tides_8 : decode cX5_tides 8 = .ok (.iload_n 2, 1) := by decide +kernel
theorem dX5_tides_9 : decode cX5_tides 9 = .ok (.ifCond .ne 18, 3) := by decide +kernel
theorem dX5_tides_12 : decode cX5_tides 12 = .ok (.aload_n 0, 1) := by decide +kernel
theorem dX5_tides_13 : decode cX5_tides 13 = .ok (.getfield 110, 3) := by decide +kernel
theorem dX5_tides_16 : decode cX5_tides 16 = .ok (.iload_n 1, 1) := by decide +kernel
theorem dX5_tides_17 : decode cX5_tides 17 = .ok (.iadd, 1) := by decide +kernel
theorem dX5_tides_18 : decode cX5_tides 18 = .ok (.sipush 999, 3) := by decide +kernel
theorem dX5_tides_21 : decode cX5_tides 21 = .ok (.if_icmp .le 6, 3) := by decide +kernel
theorem dX5_tides_24 : decode cX5_tides 24 = .ok (.bipush (-6), 2) := by decide +kernel
theorem dX5_tides_26 : decode cX5_tides 26 = .ok (.istore_n 2, 1) := by decide +kernel
theorem dX5_tides_27 : decode cX5_tides 27 = .ok (.iload_n 2, 1) := by decide +kernel
theorem dX5_tides_28 : decode cX5_tides 28 = .ok (.ifCond .eq 9, 3) := by decide +kernel
theorem dX5_tides_31 : decode cX5_tides 31 = .ok (.aload_n 0, 1) := by decide +kernel
theorem dX5_tides_32 : decode cX5_tides 32 = .ok (.iload_n 2, 1) := by decide +kernel
theorem dX5_tides_33 : decode cX5_tides 33 = .ok (.invokevirtual 75, 3) := by decide +kernel
theorem dX5_tides_36 : decode cX5_tides 36 = .ok (.ireturn, 1) := by decide +kernel
theorem dX5_tides_37 : decode cX5_tides 37 = .ok (.aload_n 0, 1) := by decide +kernel
theorem dX5_tides_38 : decode cX5_tides 38 = .ok (.iload_n 1, 1) := by decide +kernel
theorem dX5_tides_39 : decode cX5_tides 39 = .ok (.invokevirtual 113, 3) := by decide +kernel
theorem dX5_tides_42 : decode cX5_tides 42 = .ok (.aload_n 0, 1) := by decide +kernel
theorem dX5_tides_43 : decode cX5_tides 43 = .ok (.invokevirtual 203, 3) := by decide +kernel
theorem dX5_tides_46 : decode cX5_tides 46 = .ok (.ireturn, 1) := by decide +kernel
set_option maxRecDepth 20000 in
theorem ggX5_notTides_X5_bound : GoodIn wsX5_notTides wsX5_bound := goodIn_r _ [4] (by decide +kernel) (by decide +kernel)
set_option maxRecDepth 20000 in
theorem gX5_notTides_X5_bound : GoodIn wsX5_notTides (va_wsS RX5 68 yX5_bound wsX5_bound) := goodIn_app (goodIn_of _ (by decide +kernel)) ggX5_notTides_X5_bound
theorem dX5_notTides_0 : decode cX5_notTides 0 = .ok (.iload_n 0, 1) := by decide +kernel
theorem dX5_notTides_1 : decode cX5_notTides 1 = .ok (.iconst 0, 1) := by decide +kernel
theorem dX5_notTides_2 : decode cX5_notTides 2 = .ok (.bipush 60, 2) := by decide +kernel
theorem dX5_notTides_4 : decode cX5_notTides 4 = .ok (.invokestatic 68, 3) := by decide +kernel
theorem dX5_notTides_7 : decode cX5_notTides 7 = .ok (.ireturn, 1) := by decide +kernel
set_option maxRecDepth 20000 in
theorem ggX5_shipThen_X5_isShip : GoodIn wsX5_shipThen wsX5_isShip := goodIn_r _ [6, 7, 73, 74, 75, 76, 77, 78, 79, 80, 81, 82, 83, 84, 85, 86, 87, 88, 89, 90, 91, 92, 93, 94, 95, 96, 97, 98, 99] (by decide +kernel) (by decide +kernel)
set_option maxRecDepth 20000 in
theorem gX5_shipThen_X5_isShip : GoodIn wsX5_shipThen (wsV RX5 107 RX5 yX5_isShip wsX5_isShip) := goodIn_app (goodIn_of _ (by decide +kernel)) ggX5_shipThen_X5_isShip
set_option maxRecDepth 20000 in
theorem ggX5_shipThen_X5_notTides : GoodIn wsX5_shipThen wsX5_notTides := goodIn_r _ [10, 11, 12, 5, 13] (by decide +kernel) (by decide +kernel)
set_option maxRecDepth 20000 in
theorem gX5_shipThen_X5_notTides : GoodIn wsX5_shipThen (va_wsS RX5 206 yX5_notTides wsX5_notTides) := goodIn_app (goodIn_of _ (by decide +kernel)) ggX5_shipThen_X5_notTides
set_option maxRecDepth 20000 in
theorem ggX5_shipThen_X5_isIn : GoodIn wsX5_shipThen wsX5_isIn := goodIn_r _ [16] (by decide +kernel) (by decide +kernel)
set_option maxRecDepth 20000 in
theorem gX5_shipThen_X5_isIn : GoodIn wsX5_shipThen (va_wsS RX5 86 yX5_isIn wsX5_isIn) := goodIn_app (goodIn_of _ (by decide +kernel)) ggX5_shipThen_X5_isIn
set_option maxRecDepth 20000 in
theorem ggX5_shipThen_X5_no : GoodIn wsX5_shipThen wsX5_no := goodIn_r _ [20, 21, 73, 74, 75, 76, 77, 78, 79, 80, 81, 82, 83, 84, 85, 86, 87, 88, 89, 90, 91, 92, 93, 94, 95, 96, 97, 98, 99] (by decide +kernel) (by decide +kernel)
set_option maxRecDepth 20000 in
theorem gX5_shipThen_X5_no : GoodIn wsX5_shipThen (wsV RX5 75 RX5 yX5_no wsX5_no) := goodIn_app (goodIn_of _ (by decide +kernel)) ggX5_shipThen_X5_no
set_option maxRecDepth 20000 in
theorem ggX5_shipThen_X5_thinks : GoodIn wsX5_shipThen wsX5_thinks := goodIn_r _ [25, 26, 27, 28, 5, 29, 30, 31, 32, 33, 1, 34, 35, 36, 37, 7, 38, 39, 40, 41, 42, 43, 44, 45, 46, 47, 48, 49, 73, 74, 75, 76, 77, 78, 79, 80, 81, 82, 83, 84, 85, 86, 87, 88, 89, 90, 91, 92, 93, 94, 95, 96, 97, 98, 99] (by decide +kernel) (by decide +kernel)
set_option maxRecDepth 20000 in
theorem gX5_shipThen_X5_thinks : GoodIn wsX5_shipThen (wsV RX5 209 RX5 yX5_thinks wsX5_thinks) := goodIn_app (goodIn_of _ (by decide +kernel)) ggX5_shipThen_X5_thinks
set_option maxRecDepth 20000 in
theorem ggX5_shipThen_X5_goes : GoodIn wsX5_shipThen wsX5_goes := goodIn_r _ [53, 54, 55, 56, 5, 57, 40, 38, 1, 37, 36, 7, 58, 59, 60, 61, 34, 62, 63, 64, 73, 74, 75, 76, 77, 78, 79, 80, 81, 82, 83, 84, 85, 86, 87, 88, 89, 90, 91, 92, 93, 94, 95, 96, 97, 98, 99] (by decide +kernel) (by decide +kernel)
set_option maxRecDepth 20000 in
theorem gX5_shipThen_X5_goes : GoodIn wsX5_shipThen (wsV RX5 113 RX5 yX5_goes wsX5_goes) := goodIn_app (goodIn_of _ (by decide +kernel)) ggX5_shipThen_X5_goes
set_option maxRecDepth 20000 in
theorem ggX5_shipThen_X5_holds : GoodIn wsX5_shipThen wsX5_holds := goodIn_r _ [68, 32, 40, 39, 73, 74, 75, 76, 77, 78, 79, 80, 81, 82, 83, 84, 85, 86, 87, 88, 89, 90, 91, 92, 93, 94, 95, 96, 97, 98, 99] (by decide +kernel) (by decide +kernel)
set_option maxRecDepth 20000 in
theorem gX5_shipThen_X5_holds : GoodIn wsX5_shipThen (wsV RX5 173 RX5 yX5_holds wsX5_holds) := goodIn_app (goodIn_of _ (by decide +kernel)) ggX5_shipThen_X5_holds
set_option maxRecDepth 20000 in
theorem ggX5_shipThen_X5_forgets : GoodIn wsX5_shipThen wsX5_forgets := goodIn_r _ [72, 26, 27, 28, 5, 29, 30, 31, 32, 33, 1, 34, 35, 36, 37, 7, 38, 39, 40, 41, 42, 43, 44, 45, 46, 47, 48, 49, 73, 74, 75, 76, 77, 78, 79, 80, 81, 82, 83, 84, 85, 86, 87, 88, 89, 90, 91, 92, 93, 94, 95, 96, 97, 98, 99] (by decide +kernel) (by decide +kernel)
set_option maxRecDepth 20000 in
theorem gX5_shipThen_X5_forgets : GoodIn wsX5_shipThen (wsV RX5 212 RX5 yX5_forgets wsX5_forgets) := goodIn_app (goodIn_of _ (by decide +kernel)) ggX5_shipThen_X5_forgets
theorem dX5_shipThen_0 : decode cX5_shipThen 0 = .ok (.aload_n 0, 1) := by decide +kernel
theorem dX5_shipThen_1 : decode cX5_shipThen 1 = .ok (.iload_n 1, 1) := by decide +kernel
theorem dX5_shipThen_2 : decode cX5_shipThen 2 = .ok (.invokevirtual 107, 3) := by decide +kernel
theorem dX5_shipThen_5 : decode cX5_shipThen 5 = .ok (.ifCond .ne 7, 3) := by decide +kernel
theorem dX5_shipThen_8 : decode cX5_shipThen 8 = .ok (.iconst (-1), 1) := by decide +kernel
theorem dX5_shipThen_9 : decode cX5_shipThen 9 = .ok (.goto 7, 3) := by decide +kernel
theorem dX5_shipThen_12 : decode cX5_shipThen 12 = .ok (.iload_n 2, 1) := by decide +kernel
theorem dX5_shipThen_13 : decode cX5_shipThen 13 = .ok (.invokestatic 206, 3) := by decide +kernel
theorem dX5_shipThen_16 : decode cX5_shipThen 16 = .ok (.istore 4, 2) := by decide +kernel
theorem dX5_shipThen_18 : decode cX5_shipThen 18 = .ok (.iload 4, 2) := by decide +kernel
theorem dX5_shipThen_20 : decode cX5_shipThen 20 = .ok (.ifCond .ne 16, 3) := by decide +kernel
theorem dX5_shipThen_23 : decode cX5_shipThen 23 = .ok (.iload_n 3, 1) := by decide +kernel
theorem dX5_shipThen_24 : decode cX5_shipThen 24 = .ok (.iconst 0, 1) := by decide +kernel
theorem dX5_shipThen_25 : decode cX5_shipThen 25 = .ok (.iconst 1, 1) := by decide +kernel
theorem dX5_shipThen_26 : decode cX5_shipThen 26 = .ok (.invokestatic 86, 3) := by decide +kernel
theorem dX5_shipThen_29 : decode cX5_shipThen 29 = .ok (.ifCond .ne 7, 3) := by decide +kernel
theorem dX5_shipThen_32 : decode cX5_shipThen 32 = .ok (.bipush (-2), 2) := by decide +kernel
theorem dX5_shipThen_34 : decode cX5_shipThen 34 = .ok (.istore 4, 2) := by decide +kernel
theorem dX5_shipThen_36 : decode cX5_shipThen 36 = .ok (.iload 4, 2) := by decide +kernel
theorem dX5_shipThen_38 : decode cX5_shipThen 38 = .ok (.ifCond .eq 10, 3) := by decide +kernel
theorem dX5_shipThen_41 : decode cX5_shipThen 41 = .ok (.aload_n 0, 1) := by decide +kernel
theorem dX5_shipThen_42 : decode cX5_shipThen 42 = .ok (.iload 4, 2) := by decide +kernel
theorem dX5_shipThen_44 : decode cX5_shipThen 44 = .ok (.invokevirtual 75, 3) := by decide +kernel
theorem dX5_shipThen_47 : decode cX5_shipThen 47 = .ok (.ireturn, 1) := by decide +kernel
theorem dX5_shipThen_48 : decode cX5_shipThen 48 = .ok (.aload_n 0, 1) := by decide +kernel
theorem dX5_shipThen_49 : decode cX5_shipThen 49 = .ok (.invokevirtual 209, 3) := by decide +kernel
theorem dX5_shipThen_52 : decode cX5_shipThen 52 = .ok (.aload_n 0, 1) := by decide +kernel
theorem dX5_shipThen_53 : decode cX5_shipThen 53 = .ok (.iload_n 2, 1) := by decide +kernel
theorem dX5_shipThen_54 : decode cX5_shipThen 54 = .ok (.invokevirtual 113, 3) := by decide +kernel
theorem dX5_shipThen_57 : decode cX5_shipThen 57 = .ok (.iload_n 3, 1) := by decide +kernel
theorem dX5_shipThen_58 : decode cX5_shipThen 58 = .ok (.ifCond .ne 12, 3) := by decide +kernel
theorem dX5_shipThen_61 : decode cX5_shipThen 61 = .ok (.aload_n 0, 1) := by decide +kernel
theorem dX5_shipThen_62 : decode cX5_shipThen 62 = .ok (.getfield 19, 3) := by decide +kernel
theorem dX5_shipThen_65 : decode cX5_shipThen 65 = .ok (.iload_n 1, 1) := by decide +kernel
theorem dX5_shipThen_66 : decode cX5_shipThen 66 = .ok (.iaload, 1) := by decide +kernel
theorem dX5_shipThen_67 : decode cX5_shipThen 67 = .ok (.goto 8, 3) := by decide +kernel
theorem dX5_shipThen_70 : decode cX5_shipThen 70 = .ok (.aload_n 0, 1) := by decide +kernel
theorem dX5_shipThen_71 : decode cX5_shipThen 71 = .ok (.iload_n 1, 1) := by decide +kernel
theorem dX5_shipThen_72 : decode cX5_shipThen 72 = .ok (.invokevirtual 173, 3) := by decide +kernel
theorem dX5_shipThen_75 : decode cX5_shipThen 75 = .ok (.istore 5, 2) := by decide +kernel
theorem dX5_shipThen_77 : decode cX5_shipThen 77 = .ok (.aload_n 0, 1) := by decide +kernel
theorem dX5_shipThen_78 : decode cX5_shipThen 78 = .ok (.invokevirtual 212, 3) := by decide +kernel
theorem dX5_shipThen_81 : decode cX5_shipThen 81 = .ok (.iload 5, 2) := by decide +kernel
theorem dX5_shipThen_83 : decode cX5_shipThen 83 = .ok (.ireturn, 1) := by decide +kernel
set_option maxRecDepth 20000 in
theorem ggX5_sinsThen_X5_isMan : GoodIn wsX5_sinsThen wsX5_isMan := goodIn_r _ [6, 7, 66, 67, 68, 69, 70, 71, 72, 73, 74, 75, 76, 77, 78, 79, 80, 81, 82, 83, 84, 85, 86, 87, 88, 89, 90, 91, 92] (by decide +kernel) (by decide +kernel)
set_option maxRecDepth 20000 in
theorem gX5_sinsThen_X5_isMan : GoodIn wsX5_sinsThen (wsV RX5 129 RX5 yX5_isMan wsX5_isMan) := goodIn_app (goodIn_of _ (by decide +kernel)) ggX5_sinsThen_X5_isMan
set_option maxRecDepth 20000 in
theorem ggX5_sinsThen_X5_notTides : GoodIn wsX5_sinsThen wsX5_notTides := goodIn_r _ [10, 11, 12, 5, 13] (by decide +kernel) (by decide +kernel)
set_option maxRecDepth 20000 in
theorem gX5_sinsThen_X5_notTides : GoodIn wsX5_sinsThen (va_wsS RX5 206 yX5_notTides wsX5_notTides) := goodIn_app (goodIn_of _ (by decide +kernel)) ggX5_sinsThen_X5_notTides
set_option maxRecDepth 20000 in
theorem ggX5_sinsThen_X5_no : GoodIn wsX5_sinsThen wsX5_no := goodIn_r _ [17, 18, 66, 67, 68, 69, 70, 71, 72, 73, 74, 75, 76, 77, 78, 79, 80, 81, 82, 83, 84, 85, 86, 87, 88, 89, 90, 91, 92] (by decide +kernel) (by decide +kernel)
set_option maxRecDepth 20000 in
theorem gX5_sinsThen_X5_no : GoodIn wsX5_sinsThen (wsV RX5 75 RX5 yX5_no wsX5_no) := goodIn_app (goodIn_of _ (by decide +kernel)) ggX5_sinsThen_X5_no
set_option maxRecDepth 20000 in
theorem ggX5_sinsThen_X5_thinks : GoodIn wsX5_sinsThen wsX5_thinks := goodIn_r _ [22, 23, 24, 25, 5, 26, 27, 28, 29, 30, 31, 32, 33, 1, 34, 35, 7, 36, 37, 38, 39, 40, 41, 42, 43, 44, 45, 46, 66, 67, 68, 69, 70, 71, 72, 73, 74, 75, 76, 77, 78, 79, 80, 81, 82, 83, 84, 85, 86, 87, 88, 89, 90, 91, 92] (by decide +kernel) (by decide +kernel)
set_option maxRecDepth 20000 in
theorem gX5_sinsThen_X5_thinks : GoodIn wsX5_sinsThen (wsV RX5 209 RX5 yX5_thinks wsX5_thinks) := goodIn_app (goodIn_of _ (by decide +kernel)) ggX5_sinsThen_X5_thinks
set_option maxRecDepth 20000 in
theorem ggX5_sinsThen_X5_goes : GoodIn wsX5_sinsThen wsX5_goes := goodIn_r _ [50, 51, 52, 53, 5, 54, 37, 7, 31, 34, 1, 35, 55, 56, 57, 58, 32, 59, 60, 61, 66, 67, 68, 69, 70, 71, 72, 73, 74, 75, 76, 77, 78, 79, 80, 81, 82, 83, 84, 85, 86, 87, 88, 89, 90, 91, 92] (by decide +kernel) (by decide +kernel)
set_option maxRecDepth 20000 in
theorem gX5_sinsThen_X5_goes : GoodIn wsX5_sinsThen (wsV RX5 113 RX5 yX5_goes wsX5_goes) := goodIn_app (goodIn_of _ (by decide +kernel)) ggX5_sinsThen_X5_goes
set_option maxRecDepth 20000 in
theorem ggX5_sinsThen_X5_forgets : GoodIn wsX5_sinsThen wsX5_forgets := goodIn_r _ [65, 23, 24, 25, 5, 26, 27, 28, 29, 30, 31, 32, 33, 1, 34, 35, 7, 36, 37, 38, 39, 40, 41, 42, 43, 44, 45, 46, 66, 67, 68, 69, 70, 71, 72, 73, 74, 75, 76, 77, 78, 79, 80, 81, 82, 83, 84, 85, 86, 87, 88, 89, 90, 91, 92] (by decide +kernel) (by decide +kernel)
set_option maxRecDepth 20000 in
theorem gX5_sinsThen_X5_forgets : GoodIn wsX5_sinsThen (wsV RX5 212 RX5 yX5_forgets wsX5_forgets) := goodIn_app (goodIn_of _ (by decide +kernel)) ggX5_sinsThen_X5_forgets
theorem dX5_sinsThen_0 : decode cX5_sinsThen 0 = .ok (.aload_n 0, 1) := by decide +kernel
theorem dX5_sinsThen_1 : decode cX5_sinsThen 1 = .ok (.iload_n 1, 1) := by decide +kernel
theorem dX5_sinsThen_2 : decode cX5_sinsThen 2 = .ok (.invokevirtual 129, 3) := by decide +kernel
theorem dX5_sinsThen_5 : decode cX5_sinsThen 5 = .ok (.ifCond .ne 7, 3) := by decide +kernel
theorem dX5_sinsThen_8 : decode cX5_sinsThen 8 = .ok (.iconst (-1), 1) := by decide +kernel
theorem dX5_sinsThen_9 : decode cX5_sinsThen 9 = .ok (.goto 7, 3) := by decide +kernel
theorem dX5_sinsThen_12 : decode cX5_sinsThen 12 = .ok (.iload_n 2, 1) := by decide +kernel
theorem dX5_sinsThen_13 : decode cX5_sinsThen 13 = .ok (.invokestatic 206, 3) := by decide +kernel
theorem dX5_sinsThen_16 : decode cX5_sinsThen 16 = .ok (.istore_n 3, 1) := by decide +kernel
theorem dX5_sinsThen_17 : decode cX5_sinsThen 17 = .ok (.iload_n 3, 1) := by decide +kernel
theorem dX5_sinsThen_18 : decode cX5_sinsThen 18 = .ok (.ifCond .eq 9, 3) := by decide +kernel
theorem dX5_sinsThen_21 : decode cX5_sinsThen 21 = .ok (.aload_n 0, 1) := by decide +kernel
theorem dX5_sinsThen_22 : decode cX5_sinsThen 22 = .ok (.iload_n 3, 1) := by decide +kernel
theorem dX5_sinsThen_23 : decode cX5_sinsThen 23 = .ok (.invokevirtual 75, 3) := by decide +kernel
theorem dX5_sinsThen_26 : decode cX5_sinsThen 26 = .ok (.ireturn, 1) := by decide +kernel
theorem dX5_sinsThen_27 : decode cX5_sinsThen 27 = .ok (.aload_n 0, 1) := by decide +kernel
theorem dX5_sinsThen_28 : decode cX5_sinsThen 28 = .ok (.invokevirtual 209, 3) := by decide +kernel
theorem dX5_sinsThen_31 : decode cX5_sinsThen 31 = .ok (.aload_n 0, 1) := by decide +kernel
theorem dX5_sinsThen_32 : decode cX5_sinsThen 32 = .ok (.iload_n 2, 1) := by decide +kernel
theorem dX5_sinsThen_33 : decode cX5_sinsThen 33 = .ok (.invokevirtual 113, 3) := by decide +kernel
theorem dX5_sinsThen_36 : decode cX5_sinsThen 36 = .ok (.aload_n 0, 1) := by decide +kernel
theorem dX5_sinsThen_37 : decode cX5_sinsThen 37 = .ok (.getfield 28, 3) := by decide +kernel
theorem dX5_sinsThen_40 : decode cX5_sinsThen 40 = .ok (.iload_n 1, 1) := by decide +kernel
theorem dX5_sinsThen_41 : decode cX5_sinsThen 41 = .ok (.iaload, 1) := by decide +kernel
theorem dX5_sinsThen_42 : decode cX5_sinsThen 42 = .ok (.istore 4, 2) := by decide +kernel
theorem dX5_sinsThen_44 : decode cX5_sinsThen 44 = .ok (.aload_n 0, 1) := by decide +kernel
theorem dX5_sinsThen_45 : decode cX5_sinsThen 45 = .ok (.invokevirtual 212, 3) := by decide +kernel
theorem dX5_sinsThen_48 : decode cX5_sinsThen 48 = .ok (.iload 4, 2) := by decide +kernel
theorem dX5_sinsThen_50 : decode cX5_sinsThen 50 = .ok (.ireturn, 1) := by decide +kernel
set_option maxRecDepth 20000 in
theorem ggX5_canRise_X5_pool : GoodIn wsX5_canRise wsX5_pool := goodIn_r _ [6, 7, 8, 9, 10, 5, 11, 12, 13, 14, 15, 16, 17, 18, 19, 20, 32, 33, 34, 35, 36, 37, 38, 39, 40, 41, 42, 43, 44, 45, 46, 47, 48, 49, 50, 51, 52, 53, 54, 55, 56, 57, 58] (by decide +kernel) (by decide +kernel)
set_option maxRecDepth 20000 in
theorem gX5_canRise_X5_pool : GoodIn wsX5_canRise (wsV RX5 197 RX5 yX5_pool wsX5_pool) := goodIn_app (goodIn_of _ (by decide +kernel)) ggX5_canRise_X5_pool
set_option maxRecDepth 20000 in
theorem ggX5_canRise_X5_lacks : GoodIn wsX5_canRise wsX5_lacks := goodIn_r _ [24, 1, 25, 26, 27, 28, 5, 29, 30, 7, 31, 32, 33, 34, 35, 36, 37, 38, 39, 40, 41, 42, 43, 44, 45, 46, 47, 48, 49, 50, 51, 52, 53, 54, 55, 56, 57, 58] (by decide +kernel) (by decide +kernel)
set_option maxRecDepth 20000 in
theorem gX5_canRise_X5_lacks : GoodIn wsX5_canRise (wsV RX5 194 RX5 yX5_lacks wsX5_lacks) := goodIn_app (goodIn_of _ (by decide +kernel)) ggX5_canRise_X5_lacks
theorem dX5_canRise_0 : decode cX5_canRise 0 = .ok (.aload_n 0, 1) := by decide +kernel
theorem dX5_canRise_1 : decode cX5_canRise 1 = .ok (.getfield 19, 3) := by decide +kernel
theorem dX5_canRise_4 : decode cX5_canRise 4 = .ok (.iload_n 1, 1) := by decide +kernel
theorem dX5_canRise_5 : decode cX5_canRise 5 = .ok (.iaload, 1) := by decide +kernel
theorem dX5_canRise_6 : decode cX5_canRise 6 = .ok (.ifCond .ne 20, 3) := by decide +kernel
theorem dX5_canRise_9 : decode cX5_canRise 9 = .ok (.aload_n 0, 1) := by decide +kernel
theorem dX5_canRise_10 : decode cX5_canRise 10 = .ok (.iload_n 1, 1) := by decide +kernel
theorem dX5_canRise_11 : decode cX5_canRise 11 = .ok (.invokevirtual 197, 3) := by decide +kernel
theorem dX5_canRise_14 : decode cX5_canRise 14 = .ok (.aload_n 0, 1) := by decide +kernel
theorem dX5_canRise_15 : decode cX5_canRise 15 = .ok (.iload_n 1, 1) := by decide +kernel
theorem dX5_canRise_16 : decode cX5_canRise 16 = .ok (.invokevirtual 194, 3) := by decide +kernel
theorem dX5_canRise_19 : decode cX5_canRise 19 = .ok (.if_icmp .lt 7, 3) := by decide +kernel
theorem dX5_canRise_22 : decode cX5_canRise 22 = .ok (.iconst 1, 1) := by decide +kernel
theorem dX5_canRise_23 : decode cX5_canRise 23 = .ok (.goto 4, 3) := by decide +kernel
theorem dX5_canRise_26 : decode cX5_canRise 26 = .ok (.iconst 0, 1) := by decide +kernel
theorem dX5_canRise_27 : decode cX5_canRise 27 = .ok (.ireturn, 1) := by decide +kernel
set_option maxRecDepth 20000 in
theorem ggX5_fixture_X5_canRise : GoodIn wsX5_fixture wsX5_canRise := goodIn_r _ [7, 2, 8, 9, 10, 6, 11, 12, 13, 14, 15, 16, 17, 18, 19, 20, 21, 22, 23, 24, 25, 26, 27, 28, 29, 30, 31, 32, 33, 34, 35, 36, 37, 38, 39, 40, 41, 42, 43, 44, 45, 46, 47, 48, 49, 50, 51, 52, 53, 54, 55, 56, 57, 58, 59, 60, 61, 62, 63] (by decide +kernel) (by decide +kernel)
set_option maxRecDepth 20000 in
theorem gX5_fixture_X5_canRise : GoodIn wsX5_fixture (wsV RX5 215 RX5 yX5_canRise wsX5_canRise) := goodIn_app (goodIn_of _ (by decide +kernel)) ggX5_fixture_X5_canRise
theorem dX5_fixture_0 : decode cX5_fixture 0 = .ok (.iconst 0, 1) := by decide +kernel
theorem dX5_fixture_1 : decode cX5_fixture 1 = .ok (.istore_n 1, 1) := by decide +kernel
theorem dX5_fixture_2 : decode cX5_fixture 2 = .ok (.iconst 0, 1) := by decide +kernel
theorem dX5_fixture_3 : decode cX5_fixture 3 = .ok (.istore_n 2, 1) := by decide +kernel
theorem dX5_fixture_4 : decode cX5_fixture 4 = .ok (.iload_n 2, 1) := by decide +kernel
theorem dX5_fixture_5 : decode cX5_fixture 5 = .ok (.aload_n 0, 1) := by decide +kernel
theorem dX5_fixture_6 : decode cX5_fixture 6 = .ok (.getfield 58, 3) := by decide +kernel
theorem dX5_fixture_9 : decode cX5_fixture 9 = .ok (.if_icmp .ge 36, 3) := by decide +kernel
theorem dX5_fixture_12 : decode cX5_fixture 12 = .ok (.iload_n 1, 1) := by decide +kernel
theorem dX5_fixture_13 : decode cX5_fixture 13 = .ok (.aload_n 0, 1) := by decide +kernel
theorem dX5_fixture_14 : decode cX5_fixture 14 = .ok (.getfield 19, 3) := by decide +kernel
theorem dX5_fixture_17 : decode cX5_fixture 17 = .ok (.iload_n 2, 1) := by decide +kernel
theorem dX5_fixture_18 : decode cX5_fixture 18 = .ok (.iaload, 1) := by decide +kernel
theorem dX5_fixture_19 : decode cX5_fixture 19 = .ok (.ifCond .ne 17, 3) := by decide +kernel
theorem dX5_fixture_22 : decode cX5_fixture 22 = .ok (.aload_n 0, 1) := by decide +kernel
theorem dX5_fixture_23 : decode cX5_fixture 23 = .ok (.iload_n 2, 1) := by decide +kernel
theorem dX5_fixture_24 : decode cX5_fixture 24 = .ok (.invokevirtual 215, 3) := by decide +kernel
theorem dX5_fixture_27 : decode cX5_fixture 27 = .ok (.ifCond .ne 9, 3) := by decide +kernel
theorem dX5_fixture_30 : decode cX5_fixture 30 = .ok (.iconst 1, 1) := by decide +kernel
theorem dX5_fixture_31 : decode cX5_fixture 31 = .ok (.iload_n 2, 1) := by decide +kernel
theorem dX5_fixture_32 : decode cX5_fixture 32 = .ok (.ishl, 1) := by decide +kernel
theorem dX5_fixture_33 : decode cX5_fixture 33 = .ok (.goto 4, 3) := by decide +kernel
theorem dX5_fixture_36 : decode cX5_fixture 36 = .ok (.iconst 0, 1) := by decide +kernel
theorem dX5_fixture_37 : decode cX5_fixture 37 = .ok (.ior, 1) := by decide +kernel
theorem dX5_fixture_38 : decode cX5_fixture 38 = .ok (.istore_n 1, 1) := by decide +kernel
theorem dX5_fixture_39 : decode cX5_fixture 39 = .ok (.iinc 2 1, 3) := by decide +kernel
theorem dX5_fixture_42 : decode cX5_fixture 42 = .ok (.goto (-38), 3) := by decide +kernel
theorem dX5_fixture_45 : decode cX5_fixture 45 = .ok (.iload_n 1, 1) := by decide +kernel
theorem dX5_fixture_46 : decode cX5_fixture 46 = .ok (.ireturn, 1) := by decide +kernel
set_option maxRecDepth 20000 in
theorem ggX5_loudestLeft_X5_worth : GoodIn wsX5_loudestLeft wsX5_worth := goodIn_r _ [9, 10, 11, 12, 13, 8, 14, 15, 16, 17, 18, 19, 20, 21, 22, 23, 24, 25, 26, 27, 28, 29, 30, 31, 32, 33, 34, 35, 36, 37, 38, 39, 40, 41, 42, 43] (by decide +kernel) (by decide +kernel)
set_option maxRecDepth 20000 in
theorem gX5_loudestLeft_X5_worth : GoodIn wsX5_loudestLeft (wsV RX5 170 RX5 yX5_worth wsX5_worth) := goodIn_app (goodIn_of _ (by decide +kernel)) ggX5_loudestLeft_X5_worth
theorem dX5_loudestLeft_0 : decode cX5_loudestLeft 0 = .ok (.bipush (-9), 2) := by decide +kernel
theorem dX5_loudestLeft_2 : decode cX5_loudestLeft 2 = .ok (.istore_n 2, 1) := by decide +kernel
theorem dX5_loudestLeft_3 : decode cX5_loudestLeft 3 = .ok (.iconst 0, 1) := by decide +kernel
theorem dX5_loudestLeft_4 : decode cX5_loudestLeft 4 = .ok (.istore_n 3, 1) := by decide +kernel
theorem dX5_loudestLeft_5 : decode cX5_loudestLeft 5 = .ok (.iload_n 3, 1) := by decide +kernel
theorem dX5_loudestLeft_6 : decode cX5_loudestLeft 6 = .ok (.aload_n 0, 1) := by decide +kernel
theorem dX5_loudestLeft_7 : decode cX5_loudestLeft 7 = .ok (.getfield 65, 3) := by decide +kernel
theorem dX5_loudestLeft_10 : decode cX5_loudestLeft 10 = .ok (.if_icmp .ge 61, 3) := by decide +kernel
theorem dX5_loudestLeft_13 : decode cX5_loudestLeft 13 = .ok (.aload_n 0, 1) := by decide +kernel
theorem dX5_loudestLeft_14 : decode cX5_loudestLeft 14 = .ok (.getfield 31, 3) := by decide +kernel
theorem dX5_loudestLeft_17 : decode cX5_loudestLeft 17 = .ok (.iload_n 3, 1) := by decide +kernel
theorem dX5_loudestLeft_18 : decode cX5_loudestLeft 18 = .ok (.iaload, 1) := by decide +kernel
theorem dX5_loudestLeft_19 : decode cX5_loudestLeft 19 = .ok (.iload_n 1, 1) := by decide +kernel
theorem dX5_loudestLeft_20 : decode cX5_loudestLeft 20 = .ok (.if_icmp .ne 45, 3) := by decide +kernel
theorem dX5_loudestLeft_23 : decode cX5_loudestLeft 23 = .ok (.aload_n 0, 1) := by decide +kernel
theorem dX5_loudestLeft_24 : decode cX5_loudestLeft 24 = .ok (.getfield 49, 3) := by decide +kernel
theorem dX5_loudestLeft_27 : decode cX5_loudestLeft 27 = .ok (.iload_n 3, 1) := by decide +kernel
theorem dX5_loudestLeft_28 : decode cX5_loudestLeft 28 = .ok (.iaload, 1) := by decide +kernel
theorem dX5_loudestLeft_29 : decode cX5_loudestLeft 29 = .ok (.aload_n 0, 1) := by decide +kernel
theorem dX5_loudestLeft_30 : decode cX5_loudestLeft 30 = .ok (.getfield 28, 3) := by decide +kernel
theorem dX5_loudestLeft_33 : decode cX5_loudestLeft 33 = .ok (.iload_n 3, 1) := by decide +kernel
theorem dX5_loudestLeft_34 : decode cX5_loudestLeft 34 = .ok (.iaload, 1) := by decide +kernel
theorem dX5_loudestLeft_35 : decode cX5_loudestLeft 35 = .ok (.if_icmp .ge 30, 3) := by decide +kernel
theorem dX5_loudestLeft_38 : decode cX5_loudestLeft 38 = .ok (.aload_n 0, 1) := by decide +kernel
theorem dX5_loudestLeft_39 : decode cX5_loudestLeft 39 = .ok (.iload_n 3, 1) := by decide +kernel
theorem dX5_loudestLeft_40 : decode cX5_loudestLeft 40 = .ok (.invokevirtual 170, 3) := by decide +kernel
theorem dX5_loudestLeft_43 : decode cX5_loudestLeft 43 = .ok (.ifCond .le 22, 3) := by decide +kernel
theorem dX5_loudestLeft_46 : decode cX5_loudestLeft 46 = .ok (.iload_n 2, 1) := by decide +kernel
theorem dX5_loudestLeft_47 : decode cX5_loudestLeft 47 = .ok (.ifCond .lt 16, 3) := by decide +kernel
theorem dX5_loudestLeft_50 : decode cX5_loudestLeft 50 = .ok (.aload_n 0, 1) := by decide +kernel
theorem dX5_loudestLeft_51 : decode cX5_loudestLeft 51 = .ok (.iload_n 3, 1) := by decide +kernel
theorem dX5_loudestLeft_52 : decode cX5_loudestLeft 52 = .ok (.invokevirtual 170, 3) := by decide +kernel
theorem dX5_loudestLeft_55 : decode cX5_loudestLeft 55 = .ok (.aload_n 0, 1) := by decide +kernel
theorem dX5_loudestLeft_56 : decode cX5_loudestLeft 56 = .ok (.iload_n 2, 1) := by decide +kernel
theorem dX5_loudestLeft_57 : decode cX5_loudestLeft 57 = .ok (.invokevirtual 170, 3) := by decide +kernel
theorem dX5_loudestLeft_60 : decode cX5_loudestLeft 60 = .ok (.if_icmp .le 5, 3) := by decide +kernel
theorem dX5_loudestLeft_63 : decode cX5_loudestLeft 63 = .ok (.iload_n 3, 1) := by decide +kernel
theorem dX5_loudestLeft_64 : decode cX5_loudestLeft 64 = .ok (.istore_n 2, 1) := by decide +kernel
theorem dX5_loudestLeft_65 : decode cX5_loudestLeft 65 = .ok (.iinc 3 1, 3) := by decide +kernel
theorem dX5_loudestLeft_68 : decode cX5_loudestLeft 68 = .ok (.goto (-63), 3) := by decide +kernel
theorem dX5_loudestLeft_71 : decode cX5_loudestLeft 71 = .ok (.iload_n 2, 1) := by decide +kernel
theorem dX5_loudestLeft_72 : decode cX5_loudestLeft 72 = .ok (.ireturn, 1) := by decide +kernel
set_option maxRecDepth 20000 in
theorem ggX5_fewestOf_X5_lacks : GoodIn wsX5_fewestOf wsX5_lacks := goodIn_r _ [6, 7, 8, 9, 10, 11, 5, 12, 13, 14, 15, 33, 34, 35, 36, 37, 38, 39, 40, 41, 42, 43, 44, 45, 46, 47, 48, 49, 50, 51, 52, 53, 54, 55, 56, 57, 58, 59] (by decide +kernel) (by decide +kernel)
set_option maxRecDepth 20000 in
theorem gX5_fewestOf_X5_lacks : GoodIn wsX5_fewestOf (wsV RX5 194 RX5 yX5_lacks wsX5_lacks) := goodIn_app (goodIn_of _ (by decide +kernel)) ggX5_fewestOf_X5_lacks
set_option maxRecDepth 20000 in
theorem ggX5_fewestOf_X5_loudestLeft : GoodIn wsX5_fewestOf wsX5_loudestLeft := goodIn_r _ [19, 20, 21, 1, 22, 23, 24, 25, 5, 26, 14, 27, 28, 29, 30, 31, 32, 33, 34, 35, 36, 37, 38, 39, 40, 41, 42, 43, 44, 45, 46, 47, 48, 49, 50, 51, 52, 53, 54, 55, 56, 57, 58, 59] (by decide +kernel) (by decide +kernel)
set_option maxRecDepth 20000 in
theorem gX5_fewestOf_X5_loudestLeft : GoodIn wsX5_fewestOf (wsV RX5 218 RX5 yX5_loudestLeft wsX5_loudestLeft) := goodIn_app (goodIn_of _ (by decide +kernel)) ggX5_fewestOf_X5_loudestLeft
set_option maxRecDepth 20000 in
theorem ggX5_fewestOf_X5_worth : GoodIn wsX5_fewestOf wsX5_worth := goodIn_r _ [26, 14, 27, 28, 29, 5, 30, 31, 32, 33, 34, 35, 36, 37, 38, 39, 40, 41, 42, 43, 44, 45, 46, 47, 48, 49, 50, 51, 52, 53, 54, 55, 56, 57, 58, 59] (by decide +kernel) (by decide +kernel)
set_option maxRecDepth 20000 in
theorem gX5_fewestOf_X5_worth : GoodIn wsX5_fewestOf (wsV RX5 170 RX5 yX5_worth wsX5_worth) := goodIn_app (goodIn_of _ (by decide +kernel)) ggX5_fewestOf_X5_worth
theorem dX5_fewestOf_0 : decode cX5_fewestOf 0 = .ok (.iconst 0, 1) := by decide +kernel
theorem dX5_fewestOf_1 : decode cX5_fewestOf 1 = .ok (.istore_n 2, 1) := by decide +kernel
theorem dX5_fewestOf_2 : decode cX5_fewestOf 2 = .ok (.iload_n 2, 1) := by decide +kernel
theorem dX5_fewestOf_3 : decode cX5_fewestOf 3 = .ok (.bipush 8, 2) := by decide +kernel
theorem dX5_fewestOf_5 : decode cX5_fewestOf 5 = .ok (.if_icmp .ge 16, 3) := by decide +kernel
theorem dX5_fewestOf_8 : decode cX5_fewestOf 8 = .ok (.aload_n 0, 1) := by decide +kernel
theorem dX5_fewestOf_9 : decode cX5_fewestOf 9 = .ok (.getfield 49, 3) := by decide +kernel
theorem dX5_fewestOf_12 : decode cX5_fewestOf 12 = .ok (.iload_n 2, 1) := by decide +kernel
theorem dX5_fewestOf_13 : decode cX5_fewestOf 13 = .ok (.iconst 0, 1) := by decide +kernel
theorem dX5_fewestOf_14 : decode cX5_fewestOf 14 = .ok (.iastore, 1) := by decide +kernel
theorem dX5_fewestOf_15 : decode cX5_fewestOf 15 = .ok (.iinc 2 1, 3) := by decide +kernel
theorem dX5_fewestOf_18 : decode cX5_fewestOf 18 = .ok (.goto (-16), 3) := by decide +kernel
theorem dX5_fewestOf_21 : decode cX5_fewestOf 21 = .ok (.aload_n 0, 1) := by decide +kernel
theorem dX5_fewestOf_22 : decode cX5_fewestOf 22 = .ok (.iload_n 1, 1) := by decide +kernel
theorem dX5_fewestOf_23 : decode cX5_fewestOf 23 = .ok (.invokevirtual 194, 3) := by decide +kernel
theorem dX5_fewestOf_26 : decode cX5_fewestOf 26 = .ok (.istore_n 2, 1) := by decide +kernel
theorem dX5_fewestOf_27 : decode cX5_fewestOf 27 = .ok (.iconst 0, 1) := by decide +kernel
theorem dX5_fewestOf_28 : decode cX5_fewestOf 28 = .ok (.istore_n 3, 1) := by decide +kernel
theorem dX5_fewestOf_29 : decode cX5_fewestOf 29 = .ok (.iload_n 2, 1) := by decide +kernel
theorem dX5_fewestOf_30 : decode cX5_fewestOf 30 = .ok (.ifCond .le 44, 3) := by decide +kernel
theorem dX5_fewestOf_33 : decode cX5_fewestOf 33 = .ok (.aload_n 0, 1) := by decide +kernel
theorem dX5_fewestOf_34 : decode cX5_fewestOf 34 = .ok (.iload_n 1, 1) := by decide +kernel
theorem dX5_fewestOf_35 : decode cX5_fewestOf 35 = .ok (.invokevirtual 218, 3) := by decide +kernel
theorem dX5_fewestOf_38 : decode cX5_fewestOf 38 = .ok (.istore 4, 2) := by decide +kernel
theorem dX5_fewestOf_40 : decode cX5_fewestOf 40 = .ok (.iload 4, 2) := by decide +kernel
theorem dX5_fewestOf_42 : decode cX5_fewestOf 42 = .ok (.ifCond .ge 6, 3) := by decide +kernel
theorem dX5_fewestOf_45 : decode cX5_fewestOf 45 = .ok (.bipush (-9), 2) := by decide +kernel
theorem dX5_fewestOf_47 : decode cX5_fewestOf 47 = .ok (.ireturn, 1) := by decide +kernel
theorem dX5_fewestOf_48 : decode cX5_fewestOf 48 = .ok (.aload_n 0, 1) := by decide +kernel
theorem dX5_fewestOf_49 : decode cX5_fewestOf 49 = .ok (.getfield 49, 3) := by decide +kernel
theorem dX5_fewestOf_52 : decode cX5_fewestOf 52 = .ok (.iload 4, 2) := by decide +kernel
theorem dX5_fewestOf_54 : decode cX5_fewestOf 54 = .ok (.dup2, 1) := by decide +kernel
theorem dX5_fewestOf_55 : decode cX5_fewestOf 55 = .ok (.iaload, 1) := by decide +kernel
theorem dX5_fewestOf_56 : decode cX5_fewestOf 56 = .ok (.iconst 1, 1) := by decide +kernel
theorem dX5_fewestOf_57 : decode cX5_fewestOf 57 = .ok (.iadd, 1) := by decide +kernel
theorem dX5_fewestOf_58 : decode cX5_fewestOf 58 = .ok (.iastore, 1) := by decide +kernel
theorem dX5_fewestOf_59 : decode cX5_fewestOf 59 = .ok (.iload_n 2, 1) := by decide +kernel
theorem dX5_fewestOf_60 : decode cX5_fewestOf 60 = .ok (.aload_n 0, 1) := by decide +kernel
theorem dX5_fewestOf_61 : decode cX5_fewestOf 61 = .ok (.iload 4, 2) := by decide +kernel
theorem dX5_fewestOf_63 : decode cX5_fewestOf 63 = .ok (.invokevirtual 170, 3) := by decide +kernel
theorem dX5_fewestOf_66 : decode cX5_fewestOf 66 = .ok (.isub, 1) := by decide +kernel
theorem dX5_fewestOf_67 : decode cX5_fewestOf 67 = .ok (.istore_n 2, 1) := by decide +kernel
theorem dX5_fewestOf_68 : decode cX5_fewestOf 68 = .ok (.iinc 3 1, 3) := by decide +kernel
theorem dX5_fewestOf_71 : decode cX5_fewestOf 71 = .ok (.goto (-42), 3) := by decide +kernel
theorem dX5_fewestOf_74 : decode cX5_fewestOf 74 = .ok (.iload_n 3, 1) := by decide +kernel
theorem dX5_fewestOf_75 : decode cX5_fewestOf 75 = .ok (.ireturn, 1) := by decide +kernel
theorem dX5_tellsMost_0 : decode cX5_tellsMost 0 = .ok (.bipush (-9), 2) := by decide +kernel
theorem dX5_tellsMost_2 : decode cX5_tellsMost 2 = .ok (.istore_n 1, 1) := by decide +kernel
theorem dX5_tellsMost_3 : decode cX5_tellsMost 3 = .ok (.iconst 0, 1) := by decide +kernel
theorem dX5_tellsMost_4 : decode cX5_tellsMost 4 = .ok (.istore_n 2, 1) := by decide +kernel
theorem dX5_tellsMost_5 : decode cX5_tellsMost 5 = .ok (.iload_n 2, 1) := by decide +kernel
theorem dX5_tellsMost_6 : decode cX5_tellsMost 6 = .ok (.aload_n 0, 1) := by decide +kernel
theorem dX5_tellsMost_7 : decode cX5_tellsMost 7 = .ok (.getfield 65, 3) := by decide +kernel
theorem dX5_tellsMost_10 : decode cX5_tellsMost 10 = .ok (.if_icmp .ge 43, 3) := by decide +kernel
theorem dX5_tellsMost_13 : decode cX5_tellsMost 13 = .ok (.aload_n 0, 1) := by decide +kernel
theorem dX5_tellsMost_14 : decode cX5_tellsMost 14 = .ok (.getfield 49, 3) := by decide +kernel
theorem dX5_tellsMost_17 : decode cX5_tellsMost 17 = .ok (.iload_n 2, 1) := by decide +kernel
theorem dX5_tellsMost_18 : decode cX5_tellsMost 18 = .ok (.iaload, 1) := by decide +kernel
theorem dX5_tellsMost_19 : decode cX5_tellsMost 19 = .ok (.ifCond .le 26, 3) := by decide +kernel
theorem dX5_tellsMost_22 : decode cX5_tellsMost 22 = .ok (.iload_n 1, 1) := by decide +kernel
theorem dX5_tellsMost_23 : decode cX5_tellsMost 23 = .ok (.ifCond .lt 18, 3) := by decide +kernel
theorem dX5_tellsMost_26 : decode cX5_tellsMost 26 = .ok (.aload_n 0, 1) := by decide +kernel
theorem dX5_tellsMost_27 : decode cX5_tellsMost 27 = .ok (.getfield 49, 3) := by decide +kernel
theorem dX5_tellsMost_30 : decode cX5_tellsMost 30 = .ok (.iload_n 2, 1) := by decide +kernel
theorem dX5_tellsMost_31 : decode cX5_tellsMost 31 = .ok (.iaload, 1) := by decide +kernel
theorem dX5_tellsMost_32 : decode cX5_tellsMost 32 = .ok (.aload_n 0, 1) := by decide +kernel
theorem dX5_tellsMost_33 : decode cX5_tellsMost 33 = .ok (.getfield 49, 3) := by decide +kernel
theorem dX5_tellsMost_36 : decode cX5_tellsMost 36 = .ok (.iload_n 1, 1) := by decide +kernel
theorem dX5_tellsMost_37 : decode cX5_tellsMost 37 = .ok (.iaload, 1) := by decide +kernel
theorem dX5_tellsMost_38 : decode cX5_tellsMost 38 = .ok (.if_icmp .le 7, 3) := by decide +kernel
theorem dX5_tellsMost_41 : decode cX5_tellsMost 41 = .ok (.iload_n 2, 1) := by decide +kernel
theorem dX5_tellsMost_42 : decode cX5_tellsMost 42 = .ok (.goto 4, 3) := by decide +kernel
theorem dX5_tellsMost_45 : decode cX5_tellsMost 45 = .ok (.iload_n 1, 1) := by decide +kernel
theorem dX5_tellsMost_46 : decode cX5_tellsMost 46 = .ok (.istore_n 1, 1) := by decide +kernel
theorem dX5_tellsMost_47 : decode cX5_tellsMost 47 = .ok (.iinc 2 1, 3) := by decide +kernel
theorem dX5_tellsMost_50 : decode cX5_tellsMost 50 = .ok (.goto (-45), 3) := by decide +kernel
theorem dX5_tellsMost_53 : decode cX5_tellsMost 53 = .ok (.iload_n 1, 1) := by decide +kernel
theorem dX5_tellsMost_54 : decode cX5_tellsMost 54 = .ok (.ireturn, 1) := by decide +kernel
set_option maxRecDepth 20000 in
theorem ggX5_fewest_X5_isShip : GoodIn wsX5_fewest wsX5_isShip := goodIn_r _ [6, 7, 54, 55, 56, 57, 58, 59, 60, 61, 62, 63, 64, 65, 66, 67, 68, 69, 70, 71, 72, 73, 74, 75, 76, 77, 78, 79, 80] (by decide +kernel) (by decide +kernel)
set_option maxRecDepth 20000 in
theorem gX5_fewest_X5_isShip : GoodIn wsX5_fewest (wsV RX5 107 RX5 yX5_isShip wsX5_isShip) := goodIn_app (goodIn_of _ (by decide +kernel)) ggX5_fewest_X5_isShip
set_option maxRecDepth 20000 in
theorem ggX5_fewest_X5_isIn : GoodIn wsX5_fewest wsX5_isIn := goodIn_r _ [10] (by decide +kernel) (by decide +kernel)
set_option maxRecDepth 20000 in
theorem gX5_fewest_X5_isIn : GoodIn wsX5_fewest (va_wsS RX5 86 yX5_isIn wsX5_isIn) := goodIn_app (goodIn_of _ (by decide +kernel)) ggX5_fewest_X5_isIn
set_option maxRecDepth 20000 in
theorem ggX5_fewest_X5_no : GoodIn wsX5_fewest wsX5_no := goodIn_r _ [14, 15, 54, 55, 56, 57, 58, 59, 60, 61, 62, 63, 64, 65, 66, 67, 68, 69, 70, 71, 72, 73, 74, 75, 76, 77, 78, 79, 80] (by decide +kernel) (by decide +kernel)
set_option maxRecDepth 20000 in
theorem gX5_fewest_X5_no : GoodIn wsX5_fewest (wsV RX5 75 RX5 yX5_no wsX5_no) := goodIn_app (goodIn_of _ (by decide +kernel)) ggX5_fewest_X5_no
set_option maxRecDepth 20000 in
theorem ggX5_fewest_X5_fewestOf : GoodIn wsX5_fewest wsX5_fewestOf := goodIn_r _ [19, 20, 21, 22, 23, 5, 24, 1, 25, 26, 27, 28, 29, 30, 31, 32, 33, 34, 35, 36, 37, 38, 39, 40, 41, 42, 43, 44, 45, 46, 47, 48, 49, 54, 55, 56, 57, 58, 59, 60, 61, 62, 63, 64, 65, 66, 67, 68, 69, 70, 71, 72, 73, 74, 75, 76, 77, 78, 79, 80] (by decide +kernel) (by decide +kernel)
set_option maxRecDepth 20000 in
theorem gX5_fewest_X5_fewestOf : GoodIn wsX5_fewest (wsV RX5 221 RX5 yX5_fewestOf wsX5_fewestOf) := goodIn_app (goodIn_of _ (by decide +kernel)) ggX5_fewest_X5_fewestOf
set_option maxRecDepth 20000 in
theorem ggX5_fewest_X5_tellsMost : GoodIn wsX5_fewest wsX5_tellsMost := goodIn_r _ [53, 37, 20, 54, 55, 56, 57, 58, 59, 60, 61, 62, 63, 64, 65, 66, 67, 68, 69, 70, 71, 72, 73, 74, 75, 76, 77, 78, 79, 80] (by decide +kernel) (by decide +kernel)
set_option maxRecDepth 20000 in
theorem gX5_fewest_X5_tellsMost : GoodIn wsX5_fewest (wsV RX5 224 RX5 yX5_tellsMost wsX5_tellsMost) := goodIn_app (goodIn_of _ (by decide +kernel)) ggX5_fewest_X5_tellsMost
theorem dX5_fewest_0 : decode cX5_fewest 0 = .ok (.aload_n 0, 1) := by decide +kernel
theorem dX5_fewest_1 : decode cX5_fewest 1 = .ok (.iload_n 1, 1) := by decide +kernel
theorem dX5_fewest_2 : decode cX5_fewest 2 = .ok (.invokevirtual 107, 3) := by decide +kernel
theorem dX5_fewest_5 : decode cX5_fewest 5 = .ok (.ifCond .ne 7, 3) := by decide +kernel
theorem dX5_fewest_8 : decode cX5_fewest 8 = .ok (.iconst (-1), 1) := by decide +kernel
theorem dX5_fewest_9 : decode cX5_fewest 9 = .ok (.goto 32, 3) := by decide +kernel
theorem dX5_fewest_12 : decode cX5_fewest 12 = .ok (.iload_n 2, 1) := by decide +kernel
theorem dX5_fewest_13 : decode cX5_fewest 13 = .ok (.iconst 0, 1) := by decide +kernel
theorem dX5_fewest_14 : decode cX5_fewest 14 = .ok (.iconst 1, 1) := by decide +kernel
theorem dX5_fewest_15 : decode cX5_fewest 15 = .ok (.invokestatic 86, 3) := by decide +kernel
theorem dX5_fewest_18 : decode cX5_fewest 18 = .ok (.ifCond .ne 8, 3) := by decide +kernel
theorem dX5_fewest_21 : decode cX5_fewest 21 = .ok (.bipush (-2), 2) := by decide +kernel
theorem dX5_fewest_23 : decode cX5_fewest 23 = .ok (.goto 18, 3) := by decide +kernel
theorem dX5_fewest_26 : decode cX5_fewest 26 = .ok (.aload_n 0, 1) := by decide +kernel
theorem dX5_fewest_27 : decode cX5_fewest 27 = .ok (.getfield 19, 3) := by decide +kernel
theorem dX5_fewest_30 : decode cX5_fewest 30 = .ok (.iload_n 1, 1) := by decide +kernel
theorem dX5_fewest_31 : decode cX5_fewest 31 = .ok (.iaload, 1) := by decide +kernel
theorem dX5_fewest_32 : decode cX5_fewest 32 = .ok (.ifCond .le 8, 3) := by decide +kernel
theorem dX5_fewest_35 : decode cX5_fewest 35 = .ok (.bipush (-3), 2) := by decide +kernel
theorem dX5_fewest_37 : decode cX5_fewest 37 = .ok (.goto 4, 3) := by decide +kernel
theorem dX5_fewest_40 : decode cX5_fewest 40 = .ok (.iconst 0, 1) := by decide +kernel
theorem dX5_fewest_41 : decode cX5_fewest 41 = .ok (.istore_n 3, 1) := by decide +kernel
theorem dX5_fewest_42 : decode cX5_fewest 42 = .ok (.iload_n 3, 1) := by decide +kernel
theorem dX5_fewest_43 : decode cX5_fewest 43 = .ok (.ifCond .eq 9, 3) := by decide +kernel
theorem dX5_fewest_46 : decode cX5_fewest 46 = .ok (.aload_n 0, 1) := by decide +kernel
theorem dX5_fewest_47 : decode cX5_fewest 47 = .ok (.iload_n 3, 1) := by decide +kernel
theorem dX5_fewest_48 : decode cX5_fewest 48 = .ok (.invokevirtual 75, 3) := by decide +kernel
theorem dX5_fewest_51 : decode cX5_fewest 51 = .ok (.ireturn, 1) := by decide +kernel
theorem dX5_fewest_52 : decode cX5_fewest 52 = .ok (.aload_n 0, 1) := by decide +kernel
theorem dX5_fewest_53 : decode cX5_fewest 53 = .ok (.iload_n 1, 1) := by decide +kernel
theorem dX5_fewest_54 : decode cX5_fewest 54 = .ok (.invokevirtual 221, 3) := by decide +kernel
theorem dX5_fewest_57 : decode cX5_fewest 57 = .ok (.istore 4, 2) := by decide +kernel
theorem dX5_fewest_59 : decode cX5_fewest 59 = .ok (.iload_n 2, 1) := by decide +kernel
theorem dX5_fewest_60 : decode cX5_fewest 60 = .ok (.ifCond .eq 8, 3) := by decide +kernel
theorem dX5_fewest_63 : decode cX5_fewest 63 = .ok (.iload 4, 2) := by decide +kernel
theorem dX5_fewest_65 : decode cX5_fewest 65 = .ok (.ifCond .gt 17, 3) := by decide +kernel
theorem dX5_fewest_68 : decode cX5_fewest 68 = .ok (.iload_n 2, 1) := by decide +kernel
theorem dX5_fewest_69 : decode cX5_fewest 69 = .ok (.ifCond .ne 8, 3) := by decide +kernel
theorem dX5_fewest_72 : decode cX5_fewest 72 = .ok (.iload 4, 2) := by decide +kernel
theorem dX5_fewest_74 : decode cX5_fewest 74 = .ok (.goto 12, 3) := by decide +kernel
theorem dX5_fewest_77 : decode cX5_fewest 77 = .ok (.bipush (-9), 2) := by decide +kernel
theorem dX5_fewest_79 : decode cX5_fewest 79 = .ok (.goto 7, 3) := by decide +kernel
theorem dX5_fewest_82 : decode cX5_fewest 82 = .ok (.aload_n 0, 1) := by decide +kernel
theorem dX5_fewest_83 : decode cX5_fewest 83 = .ok (.invokevirtual 224, 3) := by decide +kernel
theorem dX5_fewest_86 : decode cX5_fewest 86 = .ok (.ireturn, 1) := by decide +kernel
set_option maxRecDepth 20000 in
theorem ggX5_when_X5_isShip : GoodIn wsX5_when wsX5_isShip := goodIn_r _ [6, 7, 87, 88, 89, 90, 91, 92, 93, 94, 95, 96, 97, 98, 99, 100, 101, 102, 103, 104, 105, 106, 107, 108, 109, 110, 111, 112, 113] (by decide +kernel) (by decide +kernel)
set_option maxRecDepth 20000 in
theorem gX5_when_X5_isShip : GoodIn wsX5_when (wsV RX5 107 RX5 yX5_isShip wsX5_isShip) := goodIn_app (goodIn_of _ (by decide +kernel)) ggX5_when_X5_isShip
set_option maxRecDepth 20000 in
theorem ggX5_when_X5_bound : GoodIn wsX5_when wsX5_bound := goodIn_r _ [10] (by decide +kernel) (by decide +kernel)
set_option maxRecDepth 20000 in
theorem gX5_when_X5_bound : GoodIn wsX5_when (va_wsS RX5 68 yX5_bound wsX5_bound) := goodIn_app (goodIn_of _ (by decide +kernel)) ggX5_when_X5_bound
set_option maxRecDepth 20000 in
theorem ggX5_when_X5_no : GoodIn wsX5_when wsX5_no := goodIn_r _ [14, 15, 87, 88, 89, 90, 91, 92, 93, 94, 95, 96, 97, 98, 99, 100, 101, 102, 103, 104, 105, 106, 107, 108, 109, 110, 111, 112, 113] (by decide +kernel) (by decide +kernel)
set_option maxRecDepth 20000 in
theorem gX5_when_X5_no : GoodIn wsX5_when (wsV RX5 75 RX5 yX5_no wsX5_no) := goodIn_app (goodIn_of _ (by decide +kernel)) ggX5_when_X5_no
set_option maxRecDepth 20000 in
theorem ggX5_when_X5_thinks : GoodIn wsX5_when wsX5_thinks := goodIn_r _ [19, 20, 21, 22, 5, 23, 24, 25, 26, 27, 1, 28, 29, 30, 31, 7, 32, 33, 34, 35, 36, 37, 38, 39, 40, 41, 42, 43, 87, 88, 89, 90, 91, 92, 93, 94, 95, 96, 97, 98, 99, 100, 101, 102, 103, 104, 105, 106, 107, 108, 109, 110, 111, 112, 113] (by decide +kernel) (by decide +kernel)
set_option maxRecDepth 20000 in
theorem gX5_when_X5_thinks : GoodIn wsX5_when (wsV RX5 209 RX5 yX5_thinks wsX5_thinks) := goodIn_app (goodIn_of _ (by decide +kernel)) ggX5_when_X5_thinks
set_option maxRecDepth 20000 in
theorem ggX5_when_X5_fewestOf : GoodIn wsX5_when wsX5_fewestOf := goodIn_r _ [47, 48, 49, 50, 51, 5, 52, 1, 27, 53, 54, 55, 56, 26, 34, 33, 57, 58, 59, 60, 32, 31, 30, 61, 62, 63, 64, 65, 66, 67, 68, 29, 28, 87, 88, 89, 90, 91, 92, 93, 94, 95, 96, 97, 98, 99, 100, 101, 102, 103, 104, 105, 106, 107, 108, 109, 110, 111, 112, 113] (by decide +kernel) (by decide +kernel)
set_option maxRecDepth 20000 in
theorem gX5_when_X5_fewestOf : GoodIn wsX5_when (wsV RX5 221 RX5 yX5_fewestOf wsX5_fewestOf) := goodIn_app (goodIn_of _ (by decide +kernel)) ggX5_when_X5_fewestOf
set_option maxRecDepth 20000 in
theorem ggX5_when_X5_isIn : GoodIn wsX5_when wsX5_isIn := goodIn_r _ [71] (by decide +kernel) (by decide +kernel)
set_option maxRecDepth 20000 in
theorem gX5_when_X5_isIn : GoodIn wsX5_when (va_wsS RX5 86 yX5_isIn wsX5_isIn) := goodIn_app (goodIn_of _ (by decide +kernel)) ggX5_when_X5_isIn
set_option maxRecDepth 20000 in
theorem ggX5_when_X5_goesTide : GoodIn wsX5_when wsX5_goesTide := goodIn_r _ [75, 34, 32, 1, 31, 30, 7, 76, 77, 78, 5, 79, 28, 80, 81, 82, 87, 88, 89, 90, 91, 92, 93, 94, 95, 96, 97, 98, 99, 100, 101, 102, 103, 104, 105, 106, 107, 108, 109, 110, 111, 112, 113] (by decide +kernel) (by decide +kernel)
set_option maxRecDepth 20000 in
theorem gX5_when_X5_goesTide : GoodIn wsX5_when (wsV RX5 191 RX5 yX5_goesTide wsX5_goesTide) := goodIn_app (goodIn_of _ (by decide +kernel)) ggX5_when_X5_goesTide
set_option maxRecDepth 20000 in
theorem ggX5_when_X5_forgets : GoodIn wsX5_when wsX5_forgets := goodIn_r _ [86, 20, 21, 22, 5, 23, 24, 25, 26, 27, 1, 28, 29, 30, 31, 7, 32, 33, 34, 35, 36, 37, 38, 39, 40, 41, 42, 43, 87, 88, 89, 90, 91, 92, 93, 94, 95, 96, 97, 98, 99, 100, 101, 102, 103, 104, 105, 106, 107, 108, 109, 110, 111, 112, 113] (by decide +kernel) (by decide +kernel)
set_option maxRecDepth 20000 in
theorem gX5_when_X5_forgets : GoodIn wsX5_when (wsV RX5 212 RX5 yX5_forgets wsX5_forgets) := goodIn_app (goodIn_of _ (by decide +kernel)) ggX5_when_X5_forgets
theorem dX5_when_0 : decode cX5_when 0 = .ok (.aload_n 0, 1) := by decide +kernel
theorem dX5_when_1 : decode cX5_when 1 = .ok (.iload_n 1, 1) := by decide +kernel
theorem dX5_when_2 : decode cX5_when 2 = .ok (.invokevirtual 107, 3) := by decide +kernel
theorem dX5_when_5 : decode cX5_when 5 = .ok (.ifCond .ne 7, 3) := by decide +kernel
theorem dX5_when_8 : decode cX5_when 8 = .ok (.iconst (-1), 1) := by decide +kernel
theorem dX5_when_9 : decode cX5_when 9 = .ok (.goto 10, 3) := by decide +kernel
theorem dX5_when_12 : decode cX5_when 12 = .ok (.iload_n 2, 1) := by decide +kernel
theorem dX5_when_13 : decode cX5_when 13 = .ok (.iconst 0, 1) := by decide +kernel
theorem dX5_when_14 : decode cX5_when 14 = .ok (.bipush 20, 2) := by decide +kernel
theorem dX5_when_16 : decode cX5_when 16 = .ok (.invokestatic 68, 3) := by decide +kernel
theorem dX5_when_19 : decode cX5_when 19 = .ok (.istore_n 3, 1) := by decide +kernel
theorem dX5_when_20 : decode cX5_when 20 = .ok (.iload_n 3, 1) := by decide +kernel
theorem dX5_when_21 : decode cX5_when 21 = .ok (.ifCond .eq 9, 3) := by decide +kernel
theorem dX5_when_24 : decode cX5_when 24 = .ok (.aload_n 0, 1) := by decide +kernel
theorem dX5_when_25 : decode cX5_when 25 = .ok (.iload_n 3, 1) := by decide +kernel
theorem dX5_when_26 : decode cX5_when 26 = .ok (.invokevirtual 75, 3) := by decide +kernel
theorem dX5_when_29 : decode cX5_when 29 = .ok (.ireturn, 1) := by decide +kernel
theorem dX5_when_30 : decode cX5_when 30 = .ok (.aload_n 0, 1) := by decide +kernel
theorem dX5_when_31 : decode cX5_when 31 = .ok (.invokevirtual 209, 3) := by decide +kernel
theorem dX5_when_34 : decode cX5_when 34 = .ok (.bipush (-9), 2) := by decide +kernel
theorem dX5_when_36 : decode cX5_when 36 = .ok (.istore 4, 2) := by decide +kernel
theorem dX5_when_38 : decode cX5_when 38 = .ok (.iconst 0, 1) := by decide +kernel
theorem dX5_when_39 : decode cX5_when 39 = .ok (.istore 5, 2) := by decide +kernel
theorem dX5_when_41 : decode cX5_when 41 = .ok (.iload 5, 2) := by decide +kernel
theorem dX5_when_43 : decode cX5_when 43 = .ok (.bipush 60, 2) := by decide +kernel
theorem dX5_when_45 : decode cX5_when 45 = .ok (.if_icmp .gt 49, 3) := by decide +kernel
theorem dX5_when_48 : decode cX5_when 48 = .ok (.iload 4, 2) := by decide +kernel
theorem dX5_when_50 : decode cX5_when 50 = .ok (.ifCond .ge 44, 3) := by decide +kernel
theorem dX5_when_53 : decode cX5_when 53 = .ok (.aload_n 0, 1) := by decide +kernel
theorem dX5_when_54 : decode cX5_when 54 = .ok (.getfield 19, 3) := by decide +kernel
theorem dX5_when_57 : decode cX5_when 57 = .ok (.iload_n 1, 1) := by decide +kernel
theorem dX5_when_58 : decode cX5_when 58 = .ok (.iaload, 1) := by decide +kernel
theorem dX5_when_59 : decode cX5_when 59 = .ok (.ifCond .ne 21, 3) := by decide +kernel
theorem dX5_when_62 : decode cX5_when 62 = .ok (.aload_n 0, 1) := by decide +kernel
theorem dX5_when_63 : decode cX5_when 63 = .ok (.iload_n 1, 1) := by decide +kernel
theorem dX5_when_64 : decode cX5_when 64 = .ok (.invokevirtual 221, 3) := by decide +kernel
theorem dX5_when_67 : decode cX5_when 67 = .ok (.iconst 0, 1) := by decide +kernel
theorem dX5_when_68 : decode cX5_when 68 = .ok (.iload_n 2, 1) := by decide +kernel
theorem dX5_when_69 : decode cX5_when 69 = .ok (.invokestatic 86, 3) := by decide +kernel
theorem dX5_when_72 : decode cX5_when 72 = .ok (.ifCond .eq 8, 3) := by decide +kernel
theorem dX5_when_75 : decode cX5_when 75 = .ok (.iload 5, 2) := by decide +kernel
theorem dX5_when_77 : decode cX5_when 77 = .ok (.goto 5, 3) := by decide +kernel
theorem dX5_when_80 : decode cX5_when 80 = .ok (.bipush (-9), 2) := by decide +kernel
theorem dX5_when_82 : decode cX5_when 82 = .ok (.istore 4, 2) := by decide +kernel
theorem dX5_when_84 : decode cX5_when 84 = .ok (.aload_n 0, 1) := by decide +kernel
theorem dX5_when_85 : decode cX5_when 85 = .ok (.invokevirtual 191, 3) := by decide +kernel
theorem dX5_when_88 : decode cX5_when 88 = .ok (.iinc 5 1, 3) := by decide +kernel
theorem dX5_when_91 : decode cX5_when 91 = .ok (.goto (-50), 3) := by decide +kernel
theorem dX5_when_94 : decode cX5_when 94 = .ok (.aload_n 0, 1) := by decide +kernel
theorem dX5_when_95 : decode cX5_when 95 = .ok (.invokevirtual 212, 3) := by decide +kernel
theorem dX5_when_98 : decode cX5_when 98 = .ok (.iload 4, 2) := by decide +kernel
theorem dX5_when_100 : decode cX5_when 100 = .ok (.ireturn, 1) := by decide +kernel
set_option maxRecDepth 20000 in
theorem ggX5_cheapest_X5_fewestOf : GoodIn wsX5_cheapest wsX5_fewestOf := goodIn_r _ [7, 8, 9, 10, 11, 6, 12, 2, 13, 14, 15, 16, 17, 18, 19, 20, 21, 22, 23, 24, 25, 26, 27, 28, 29, 30, 31, 32, 33, 34, 35, 36, 37, 38, 39, 40, 41, 42, 43, 44, 45, 46, 47, 48, 49, 50, 51, 52, 53, 54, 55, 56, 57, 58, 59, 60, 61, 62, 63, 64] (by decide +kernel) (by decide +kernel)
set_option maxRecDepth 20000 in
theorem gX5_cheapest_X5_fewestOf : GoodIn wsX5_cheapest (wsV RX5 221 RX5 yX5_fewestOf wsX5_fewestOf) := goodIn_app (goodIn_of _ (by decide +kernel)) ggX5_cheapest_X5_fewestOf
theorem dX5_cheapest_0 : decode cX5_cheapest 0 = .ok (.bipush (-9), 2) := by decide +kernel
theorem dX5_cheapest_2 : decode cX5_cheapest 2 = .ok (.istore_n 1, 1) := by decide +kernel
theorem dX5_cheapest_3 : decode cX5_cheapest 3 = .ok (.bipush (-9), 2) := by decide +kernel
theorem dX5_cheapest_5 : decode cX5_cheapest 5 = .ok (.istore_n 2, 1) := by decide +kernel
theorem dX5_cheapest_6 : decode cX5_cheapest 6 = .ok (.iconst 0, 1) := by decide +kernel
theorem dX5_cheapest_7 : decode cX5_cheapest 7 = .ok (.istore_n 3, 1) := by decide +kernel
theorem dX5_cheapest_8 : decode cX5_cheapest 8 = .ok (.iload_n 3, 1) := by decide +kernel
theorem dX5_cheapest_9 : decode cX5_cheapest 9 = .ok (.aload_n 0, 1) := by decide +kernel
theorem dX5_cheapest_10 : decode cX5_cheapest 10 = .ok (.getfield 58, 3) := by decide +kernel
theorem dX5_cheapest_13 : decode cX5_cheapest 13 = .ok (.if_icmp .ge 53, 3) := by decide +kernel
theorem dX5_cheapest_16 : decode cX5_cheapest 16 = .ok (.aload_n 0, 1) := by decide +kernel
theorem dX5_cheapest_17 : decode cX5_cheapest 17 = .ok (.getfield 19, 3) := by decide +kernel
theorem dX5_cheapest_20 : decode cX5_cheapest 20 = .ok (.iload_n 3, 1) := by decide +kernel
theorem dX5_cheapest_21 : decode cX5_cheapest 21 = .ok (.iaload, 1) := by decide +kernel
theorem dX5_cheapest_22 : decode cX5_cheapest 22 = .ok (.ifCond .le 8, 3) := by decide +kernel
theorem dX5_cheapest_25 : decode cX5_cheapest 25 = .ok (.bipush (-9), 2) := by decide +kernel
theorem dX5_cheapest_27 : decode cX5_cheapest 27 = .ok (.goto 8, 3) := by decide +kernel
theorem dX5_cheapest_30 : decode cX5_cheapest 30 = .ok (.aload_n 0, 1) := by decide +kernel
theorem dX5_cheapest_31 : decode cX5_cheapest 31 = .ok (.iload_n 3, 1) := by decide +kernel
theorem dX5_cheapest_32 : decode cX5_cheapest 32 = .ok (.invokevirtual 221, 3) := by decide +kernel
theorem dX5_cheapest_35 : decode cX5_cheapest 35 = .ok (.istore 4, 2) := by decide +kernel
theorem dX5_cheapest_37 : decode cX5_cheapest 37 = .ok (.iload 4, 2) := by decide +kernel
theorem dX5_cheapest_39 : decode cX5_cheapest 39 = .ok (.ifCond .lt 21, 3) := by decide +kernel
theorem dX5_cheapest_42 : decode cX5_cheapest 42 = .ok (.iload_n 1, 1) := by decide +kernel
theorem dX5_cheapest_43 : decode cX5_cheapest 43 = .ok (.ifCond .lt 12, 3) := by decide +kernel
theorem dX5_cheapest_46 : decode cX5_cheapest 46 = .ok (.iload 4, 2) := by decide +kernel
theorem dX5_cheapest_48 : decode cX5_cheapest 48 = .ok (.iload_n 2, 1) := by decide +kernel
theorem dX5_cheapest_49 : decode cX5_cheapest 49 = .ok (.if_icmp .lt 6, 3) := by decide +kernel
theorem dX5_cheapest_52 : decode cX5_cheapest 52 = .ok (.goto 8, 3) := by decide +kernel
theorem dX5_cheapest_55 : decode cX5_cheapest 55 = .ok (.iload_n 3, 1) := by decide +kernel
theorem dX5_cheapest_56 : decode cX5_cheapest 56 = .ok (.istore_n 1, 1) := by decide +kernel
theorem dX5_cheapest_57 : decode cX5_cheapest 57 = .ok (.iload 4, 2) := by decide +kernel
theorem dX5_cheapest_59 : decode cX5_cheapest 59 = .ok (.istore_n 2, 1) := by decide +kernel
theorem dX5_cheapest_60 : decode cX5_cheapest 60 = .ok (.iinc 3 1, 3) := by decide +kernel
theorem dX5_cheapest_63 : decode cX5_cheapest 63 = .ok (.goto (-55), 3) := by decide +kernel
theorem dX5_cheapest_66 : decode cX5_cheapest 66 = .ok (.iload_n 1, 1) := by decide +kernel
theorem dX5_cheapest_67 : decode cX5_cheapest 67 = .ok (.ireturn, 1) := by decide +kernel
set_option maxRecDepth 20000 in
theorem ggX5_canRiseOnes_X5_canRise : GoodIn wsX5_canRiseOnes wsX5_canRise := goodIn_r _ [6, 7, 8, 9, 10, 5, 11, 12, 13, 14, 15, 16, 17, 18, 19, 20, 21, 22, 23, 24, 25, 26, 27, 28, 29, 30, 31, 32, 33, 34, 35, 36, 37, 38, 39, 40, 41, 42, 43, 44, 45, 46, 47, 48, 49, 50, 51, 52, 53, 54, 55, 56, 57, 58, 59, 60, 61, 62, 63] (by decide +kernel) (by decide +kernel)
set_option maxRecDepth 20000 in
theorem gX5_canRiseOnes_X5_canRise : GoodIn wsX5_canRiseOnes (wsV RX5 215 RX5 yX5_canRise wsX5_canRise) := goodIn_app (goodIn_of _ (by decide +kernel)) ggX5_canRiseOnes_X5_canRise
theorem dX5_canRiseOnes_0 : decode cX5_canRiseOnes 0 = .ok (.iconst 0, 1) := by decide +kernel
theorem dX5_canRiseOnes_1 : decode cX5_canRiseOnes 1 = .ok (.istore_n 1, 1) := by decide +kernel
theorem dX5_canRiseOnes_2 : decode cX5_canRiseOnes 2 = .ok (.iconst 0, 1) := by decide +kernel
theorem dX5_canRiseOnes_3 : decode cX5_canRiseOnes 3 = .ok (.istore_n 2, 1) := by decide +kernel
theorem dX5_canRiseOnes_4 : decode cX5_canRiseOnes 4 = .ok (.iload_n 2, 1) := by decide +kernel
theorem dX5_canRiseOnes_5 : decode cX5_canRiseOnes 5 = .ok (.aload_n 0, 1) := by decide +kernel
theorem dX5_canRiseOnes_6 : decode cX5_canRiseOnes 6 = .ok (.getfield 58, 3) := by decide +kernel
theorem dX5_canRiseOnes_9 : decode cX5_canRiseOnes 9 = .ok (.if_icmp .ge 25, 3) := by decide +kernel
theorem dX5_canRiseOnes_12 : decode cX5_canRiseOnes 12 = .ok (.iload_n 1, 1) := by decide +kernel
theorem dX5_canRiseOnes_13 : decode cX5_canRiseOnes 13 = .ok (.aload_n 0, 1) := by decide +kernel
theorem dX5_canRiseOnes_14 : decode cX5_canRiseOnes 14 = .ok (.iload_n 2, 1) := by decide +kernel
theorem dX5_canRiseOnes_15 : decode cX5_canRiseOnes 15 = .ok (.invokevirtual 215, 3) := by decide +kernel
theorem dX5_canRiseOnes_18 : decode cX5_canRiseOnes 18 = .ok (.ifCond .eq 7, 3) := by decide +kernel
theorem dX5_canRiseOnes_21 : decode cX5_canRiseOnes 21 = .ok (.iconst 1, 1) := by decide +kernel
theorem dX5_canRiseOnes_22 : decode cX5_canRiseOnes 22 = .ok (.goto 4, 3) := by decide +kernel
theorem dX5_canRiseOnes_25 : decode cX5_canRiseOnes 25 = .ok (.iconst 0, 1) := by decide +kernel
theorem dX5_canRiseOnes_26 : decode cX5_canRiseOnes 26 = .ok (.iadd, 1) := by decide +kernel
theorem dX5_canRiseOnes_27 : decode cX5_canRiseOnes 27 = .ok (.istore_n 1, 1) := by decide +kernel
theorem dX5_canRiseOnes_28 : decode cX5_canRiseOnes 28 = .ok (.iinc 2 1, 3) := by decide +kernel
theorem dX5_canRiseOnes_31 : decode cX5_canRiseOnes 31 = .ok (.goto (-27), 3) := by decide +kernel
theorem dX5_canRiseOnes_34 : decode cX5_canRiseOnes 34 = .ok (.iload_n 1, 1) := by decide +kernel
theorem dX5_canRiseOnes_35 : decode cX5_canRiseOnes 35 = .ok (.ireturn, 1) := by decide +kernel
set_option maxRecDepth 20000 in
theorem ggX5_berth_X5_isMan : GoodIn wsX5_berth wsX5_isMan := goodIn_r _ [8, 9, 50, 51, 52, 53, 54, 55, 56, 57, 58, 59, 60, 61, 62, 63, 64, 65, 66, 67, 68, 69, 70, 71, 72, 73, 74, 75, 76] (by decide +kernel) (by decide +kernel)
set_option maxRecDepth 20000 in
theorem gX5_berth_X5_isMan : GoodIn wsX5_berth (wsV RX5 129 RX5 yX5_isMan wsX5_isMan) := goodIn_app (goodIn_of _ (by decide +kernel)) ggX5_berth_X5_isMan
set_option maxRecDepth 20000 in
theorem ggX5_berth_X5_no : GoodIn wsX5_berth wsX5_no := goodIn_r _ [13, 14, 50, 51, 52, 53, 54, 55, 56, 57, 58, 59, 60, 61, 62, 63, 64, 65, 66, 67, 68, 69, 70, 71, 72, 73, 74, 75, 76] (by decide +kernel) (by decide +kernel)
set_option maxRecDepth 20000 in
theorem gX5_berth_X5_no : GoodIn wsX5_berth (wsV RX5 75 RX5 yX5_no wsX5_no) := goodIn_app (goodIn_of _ (by decide +kernel)) ggX5_berth_X5_no
set_option maxRecDepth 20000 in
theorem ggX5_berth_X5_canRiseOnes : GoodIn wsX5_berth wsX5_canRiseOnes := goodIn_r _ [18, 2, 19, 20, 21, 7, 22, 3, 23, 24, 25, 26, 27, 28, 29, 30, 31, 9, 1, 32, 33, 34, 35, 36, 37, 38, 39, 40, 41, 42, 43, 44, 45, 46, 47, 48, 49, 50, 51, 52, 53, 54, 55, 56, 57, 58, 59, 60, 61, 62, 63, 64, 65, 66, 67, 68, 69, 70, 71, 72, 73, 74, 75, 76] (by decide +kernel) (by decide +kernel)
set_option maxRecDepth 20000 in
theorem gX5_berth_X5_canRiseOnes : GoodIn wsX5_berth (wsV RX5 227 RX5 yX5_canRiseOnes wsX5_canRiseOnes) := goodIn_app (goodIn_of _ (by decide +kernel)) ggX5_berth_X5_canRiseOnes
theorem dX5_berth_0 : decode cX5_berth 0 = .ok (.aload_n 0, 1) := by decide +kernel
theorem dX5_berth_1 : decode cX5_berth 1 = .ok (.iload_n 1, 1) := by decide +kernel
theorem dX5_berth_2 : decode cX5_berth 2 = .ok (.invokevirtual 129, 3) := by decide +kernel
theorem dX5_berth_5 : decode cX5_berth 5 = .ok (.ifCond .ne 9, 3) := by decide +kernel
theorem dX5_berth_8 : decode cX5_berth 8 = .ok (.aload_n 0, 1) := by decide +kernel
theorem dX5_berth_9 : decode cX5_berth 9 = .ok (.iconst (-1), 1) := by decide +kernel
theorem dX5_berth_10 : decode cX5_berth 10 = .ok (.invokevirtual 75, 3) := by decide +kernel
theorem dX5_berth_13 : decode cX5_berth 13 = .ok (.ireturn, 1) := by decide +kernel
theorem dX5_berth_14 : decode cX5_berth 14 = .ok (.aload_n 0, 1) := by decide +kernel
theorem dX5_berth_15 : decode cX5_berth 15 = .ok (.getfield 31, 3) := by decide +kernel
theorem dX5_berth_18 : decode cX5_berth 18 = .ok (.iload_n 1, 1) := by decide +kernel
theorem dX5_berth_19 : decode cX5_berth 19 = .ok (.iaload, 1) := by decide +kernel
theorem dX5_berth_20 : decode cX5_berth 20 = .ok (.istore_n 2, 1) := by decide +kernel
theorem dX5_berth_21 : decode cX5_berth 21 = .ok (.bipush (-9), 2) := by decide +kernel
theorem dX5_berth_23 : decode cX5_berth 23 = .ok (.istore_n 3, 1) := by decide +kernel
theorem dX5_berth_24 : decode cX5_berth 24 = .ok (.aload_n 0, 1) := by decide +kernel
theorem dX5_berth_25 : decode cX5_berth 25 = .ok (.invokevirtual 227, 3) := by decide +kernel
theorem dX5_berth_28 : decode cX5_berth 28 = .ok (.istore 4, 2) := by decide +kernel
theorem dX5_berth_30 : decode cX5_berth 30 = .ok (.iconst 0, 1) := by decide +kernel
theorem dX5_berth_31 : decode cX5_berth 31 = .ok (.istore 5, 2) := by decide +kernel
theorem dX5_berth_33 : decode cX5_berth 33 = .ok (.iload 5, 2) := by decide +kernel
theorem dX5_berth_35 : decode cX5_berth 35 = .ok (.aload_n 0, 1) := by decide +kernel
theorem dX5_berth_36 : decode cX5_berth 36 = .ok (.getfield 58, 3) := by decide +kernel
theorem dX5_berth_39 : decode cX5_berth 39 = .ok (.if_icmp .ge 53, 3) := by decide +kernel
theorem dX5_berth_42 : decode cX5_berth 42 = .ok (.aload_n 0, 1) := by decide +kernel
theorem dX5_berth_43 : decode cX5_berth 43 = .ok (.getfield 19, 3) := by decide +kernel
theorem dX5_berth_46 : decode cX5_berth 46 = .ok (.iload 5, 2) := by decide +kernel
theorem dX5_berth_48 : decode cX5_berth 48 = .ok (.iaload, 1) := by decide +kernel
theorem dX5_berth_49 : decode cX5_berth 49 = .ok (.ifCond .le 6, 3) := by decide +kernel
theorem dX5_berth_52 : decode cX5_berth 52 = .ok (.goto 34, 3) := by decide +kernel
theorem dX5_berth_55 : decode cX5_berth 55 = .ok (.aload_n 0, 1) := by decide +kernel
theorem dX5_berth_56 : decode cX5_berth 56 = .ok (.getfield 31, 3) := by decide +kernel
theorem dX5_berth_59 : decode cX5_berth 59 = .ok (.iload_n 1, 1) := by decide +kernel
theorem dX5_berth_60 : decode cX5_berth 60 = .ok (.iload 5, 2) := by decide +kernel
theorem dX5_berth_62 : decode cX5_berth 62 = .ok (.iastore, 1) := by decide +kernel
theorem dX5_berth_63 : decode cX5_berth 63 = .ok (.aload_n 0, 1) := by decide +kernel
theorem dX5_berth_64 : decode cX5_berth 64 = .ok (.invokevirtual 227, 3) := by decide +kernel
theorem dX5_berth_67 : decode cX5_berth 67 = .ok (.istore 6, 2) := by decide +kernel
theorem dX5_berth_69 : decode cX5_berth 69 = .ok (.iload 6, 2) := by decide +kernel
theorem dX5_berth_71 : decode cX5_berth 71 = .ok (.iload 4, 2) := by decide +kernel
theorem dX5_berth_73 : decode cX5_berth 73 = .ok (.if_icmp .gt 6, 3) := by decide +kernel
theorem dX5_berth_76 : decode cX5_berth 76 = .ok (.goto 10, 3) := by decide +kernel
theorem dX5_berth_79 : decode cX5_berth 79 = .ok (.iload 5, 2) := by decide +kernel
theorem dX5_berth_81 : decode cX5_berth 81 = .ok (.istore_n 3, 1) := by decide +kernel
theorem dX5_berth_82 : decode cX5_berth 82 = .ok (.iload 6, 2) := by decide +kernel
theorem dX5_berth_84 : decode cX5_berth 84 = .ok (.istore 4, 2) := by decide +kernel
theorem dX5_berth_86 : decode cX5_berth 86 = .ok (.iinc 5 1, 3) := by decide +kernel
theorem dX5_berth_89 : decode cX5_berth 89 = .ok (.goto (-56), 3) := by decide +kernel
theorem dX5_berth_92 : decode cX5_berth 92 = .ok (.aload_n 0, 1) := by decide +kernel
theorem dX5_berth_93 : decode cX5_berth 93 = .ok (.getfield 31, 3) := by decide +kernel
theorem dX5_berth_96 : decode cX5_berth 96 = .ok (.iload_n 1, 1) := by decide +kernel
theorem dX5_berth_97 : decode cX5_berth 97 = .ok (.iload_n 2, 1) := by decide +kernel
theorem dX5_berth_98 : decode cX5_berth 98 = .ok (.iastore, 1) := by decide +kernel
theorem dX5_berth_99 : decode cX5_berth 99 = .ok (.iload_n 3, 1) := by decide +kernel
theorem dX5_berth_100 : decode cX5_berth 100 = .ok (.ireturn, 1) := by decide +kernel
set_option maxRecDepth 20000 in
theorem ggX5_rise_X5_canRiseOnes : GoodIn wsX5_rise wsX5_canRiseOnes := goodIn_r _ [5, 6, 7, 8, 9, 4, 10, 11, 12, 13, 14, 15, 16, 17, 18, 19, 20, 21, 22, 23, 24, 25, 26, 27, 28, 29, 30, 31, 32, 33, 34, 35, 36, 37, 38, 39, 40, 41, 42, 43, 44, 45, 46, 47, 48, 49, 50, 51, 52, 53, 54, 55, 56, 57, 58, 59, 60, 61, 62, 63, 64, 65, 66, 67] (by decide +kernel) (by decide +kernel)
set_option maxRecDepth 20000 in
theorem gX5_rise_X5_canRiseOnes : GoodIn wsX5_rise (wsV RX5 227 RX5 yX5_canRiseOnes wsX5_canRiseOnes) := goodIn_app (goodIn_of _ (by decide +kernel)) ggX5_rise_X5_canRiseOnes
theorem dX5_rise_0 : decode cX5_rise 0 = .ok (.aload_n 0, 1) := by decide +kernel
theorem dX5_rise_1 : decode cX5_rise 1 = .ok (.invokevirtual 227, 3) := by decide +kernel
theorem dX5_rise_4 : decode cX5_rise 4 = .ok (.ireturn, 1) := by decide +kernel
set_option maxRecDepth 20000 in
theorem ggX5_riseDealing_X5_canRiseOnes : GoodIn wsX5_riseDealing wsX5_canRiseOnes := goodIn_r _ [6, 7, 8, 9, 10, 5, 11, 12, 13, 14, 15, 16, 17, 18, 19, 20, 21, 22, 1, 23, 24, 25, 26, 27, 28, 29, 30, 31, 32, 33, 34, 35, 36, 37, 38, 39, 40, 41, 42, 43, 44, 45, 46, 47, 48, 49, 50, 51, 52, 53, 54, 55, 56, 57, 58, 59, 60, 61, 62, 63, 64, 65, 66, 67] (by decide +kernel) (by decide +kernel)
set_option maxRecDepth 20000 in
theorem gX5_riseDealing_X5_canRiseOnes : GoodIn wsX5_riseDealing (wsV RX5 227 RX5 yX5_canRiseOnes wsX5_canRiseOnes) := goodIn_app (goodIn_of _ (by decide +kernel)) ggX5_riseDealing_X5_canRiseOnes
theorem dX5_riseDealing_0 : decode cX5_riseDealing 0 = .ok (.aload_n 0, 1) := by decide +kernel
theorem dX5_riseDealing_1 : decode cX5_riseDealing 1 = .ok (.getfield 31, 3) := by decide +kernel
theorem dX5_riseDealing_4 : decode cX5_riseDealing 4 = .ok (.iload_n 1, 1) := by decide +kernel
theorem dX5_riseDealing_5 : decode cX5_riseDealing 5 = .ok (.iaload, 1) := by decide +kernel
theorem dX5_riseDealing_6 : decode cX5_riseDealing 6 = .ok (.istore_n 3, 1) := by decide +kernel
theorem dX5_riseDealing_7 : decode cX5_riseDealing 7 = .ok (.aload_n 0, 1) := by decide +kernel
theorem dX5_riseDealing_8 : decode cX5_riseDealing 8 = .ok (.getfield 31, 3) := by decide +kernel
theorem dX5_riseDealing_11 : decode cX5_riseDealing 11 = .ok (.iload_n 1, 1) := by decide +kernel
theorem dX5_riseDealing_12 : decode cX5_riseDealing 12 = .ok (.aload_n 0, 1) := by decide +kernel
theorem dX5_riseDealing_13 : decode cX5_riseDealing 13 = .ok (.getfield 31, 3) := by decide +kernel
theorem dX5_riseDealing_16 : decode cX5_riseDealing 16 = .ok (.iload_n 2, 1) := by decide +kernel
theorem dX5_riseDealing_17 : decode cX5_riseDealing 17 = .ok (.iaload, 1) := by decide +kernel
theorem dX5_riseDealing_18 : decode cX5_riseDealing 18 = .ok (.iastore, 1) := by decide +kernel
theorem dX5_riseDealing_19 : decode cX5_riseDealing 19 = .ok (.aload_n 0, 1) := by decide +kernel
theorem dX5_riseDealing_20 : decode cX5_riseDealing 20 = .ok (.getfield 31, 3) := by decide +kernel
theorem dX5_riseDealing_23 : decode cX5_riseDealing 23 = .ok (.iload_n 2, 1) := by decide +kernel
theorem dX5_riseDealing_24 : decode cX5_riseDealing 24 = .ok (.iload_n 3, 1) := by decide +kernel
theorem dX5_riseDealing_25 : decode cX5_riseDealing 25 = .ok (.iastore, 1) := by decide +kernel
theorem dX5_riseDealing_26 : decode cX5_riseDealing 26 = .ok (.aload_n 0, 1) := by decide +kernel
theorem dX5_riseDealing_27 : decode cX5_riseDealing 27 = .ok (.invokevirtual 227, 3) := by decide +kernel
theorem dX5_riseDealing_30 : decode cX5_riseDealing 30 = .ok (.istore 4, 2) := by decide +kernel
theorem dX5_riseDealing_32 : decode cX5_riseDealing 32 = .ok (.aload_n 0, 1) := by decide +kernel
theorem dX5_riseDealing_33 : decode cX5_riseDealing 33 = .ok (.getfield 31, 3) := by decide +kernel
theorem dX5_riseDealing_36 : decode cX5_riseDealing 36 = .ok (.iload_n 2, 1) := by decide +kernel
theorem dX5_riseDealing_37 : decode cX5_riseDealing 37 = .ok (.aload_n 0, 1) := by decide +kernel
theorem dX5_riseDealing_38 : decode cX5_riseDealing 38 = .ok (.getfield 31, 3) := by decide +kernel
theorem dX5_riseDealing_41 : decode cX5_riseDealing 41 = .ok (.iload_n 1, 1) := by decide +kernel
theorem dX5_riseDealing_42 : decode cX5_riseDealing 42 = .ok (.iaload, 1) := by decide +kernel
theorem dX5_riseDealing_43 : decode cX5_riseDealing 43 = .ok (.iastore, 1) := by decide +kernel
theorem dX5_riseDealing_44 : decode cX5_riseDealing 44 = .ok (.aload_n 0, 1) := by decide +kernel
theorem dX5_riseDealing_45 : decode cX5_riseDealing 45 = .ok (.getfield 31, 3) := by decide +kernel
theorem dX5_riseDealing_48 : decode cX5_riseDealing 48 = .ok (.iload_n 1, 1) := by decide +kernel
theorem dX5_riseDealing_49 : decode cX5_riseDealing 49 = .ok (.iload_n 3, 1) := by decide +kernel
theorem dX5_riseDealing_50 : decode cX5_riseDealing 50 = .ok (.iastore, 1) := by decide +kernel
theorem dX5_riseDealing_51 : decode cX5_riseDealing 51 = .ok (.iload 4, 2) := by decide +kernel
theorem dX5_riseDealing_53 : decode cX5_riseDealing 53 = .ok (.ireturn, 1) := by decide +kernel
set_option maxRecDepth 20000 in
theorem ggX5_deal_X5_canRiseOnes : GoodIn wsX5_deal wsX5_canRiseOnes := goodIn_r _ [7, 8, 9, 10, 11, 6, 12, 13, 14, 15, 16, 17, 18, 19, 20, 21, 22, 1, 2, 23, 24, 25, 26, 27, 28, 29, 30, 31, 32, 33, 34, 35, 36, 37, 38, 39, 40, 45, 46, 47, 48, 49, 50, 51, 52, 53, 54, 55, 56, 57, 58, 59, 60, 61, 62, 63, 64, 65, 66, 67, 68, 69, 70, 71] (by decide +kernel) (by decide +kernel)
set_option maxRecDepth 20000 in
theorem gX5_deal_X5_canRiseOnes : GoodIn wsX5_deal (wsV RX5 227 RX5 yX5_canRiseOnes wsX5_canRiseOnes) := goodIn_app (goodIn_of _ (by decide +kernel)) ggX5_deal_X5_canRiseOnes
set_option maxRecDepth 20000 in
theorem ggX5_deal_X5_riseDealing : GoodIn wsX5_deal wsX5_riseDealing := goodIn_r _ [44, 2, 3, 4, 5, 6, 7, 8, 9, 10, 11, 12, 13, 14, 15, 16, 17, 18, 19, 20, 21, 22, 1, 23, 24, 25, 26, 27, 28, 29, 30, 31, 32, 33, 34, 35, 36, 37, 38, 39, 40, 45, 46, 47, 48, 49, 50, 51, 52, 53, 54, 55, 56, 57, 58, 59, 60, 61, 62, 63, 64, 65, 66, 67, 68, 69, 70, 71] (by decide +kernel) (by decide +kernel)
set_option maxRecDepth 20000 in
theorem gX5_deal_X5_riseDealing : GoodIn wsX5_deal (wsV RX5 230 RX5 yX5_riseDealing wsX5_riseDealing) := goodIn_app (goodIn_of _ (by decide +kernel)) ggX5_deal_X5_riseDealing
theorem dX5_deal_0 : decode cX5_deal 0 = .ok (.bipush (-9), 2) := by decide +kernel
theorem dX5_deal_2 : decode cX5_deal 2 = .ok (.istore_n 1, 1) := by decide +kernel
theorem dX5_deal_3 : decode cX5_deal 3 = .ok (.aload_n 0, 1) := by decide +kernel
theorem dX5_deal_4 : decode cX5_deal 4 = .ok (.invokevirtual 227, 3) := by decide +kernel
theorem dX5_deal_7 : decode cX5_deal 7 = .ok (.istore_n 2, 1) := by decide +kernel
theorem dX5_deal_8 : decode cX5_deal 8 = .ok (.iconst 0, 1) := by decide +kernel
theorem dX5_deal_9 : decode cX5_deal 9 = .ok (.istore_n 3, 1) := by decide +kernel
theorem dX5_deal_10 : decode cX5_deal 10 = .ok (.iload_n 3, 1) := by decide +kernel
theorem dX5_deal_11 : decode cX5_deal 11 = .ok (.aload_n 0, 1) := by decide +kernel
theorem dX5_deal_12 : decode cX5_deal 12 = .ok (.getfield 65, 3) := by decide +kernel
theorem dX5_deal_15 : decode cX5_deal 15 = .ok (.if_icmp .ge 79, 3) := by decide +kernel
theorem dX5_deal_18 : decode cX5_deal 18 = .ok (.iload_n 3, 1) := by decide +kernel
theorem dX5_deal_19 : decode cX5_deal 19 = .ok (.iconst 1, 1) := by decide +kernel
theorem dX5_deal_20 : decode cX5_deal 20 = .ok (.iadd, 1) := by decide +kernel
theorem dX5_deal_21 : decode cX5_deal 21 = .ok (.istore 4, 2) := by decide +kernel
theorem dX5_deal_23 : decode cX5_deal 23 = .ok (.iload 4, 2) := by decide +kernel
theorem dX5_deal_25 : decode cX5_deal 25 = .ok (.aload_n 0, 1) := by decide +kernel
theorem dX5_deal_26 : decode cX5_deal 26 = .ok (.getfield 65, 3) := by decide +kernel
theorem dX5_deal_29 : decode cX5_deal 29 = .ok (.if_icmp .ge 59, 3) := by decide +kernel
theorem dX5_deal_32 : decode cX5_deal 32 = .ok (.aload_n 0, 1) := by decide +kernel
theorem dX5_deal_33 : decode cX5_deal 33 = .ok (.getfield 31, 3) := by decide +kernel
theorem dX5_deal_36 : decode cX5_deal 36 = .ok (.iload_n 3, 1) := by decide +kernel
theorem dX5_deal_37 : decode cX5_deal 37 = .ok (.iaload, 1) := by decide +kernel
theorem dX5_deal_38 : decode cX5_deal 38 = .ok (.aload_n 0, 1) := by decide +kernel
theorem dX5_deal_39 : decode cX5_deal 39 = .ok (.getfield 31, 3) := by decide +kernel
theorem dX5_deal_42 : decode cX5_deal 42 = .ok (.iload 4, 2) := by decide +kernel
theorem dX5_deal_44 : decode cX5_deal 44 = .ok (.iaload, 1) := by decide +kernel
theorem dX5_deal_45 : decode cX5_deal 45 = .ok (.if_icmp .ne 8, 3) := by decide +kernel
theorem dX5_deal_48 : decode cX5_deal 48 = .ok (.bipush (-9), 2) := by decide +kernel
theorem dX5_deal_50 : decode cX5_deal 50 = .ok (.goto 10, 3) := by decide +kernel
theorem dX5_deal_53 : decode cX5_deal 53 = .ok (.aload_n 0, 1) := by decide +kernel
theorem dX5_deal_54 : decode cX5_deal 54 = .ok (.iload_n 3, 1) := by decide +kernel
theorem dX5_deal_55 : decode cX5_deal 55 = .ok (.iload 4, 2) := by decide +kernel
theorem dX5_deal_57 : decode cX5_deal 57 = .ok (.invokevirtual 230, 3) := by decide +kernel
theorem dX5_deal_60 : decode cX5_deal 60 = .ok (.istore 5, 2) := by decide +kernel
theorem dX5_deal_62 : decode cX5_deal 62 = .ok (.iload 5, 2) := by decide +kernel
theorem dX5_deal_64 : decode cX5_deal 64 = .ok (.iload_n 2, 1) := by decide +kernel
theorem dX5_deal_65 : decode cX5_deal 65 = .ok (.if_icmp .gt 6, 3) := by decide +kernel
theorem dX5_deal_68 : decode cX5_deal 68 = .ok (.goto 14, 3) := by decide +kernel
theorem dX5_deal_71 : decode cX5_deal 71 = .ok (.bipush 10, 2) := by decide +kernel
theorem dX5_deal_73 : decode cX5_deal 73 = .ok (.iload_n 3, 1) := by decide +kernel
theorem dX5_deal_74 : decode cX5_deal 74 = .ok (.imul, 1) := by decide +kernel
theorem dX5_deal_75 : decode cX5_deal 75 = .ok (.iload 4, 2) := by decide +kernel
theorem dX5_deal_77 : decode cX5_deal 77 = .ok (.iadd, 1) := by decide +kernel
theorem dX5_deal_78 : decode cX5_deal 78 = .ok (.istore_n 1, 1) := by decide +kernel
theorem dX5_deal_79 : decode cX5_deal 79 = .ok (.iload 5, 2) := by decide +kernel
theorem dX5_deal_81 : decode cX5_deal 81 = .ok (.istore_n 2, 1) := by decide +kernel
theorem dX5_deal_82 : decode cX5_deal 82 = .ok (.iinc 4 1, 3) := by decide +kernel
theorem dX5_deal_85 : decode cX5_deal 85 = .ok (.goto (-62), 3) := by decide +kernel
theorem dX5_deal_88 : decode cX5_deal 88 = .ok (.iinc 3 1, 3) := by decide +kernel
theorem dX5_deal_91 : decode cX5_deal 91 = .ok (.goto (-81), 3) := by decide +kernel
theorem dX5_deal_94 : decode cX5_deal 94 = .ok (.iload_n 1, 1) := by decide +kernel
theorem dX5_deal_95 : decode cX5_deal 95 = .ok (.ireturn, 1) := by decide +kernel
set_option maxRecDepth 20000 in
theorem ggX5_hush_X5_canRise : GoodIn wsX5_hush wsX5_canRise := goodIn_r _ [8, 9, 10, 11, 12, 7, 13, 14, 15, 16, 17, 18, 1, 2, 3, 19, 20, 21, 22, 23, 24, 25, 26, 27, 28, 29, 30, 31, 32, 33, 34, 35, 40, 41, 42, 43, 44, 45, 46, 47, 48, 49, 50, 51, 52, 53, 54, 55, 56, 57, 58, 59, 60, 61, 62, 63, 64, 65, 66] (by decide +kernel) (by decide +kernel)
set_option maxRecDepth 20000 in
theorem gX5_hush_X5_canRise : GoodIn wsX5_hush (wsV RX5 215 RX5 yX5_canRise wsX5_canRise) := goodIn_app (goodIn_of _ (by decide +kernel)) ggX5_hush_X5_canRise
set_option maxRecDepth 20000 in
theorem ggX5_hush_X5_pool : GoodIn wsX5_hush wsX5_pool := goodIn_r _ [13, 14, 15, 16, 17, 7, 18, 1, 2, 3, 19, 20, 21, 22, 23, 24, 40, 41, 42, 43, 44, 45, 46, 47, 48, 49, 50, 51, 52, 53, 54, 55, 56, 57, 58, 59, 60, 61, 62, 63, 64, 65, 66] (by decide +kernel) (by decide +kernel)
set_option maxRecDepth 20000 in
theorem gX5_hush_X5_pool : GoodIn wsX5_hush (wsV RX5 197 RX5 yX5_pool wsX5_pool) := goodIn_app (goodIn_of _ (by decide +kernel)) ggX5_hush_X5_pool
set_option maxRecDepth 20000 in
theorem ggX5_hush_X5_worth : GoodIn wsX5_hush wsX5_worth := goodIn_r _ [39, 14, 19, 20, 21, 7, 22, 23, 24, 40, 41, 42, 43, 44, 45, 46, 47, 48, 49, 50, 51, 52, 53, 54, 55, 56, 57, 58, 59, 60, 61, 62, 63, 64, 65, 66] (by decide +kernel) (by decide +kernel)
set_option maxRecDepth 20000 in
theorem gX5_hush_X5_worth : GoodIn wsX5_hush (wsV RX5 170 RX5 yX5_worth wsX5_worth) := goodIn_app (goodIn_of _ (by decide +kernel)) ggX5_hush_X5_worth
set_option maxRecDepth 20000 in
theorem ggX5_hush_X5_lacks : GoodIn wsX5_hush wsX5_lacks := goodIn_r _ [28, 9, 29, 30, 31, 32, 7, 33, 34, 14, 35, 40, 41, 42, 43, 44, 45, 46, 47, 48, 49, 50, 51, 52, 53, 54, 55, 56, 57, 58, 59, 60, 61, 62, 63, 64, 65, 66] (by decide +kernel) (by decide +kernel)
set_option maxRecDepth 20000 in
theorem gX5_hush_X5_lacks : GoodIn wsX5_hush (wsV RX5 194 RX5 yX5_lacks wsX5_lacks) := goodIn_app (goodIn_of _ (by decide +kernel)) ggX5_hush_X5_lacks
theorem dX5_hush_0 : decode cX5_hush 0 = .ok (.iconst 0, 1) := by decide +kernel
theorem dX5_hush_1 : decode cX5_hush 1 = .ok (.istore_n 1, 1) := by decide +kernel
theorem dX5_hush_2 : decode cX5_hush 2 = .ok (.iconst 0, 1) := by decide +kernel
theorem dX5_hush_3 : decode cX5_hush 3 = .ok (.istore_n 2, 1) := by decide +kernel
theorem dX5_hush_4 : decode cX5_hush 4 = .ok (.iload_n 2, 1) := by decide +kernel
theorem dX5_hush_5 : decode cX5_hush 5 = .ok (.aload_n 0, 1) := by decide +kernel
theorem dX5_hush_6 : decode cX5_hush 6 = .ok (.getfield 65, 3) := by decide +kernel
theorem dX5_hush_9 : decode cX5_hush 9 = .ok (.if_icmp .ge 60, 3) := by decide +kernel
theorem dX5_hush_12 : decode cX5_hush 12 = .ok (.aload_n 0, 1) := by decide +kernel
theorem dX5_hush_13 : decode cX5_hush 13 = .ok (.getfield 31, 3) := by decide +kernel
theorem dX5_hush_16 : decode cX5_hush 16 = .ok (.iload_n 2, 1) := by decide +kernel
theorem dX5_hush_17 : decode cX5_hush 17 = .ok (.iaload, 1) := by decide +kernel
theorem dX5_hush_18 : decode cX5_hush 18 = .ok (.istore_n 3, 1) := by decide +kernel
theorem dX5_hush_19 : decode cX5_hush 19 = .ok (.iload_n 1, 1) := by decide +kernel
theorem dX5_hush_20 : decode cX5_hush 20 = .ok (.aload_n 0, 1) := by decide +kernel
theorem dX5_hush_21 : decode cX5_hush 21 = .ok (.iload_n 3, 1) := by decide +kernel
theorem dX5_hush_22 : decode cX5_hush 22 = .ok (.invokevirtual 215, 3) := by decide +kernel
theorem dX5_hush_25 : decode cX5_hush 25 = .ok (.ifCond .eq 35, 3) := by decide +kernel
theorem dX5_hush_28 : decode cX5_hush 28 = .ok (.aload_n 0, 1) := by decide +kernel
theorem dX5_hush_29 : decode cX5_hush 29 = .ok (.iload_n 3, 1) := by decide +kernel
theorem dX5_hush_30 : decode cX5_hush 30 = .ok (.invokevirtual 197, 3) := by decide +kernel
theorem dX5_hush_33 : decode cX5_hush 33 = .ok (.aload_n 0, 1) := by decide +kernel
theorem dX5_hush_34 : decode cX5_hush 34 = .ok (.getfield 28, 3) := by decide +kernel
theorem dX5_hush_37 : decode cX5_hush 37 = .ok (.iload_n 2, 1) := by decide +kernel
theorem dX5_hush_38 : decode cX5_hush 38 = .ok (.iaload, 1) := by decide +kernel
theorem dX5_hush_39 : decode cX5_hush 39 = .ok (.aload_n 0, 1) := by decide +kernel
theorem dX5_hush_40 : decode cX5_hush 40 = .ok (.iload_n 2, 1) := by decide +kernel
theorem dX5_hush_41 : decode cX5_hush 41 = .ok (.invokevirtual 170, 3) := by decide +kernel
theorem dX5_hush_44 : decode cX5_hush 44 = .ok (.imul, 1) := by decide +kernel
theorem dX5_hush_45 : decode cX5_hush 45 = .ok (.isub, 1) := by decide +kernel
theorem dX5_hush_46 : decode cX5_hush 46 = .ok (.aload_n 0, 1) := by decide +kernel
theorem dX5_hush_47 : decode cX5_hush 47 = .ok (.iload_n 3, 1) := by decide +kernel
theorem dX5_hush_48 : decode cX5_hush 48 = .ok (.invokevirtual 194, 3) := by decide +kernel
theorem dX5_hush_51 : decode cX5_hush 51 = .ok (.if_icmp .ge 9, 3) := by decide +kernel
theorem dX5_hush_54 : decode cX5_hush 54 = .ok (.iconst 1, 1) := by decide +kernel
theorem dX5_hush_55 : decode cX5_hush 55 = .ok (.iload_n 2, 1) := by decide +kernel
theorem dX5_hush_56 : decode cX5_hush 56 = .ok (.ishl, 1) := by decide +kernel
theorem dX5_hush_57 : decode cX5_hush 57 = .ok (.goto 4, 3) := by decide +kernel
theorem dX5_hush_60 : decode cX5_hush 60 = .ok (.iconst 0, 1) := by decide +kernel
theorem dX5_hush_61 : decode cX5_hush 61 = .ok (.ior, 1) := by decide +kernel
theorem dX5_hush_62 : decode cX5_hush 62 = .ok (.istore_n 1, 1) := by decide +kernel
theorem dX5_hush_63 : decode cX5_hush 63 = .ok (.iinc 2 1, 3) := by decide +kernel
theorem dX5_hush_66 : decode cX5_hush 66 = .ok (.goto (-62), 3) := by decide +kernel
theorem dX5_hush_69 : decode cX5_hush 69 = .ok (.iload_n 1, 1) := by decide +kernel
theorem dX5_hush_70 : decode cX5_hush 70 = .ok (.ireturn, 1) := by decide +kernel
set_option maxRecDepth 20000 in
theorem ggX5_risesBy_X5_thinks : GoodIn wsX5_risesBy wsX5_thinks := goodIn_r _ [5, 6, 7, 8, 4, 9, 10, 11, 12, 13, 14, 15, 16, 17, 18, 19, 20, 21, 22, 23, 24, 25, 26, 27, 28, 29, 30, 31, 63, 64, 65, 66, 67, 68, 69, 70, 71, 72, 73, 74, 75, 76, 77, 78, 79, 80, 81, 82, 83, 84, 85, 86, 87, 88, 89] (by decide +kernel) (by decide +kernel)
set_option maxRecDepth 20000 in
theorem gX5_risesBy_X5_thinks : GoodIn wsX5_risesBy (wsV RX5 209 RX5 yX5_thinks wsX5_thinks) := goodIn_app (goodIn_of _ (by decide +kernel)) ggX5_risesBy_X5_thinks
set_option maxRecDepth 20000 in
theorem ggX5_risesBy_X5_tellsOne : GoodIn wsX5_risesBy wsX5_tellsOne := goodIn_r _ [35, 17, 21, 19, 14, 13, 18, 36, 37, 4, 38, 39, 40, 41, 42, 22, 43, 44, 45, 46, 16, 15, 47, 48, 49, 50, 51, 52, 53, 54, 55, 56, 57, 58, 12, 63, 64, 65, 66, 67, 68, 69, 70, 71, 72, 73, 74, 75, 76, 77, 78, 79, 80, 81, 82, 83, 84, 85, 86, 87, 88, 89] (by decide +kernel) (by decide +kernel)
set_option maxRecDepth 20000 in
theorem gX5_risesBy_X5_tellsOne : GoodIn wsX5_risesBy (wsV RX5 126 RX5 yX5_tellsOne wsX5_tellsOne) := goodIn_app (goodIn_of _ (by decide +kernel)) ggX5_risesBy_X5_tellsOne
set_option maxRecDepth 20000 in
theorem ggX5_risesBy_X5_forgets : GoodIn wsX5_risesBy wsX5_forgets := goodIn_r _ [62, 6, 7, 8, 4, 9, 10, 11, 12, 13, 14, 15, 16, 17, 18, 19, 20, 21, 22, 23, 24, 25, 26, 27, 28, 29, 30, 31, 63, 64, 65, 66, 67, 68, 69, 70, 71, 72, 73, 74, 75, 76, 77, 78, 79, 80, 81, 82, 83, 84, 85, 86, 87, 88, 89] (by decide +kernel) (by decide +kernel)
set_option maxRecDepth 20000 in
theorem gX5_risesBy_X5_forgets : GoodIn wsX5_risesBy (wsV RX5 212 RX5 yX5_forgets wsX5_forgets) := goodIn_app (goodIn_of _ (by decide +kernel)) ggX5_risesBy_X5_forgets
theorem dX5_risesBy_0 : decode cX5_risesBy 0 = .ok (.aload_n 0, 1) := by decide +kernel
theorem dX5_risesBy_1 : decode cX5_risesBy 1 = .ok (.invokevirtual 209, 3) := by decide +kernel
theorem dX5_risesBy_4 : decode cX5_risesBy 4 = .ok (.aload_n 0, 1) := by decide +kernel
theorem dX5_risesBy_5 : decode cX5_risesBy 5 = .ok (.iload_n 1, 1) := by decide +kernel
theorem dX5_risesBy_6 : decode cX5_risesBy 6 = .ok (.invokevirtual 126, 3) := by decide +kernel
theorem dX5_risesBy_9 : decode cX5_risesBy 9 = .ok (.istore_n 2, 1) := by decide +kernel
theorem dX5_risesBy_10 : decode cX5_risesBy 10 = .ok (.aload_n 0, 1) := by decide +kernel
theorem dX5_risesBy_11 : decode cX5_risesBy 11 = .ok (.invokevirtual 212, 3) := by decide +kernel
theorem dX5_risesBy_14 : decode cX5_risesBy 14 = .ok (.iload_n 2, 1) := by decide +kernel
theorem dX5_risesBy_15 : decode cX5_risesBy 15 = .ok (.ireturn, 1) := by decide +kernel
set_option maxRecDepth 20000 in
theorem ggX5_loudest_X5_isIn : GoodIn wsX5_loudest wsX5_isIn := goodIn_r _ [5] (by decide +kernel) (by decide +kernel)
set_option maxRecDepth 20000 in
theorem gX5_loudest_X5_isIn : GoodIn wsX5_loudest (va_wsS RX5 86 yX5_isIn wsX5_isIn) := goodIn_app (goodIn_of _ (by decide +kernel)) ggX5_loudest_X5_isIn
set_option maxRecDepth 20000 in
theorem ggX5_loudest_X5_no : GoodIn wsX5_loudest wsX5_no := goodIn_r _ [9, 10, 83, 84, 85, 86, 87, 88, 89, 90, 91, 92, 93, 94, 95, 96, 97, 98, 99, 100, 101, 102, 103, 104, 105, 106, 107, 108, 109] (by decide +kernel) (by decide +kernel)
set_option maxRecDepth 20000 in
theorem gX5_loudest_X5_no : GoodIn wsX5_loudest (wsV RX5 75 RX5 yX5_no wsX5_no) := goodIn_app (goodIn_of _ (by decide +kernel)) ggX5_loudest_X5_no
set_option maxRecDepth 20000 in
theorem ggX5_loudest_X5_canTell : GoodIn wsX5_loudest wsX5_canTell := goodIn_r _ [14, 15, 16, 17, 18, 19, 20, 4, 21, 1, 83, 84, 85, 86, 87, 88, 89, 90, 91, 92, 93, 94, 95, 96, 97, 98, 99, 100, 101, 102, 103, 104, 105, 106, 107, 108, 109] (by decide +kernel) (by decide +kernel)
set_option maxRecDepth 20000 in
theorem gX5_loudest_X5_canTell : GoodIn wsX5_loudest (wsV RX5 123 RX5 yX5_canTell wsX5_canTell) := goodIn_app (goodIn_of _ (by decide +kernel)) ggX5_loudest_X5_canTell
set_option maxRecDepth 20000 in
theorem ggX5_loudest_X5_risesBy : GoodIn wsX5_loudest wsX5_risesBy := goodIn_r _ [25, 26, 27, 28, 4, 29, 30, 31, 32, 33, 34, 35, 36, 37, 16, 38, 39, 15, 17, 40, 1, 41, 42, 43, 44, 45, 46, 47, 48, 49, 50, 51, 52, 53, 54, 55, 56, 57, 58, 59, 60, 61, 62, 63, 64, 65, 66, 67, 68, 69, 70, 71, 72, 73, 74, 75, 76, 77, 78, 79, 80, 81, 82, 83, 84, 85, 86, 87, 88, 89, 90, 91, 92, 93, 94, 95, 96, 97, 98, 99, 100, 101, 102, 103, 104, 105, 106, 107, 108, 109] (by decide +kernel) (by decide +kernel)
set_option maxRecDepth 20000 in
theorem gX5_loudest_X5_risesBy : GoodIn wsX5_loudest (wsV RX5 233 RX5 yX5_risesBy wsX5_risesBy) := goodIn_app (goodIn_of _ (by decide +kernel)) ggX5_loudest_X5_risesBy
theorem dX5_loudest_0 : decode cX5_loudest 0 = .ok (.iload_n 1, 1) := by decide +kernel
theorem dX5_loudest_1 : decode cX5_loudest 1 = .ok (.iconst 0, 1) := by decide +kernel
theorem dX5_loudest_2 : decode cX5_loudest 2 = .ok (.iconst 1, 1) := by decide +kernel
theorem dX5_loudest_3 : decode cX5_loudest 3 = .ok (.invokestatic 86, 3) := by decide +kernel
theorem dX5_loudest_6 : decode cX5_loudest 6 = .ok (.ifCond .ne 10, 3) := by decide +kernel
theorem dX5_loudest_9 : decode cX5_loudest 9 = .ok (.aload_n 0, 1) := by decide +kernel
theorem dX5_loudest_10 : decode cX5_loudest 10 = .ok (.bipush (-2), 2) := by decide +kernel
theorem dX5_loudest_12 : decode cX5_loudest 12 = .ok (.invokevirtual 75, 3) := by decide +kernel
theorem dX5_loudest_15 : decode cX5_loudest 15 = .ok (.ireturn, 1) := by decide +kernel
theorem dX5_loudest_16 : decode cX5_loudest 16 = .ok (.bipush (-9), 2) := by decide +kernel
theorem dX5_loudest_18 : decode cX5_loudest 18 = .ok (.istore_n 2, 1) := by decide +kernel
theorem dX5_loudest_19 : decode cX5_loudest 19 = .ok (.bipush (-9), 2) := by decide +kernel
theorem dX5_loudest_21 : decode cX5_loudest 21 = .ok (.istore_n 3, 1) := by decide +kernel
theorem dX5_loudest_22 : decode cX5_loudest 22 = .ok (.iconst 0, 1) := by decide +kernel
theorem dX5_loudest_23 : decode cX5_loudest 23 = .ok (.istore 4, 2) := by decide +kernel
theorem dX5_loudest_25 : decode cX5_loudest 25 = .ok (.iload 4, 2) := by decide +kernel
theorem dX5_loudest_27 : decode cX5_loudest 27 = .ok (.aload_n 0, 1) := by decide +kernel
theorem dX5_loudest_28 : decode cX5_loudest 28 = .ok (.getfield 65, 3) := by decide +kernel
theorem dX5_loudest_31 : decode cX5_loudest 31 = .ok (.if_icmp .ge 46, 3) := by decide +kernel
theorem dX5_loudest_34 : decode cX5_loudest 34 = .ok (.aload_n 0, 1) := by decide +kernel
theorem dX5_loudest_35 : decode cX5_loudest 35 = .ok (.iload 4, 2) := by decide +kernel
theorem dX5_loudest_37 : decode cX5_loudest 37 = .ok (.invokevirtual 123, 3) := by decide +kernel
theorem dX5_loudest_40 : decode cX5_loudest 40 = .ok (.ifCond .eq 12, 3) := by decide +kernel
theorem dX5_loudest_43 : decode cX5_loudest 43 = .ok (.aload_n 0, 1) := by decide +kernel
theorem dX5_loudest_44 : decode cX5_loudest 44 = .ok (.iload 4, 2) := by decide +kernel
theorem dX5_loudest_46 : decode cX5_loudest 46 = .ok (.invokevirtual 233, 3) := by decide +kernel
theorem dX5_loudest_49 : decode cX5_loudest 49 = .ok (.goto 5, 3) := by decide +kernel
theorem dX5_loudest_52 : decode cX5_loudest 52 = .ok (.bipush (-9), 2) := by decide +kernel
theorem dX5_loudest_54 : decode cX5_loudest 54 = .ok (.istore 5, 2) := by decide +kernel
theorem dX5_loudest_56 : decode cX5_loudest 56 = .ok (.iload 5, 2) := by decide +kernel
theorem dX5_loudest_58 : decode cX5_loudest 58 = .ok (.iload_n 3, 1) := by decide +kernel
theorem dX5_loudest_59 : decode cX5_loudest 59 = .ok (.if_icmp .gt 6, 3) := by decide +kernel
theorem dX5_loudest_62 : decode cX5_loudest 62 = .ok (.goto 9, 3) := by decide +kernel
theorem dX5_loudest_65 : decode cX5_loudest 65 = .ok (.iload 4, 2) := by decide +kernel
theorem dX5_loudest_67 : decode cX5_loudest 67 = .ok (.istore_n 2, 1) := by decide +kernel
theorem dX5_loudest_68 : decode cX5_loudest 68 = .ok (.iload 5, 2) := by decide +kernel
theorem dX5_loudest_70 : decode cX5_loudest 70 = .ok (.istore_n 3, 1) := by decide +kernel
theorem dX5_loudest_71 : decode cX5_loudest 71 = .ok (.iinc 4 1, 3) := by decide +kernel
theorem dX5_loudest_74 : decode cX5_loudest 74 = .ok (.goto (-49), 3) := by decide +kernel
theorem dX5_loudest_77 : decode cX5_loudest 77 = .ok (.iload_n 1, 1) := by decide +kernel
theorem dX5_loudest_78 : decode cX5_loudest 78 = .ok (.ifCond .ne 7, 3) := by decide +kernel
theorem dX5_loudest_81 : decode cX5_loudest 81 = .ok (.iload_n 2, 1) := by decide +kernel
theorem dX5_loudest_82 : decode cX5_loudest 82 = .ok (.goto 4, 3) := by decide +kernel
theorem dX5_loudest_85 : decode cX5_loudest 85 = .ok (.iload_n 3, 1) := by decide +kernel
theorem dX5_loudest_86 : decode cX5_loudest 86 = .ok (.ireturn, 1) := by decide +kernel
set_option maxRecDepth 20000 in
theorem ggX5_spree_X5_isIn : GoodIn wsX5_spree wsX5_isIn := goodIn_r _ [6] (by decide +kernel) (by decide +kernel)
set_option maxRecDepth 20000 in
theorem gX5_spree_X5_isIn : GoodIn wsX5_spree (va_wsS RX5 86 yX5_isIn wsX5_isIn) := goodIn_app (goodIn_of _ (by decide +kernel)) ggX5_spree_X5_isIn
set_option maxRecDepth 20000 in
theorem ggX5_spree_X5_no : GoodIn wsX5_spree wsX5_no := goodIn_r _ [10, 11, 86, 87, 88, 89, 90, 91, 92, 93, 94, 95, 96, 97, 98, 99, 100, 101, 102, 103, 104, 105, 106, 107, 108, 109, 110, 111, 112] (by decide +kernel) (by decide +kernel)
set_option maxRecDepth 20000 in
theorem gX5_spree_X5_no : GoodIn wsX5_spree (wsV RX5 75 RX5 yX5_no wsX5_no) := goodIn_app (goodIn_of _ (by decide +kernel)) ggX5_spree_X5_no
set_option maxRecDepth 20000 in
theorem ggX5_spree_X5_thinks : GoodIn wsX5_spree wsX5_thinks := goodIn_r _ [15, 16, 17, 18, 5, 19, 20, 21, 22, 23, 24, 25, 26, 27, 28, 29, 1, 2, 30, 31, 32, 33, 34, 35, 36, 37, 38, 39, 86, 87, 88, 89, 90, 91, 92, 93, 94, 95, 96, 97, 98, 99, 100, 101, 102, 103, 104, 105, 106, 107, 108, 109, 110, 111, 112] (by decide +kernel) (by decide +kernel)
set_option maxRecDepth 20000 in
theorem gX5_spree_X5_thinks : GoodIn wsX5_spree (wsV RX5 209 RX5 yX5_thinks wsX5_thinks) := goodIn_app (goodIn_of _ (by decide +kernel)) ggX5_spree_X5_thinks
set_option maxRecDepth 20000 in
theorem ggX5_spree_X5_canTell : GoodIn wsX5_spree wsX5_canTell := goodIn_r _ [43, 27, 24, 28, 44, 45, 46, 5, 47, 1, 86, 87, 88, 89, 90, 91, 92, 93, 94, 95, 96, 97, 98, 99, 100, 101, 102, 103, 104, 105, 106, 107, 108, 109, 110, 111, 112] (by decide +kernel) (by decide +kernel)
set_option maxRecDepth 20000 in
theorem gX5_spree_X5_canTell : GoodIn wsX5_spree (wsV RX5 123 RX5 yX5_canTell wsX5_canTell) := goodIn_app (goodIn_of _ (by decide +kernel)) ggX5_spree_X5_canTell
set_option maxRecDepth 20000 in
theorem ggX5_spree_X5_tellsOne : GoodIn wsX5_spree wsX5_tellsOne := goodIn_r _ [51, 27, 2, 29, 24, 23, 28, 52, 53, 5, 54, 55, 56, 57, 58, 30, 59, 60, 61, 62, 26, 25, 63, 64, 65, 66, 67, 68, 69, 70, 71, 72, 73, 74, 22, 86, 87, 88, 89, 90, 91, 92, 93, 94, 95, 96, 97, 98, 99, 100, 101, 102, 103, 104, 105, 106, 107, 108, 109, 110, 111, 112] (by decide +kernel) (by decide +kernel)
set_option maxRecDepth 20000 in
theorem gX5_spree_X5_tellsOne : GoodIn wsX5_spree (wsV RX5 126 RX5 yX5_tellsOne wsX5_tellsOne) := goodIn_app (goodIn_of _ (by decide +kernel)) ggX5_spree_X5_tellsOne
set_option maxRecDepth 20000 in
theorem ggX5_spree_X5_outOnes : GoodIn wsX5_spree wsX5_outOnes := goodIn_r _ [78, 29, 24, 86, 87, 88, 89, 90, 91, 92, 93, 94, 95, 96, 97, 98, 99, 100, 101, 102, 103, 104, 105, 106, 107, 108, 109, 110, 111, 112] (by decide +kernel) (by decide +kernel)
set_option maxRecDepth 20000 in
theorem gX5_spree_X5_outOnes : GoodIn wsX5_spree (wsV RX5 203 RX5 yX5_outOnes wsX5_outOnes) := goodIn_app (goodIn_of _ (by decide +kernel)) ggX5_spree_X5_outOnes
set_option maxRecDepth 20000 in
theorem ggX5_spree_X5_bits : GoodIn wsX5_spree wsX5_bits := goodIn_r _ [81] (by decide +kernel) (by decide +kernel)
set_option maxRecDepth 20000 in
theorem gX5_spree_X5_bits : GoodIn wsX5_spree (va_wsS RX5 236 yX5_bits wsX5_bits) := goodIn_app (goodIn_of _ (by decide +kernel)) ggX5_spree_X5_bits
set_option maxRecDepth 20000 in
theorem ggX5_spree_X5_forgets : GoodIn wsX5_spree wsX5_forgets := goodIn_r _ [85, 16, 17, 18, 5, 19, 20, 21, 22, 23, 24, 25, 26, 27, 28, 29, 1, 2, 30, 31, 32, 33, 34, 35, 36, 37, 38, 39, 86, 87, 88, 89, 90, 91, 92, 93, 94, 95, 96, 97, 98, 99, 100, 101, 102, 103, 104, 105, 106, 107, 108, 109, 110, 111, 112] (by decide +kernel) (by decide +kernel)
set_option maxRecDepth 20000 in
theorem gX5_spree_X5_forgets : GoodIn wsX5_spree (wsV RX5 212 RX5 yX5_forgets wsX5_forgets) := goodIn_app (goodIn_of _ (by decide +kernel)) ggX5_spree_X5_forgets
theorem dX5_spree_0 : decode cX5_spree 0 = .ok (.iload_n 1, 1) := by decide +kernel
theorem dX5_spree_1 : decode cX5_spree 1 = .ok (.iconst 0, 1) := by decide +kernel
theorem dX5_spree_2 : decode cX5_spree 2 = .ok (.iconst 1, 1) := by decide +kernel
theorem dX5_spree_3 : decode cX5_spree 3 = .ok (.invokestatic 86, 3) := by decide +kernel
theorem dX5_spree_6 : decode cX5_spree 6 = .ok (.ifCond .ne 10, 3) := by decide +kernel
theorem dX5_spree_9 : decode cX5_spree 9 = .ok (.aload_n 0, 1) := by decide +kernel
theorem dX5_spree_10 : decode cX5_spree 10 = .ok (.bipush (-2), 2) := by decide +kernel
theorem dX5_spree_12 : decode cX5_spree 12 = .ok (.invokevirtual 75, 3) := by decide +kernel
theorem dX5_spree_15 : decode cX5_spree 15 = .ok (.ireturn, 1) := by decide +kernel
theorem dX5_spree_16 : decode cX5_spree 16 = .ok (.aload_n 0, 1) := by decide +kernel
theorem dX5_spree_17 : decode cX5_spree 17 = .ok (.invokevirtual 209, 3) := by decide +kernel
theorem dX5_spree_20 : decode cX5_spree 20 = .ok (.iconst 0, 1) := by decide +kernel
theorem dX5_spree_21 : decode cX5_spree 21 = .ok (.istore_n 2, 1) := by decide +kernel
theorem dX5_spree_22 : decode cX5_spree 22 = .ok (.iload_n 2, 1) := by decide +kernel
theorem dX5_spree_23 : decode cX5_spree 23 = .ok (.aload_n 0, 1) := by decide +kernel
theorem dX5_spree_24 : decode cX5_spree 24 = .ok (.getfield 65, 3) := by decide +kernel
theorem dX5_spree_27 : decode cX5_spree 27 = .ok (.if_icmp .ge 23, 3) := by decide +kernel
theorem dX5_spree_30 : decode cX5_spree 30 = .ok (.aload_n 0, 1) := by decide +kernel
theorem dX5_spree_31 : decode cX5_spree 31 = .ok (.iload_n 2, 1) := by decide +kernel
theorem dX5_spree_32 : decode cX5_spree 32 = .ok (.invokevirtual 123, 3) := by decide +kernel
theorem dX5_spree_35 : decode cX5_spree 35 = .ok (.ifCond .eq 9, 3) := by decide +kernel
theorem dX5_spree_38 : decode cX5_spree 38 = .ok (.aload_n 0, 1) := by decide +kernel
theorem dX5_spree_39 : decode cX5_spree 39 = .ok (.iload_n 2, 1) := by decide +kernel
theorem dX5_spree_40 : decode cX5_spree 40 = .ok (.invokevirtual 126, 3) := by decide +kernel
theorem dX5_spree_43 : decode cX5_spree 43 = .ok (.pop, 1) := by decide +kernel
theorem dX5_spree_44 : decode cX5_spree 44 = .ok (.iinc 2 1, 3) := by decide +kernel
theorem dX5_spree_47 : decode cX5_spree 47 = .ok (.goto (-25), 3) := by decide +kernel
theorem dX5_spree_50 : decode cX5_spree 50 = .ok (.iload_n 1, 1) := by decide +kernel
theorem dX5_spree_51 : decode cX5_spree 51 = .ok (.ifCond .ne 13, 3) := by decide +kernel
theorem dX5_spree_54 : decode cX5_spree 54 = .ok (.aload_n 0, 1) := by decide +kernel
theorem dX5_spree_55 : decode cX5_spree 55 = .ok (.invokevirtual 203, 3) := by decide +kernel
theorem dX5_spree_58 : decode cX5_spree 58 = .ok (.invokestatic 236, 3) := by decide +kernel
theorem dX5_spree_61 : decode cX5_spree 61 = .ok (.goto 7, 3) := by decide +kernel
theorem dX5_spree_64 : decode cX5_spree 64 = .ok (.aload_n 0, 1) := by decide +kernel
theorem dX5_spree_65 : decode cX5_spree 65 = .ok (.getfield 160, 3) := by decide +kernel
theorem dX5_spree_68 : decode cX5_spree 68 = .ok (.istore_n 2, 1) := by decide +kernel
theorem dX5_spree_69 : decode cX5_spree 69 = .ok (.aload_n 0, 1) := by decide +kernel
theorem dX5_spree_70 : decode cX5_spree 70 = .ok (.invokevirtual 212, 3) := by decide +kernel
theorem dX5_spree_73 : decode cX5_spree 73 = .ok (.iload_n 2, 1) := by decide +kernel
theorem dX5_spree_74 : decode cX5_spree 74 = .ok (.ireturn, 1) := by decide +kernel
set_option maxRecDepth 20000 in
theorem ggX5_lacksBehind_X5_thinks : GoodIn wsX5_lacksBehind wsX5_thinks := goodIn_r _ [6, 7, 8, 9, 5, 10, 11, 12, 13, 14, 15, 16, 17, 18, 1, 19, 20, 21, 22, 23, 24, 25, 26, 27, 28, 29, 30, 31, 79, 80, 81, 82, 83, 84, 85, 86, 87, 88, 89, 90, 91, 92, 93, 94, 95, 96, 97, 98, 99, 100, 101, 102, 103, 104, 105] (by decide +kernel) (by decide +kernel)
set_option maxRecDepth 20000 in
theorem gX5_lacksBehind_X5_thinks : GoodIn wsX5_lacksBehind (wsV RX5 209 RX5 yX5_thinks wsX5_thinks) := goodIn_app (goodIn_of _ (by decide +kernel)) ggX5_lacksBehind_X5_thinks
set_option maxRecDepth 20000 in
theorem ggX5_lacksBehind_X5_goes : GoodIn wsX5_lacksBehind wsX5_goes := goodIn_r _ [35, 36, 37, 38, 5, 39, 22, 20, 15, 1, 18, 19, 40, 41, 42, 43, 16, 44, 45, 46, 79, 80, 81, 82, 83, 84, 85, 86, 87, 88, 89, 90, 91, 92, 93, 94, 95, 96, 97, 98, 99, 100, 101, 102, 103, 104, 105] (by decide +kernel) (by decide +kernel)
set_option maxRecDepth 20000 in
theorem gX5_lacksBehind_X5_goes : GoodIn wsX5_lacksBehind (wsV RX5 113 RX5 yX5_goes wsX5_goes) := goodIn_app (goodIn_of _ (by decide +kernel)) ggX5_lacksBehind_X5_goes
set_option maxRecDepth 20000 in
theorem ggX5_lacksBehind_X5_tellsOne : GoodIn wsX5_lacksBehind wsX5_tellsOne := goodIn_r _ [50, 18, 21, 19, 15, 14, 1, 44, 45, 5, 46, 51, 52, 53, 54, 22, 55, 56, 57, 58, 17, 16, 59, 60, 61, 62, 63, 64, 65, 66, 67, 68, 69, 70, 13, 79, 80, 81, 82, 83, 84, 85, 86, 87, 88, 89, 90, 91, 92, 93, 94, 95, 96, 97, 98, 99, 100, 101, 102, 103, 104, 105] (by decide +kernel) (by decide +kernel)
set_option maxRecDepth 20000 in
theorem gX5_lacksBehind_X5_tellsOne : GoodIn wsX5_lacksBehind (wsV RX5 126 RX5 yX5_tellsOne wsX5_tellsOne) := goodIn_app (goodIn_of _ (by decide +kernel)) ggX5_lacksBehind_X5_tellsOne
set_option maxRecDepth 20000 in
theorem ggX5_lacksBehind_X5_lacks : GoodIn wsX5_lacksBehind wsX5_lacks := goodIn_r _ [74, 15, 14, 67, 68, 69, 5, 70, 13, 22, 21, 79, 80, 81, 82, 83, 84, 85, 86, 87, 88, 89, 90, 91, 92, 93, 94, 95, 96, 97, 98, 99, 100, 101, 102, 103, 104, 105] (by decide +kernel) (by decide +kernel)
set_option maxRecDepth 20000 in
theorem gX5_lacksBehind_X5_lacks : GoodIn wsX5_lacksBehind (wsV RX5 194 RX5 yX5_lacks wsX5_lacks) := goodIn_app (goodIn_of _ (by decide +kernel)) ggX5_lacksBehind_X5_lacks
set_option maxRecDepth 20000 in
theorem ggX5_lacksBehind_X5_forgets : GoodIn wsX5_lacksBehind wsX5_forgets := goodIn_r _ [78, 7, 8, 9, 5, 10, 11, 12, 13, 14, 15, 16, 17, 18, 1, 19, 20, 21, 22, 23, 24, 25, 26, 27, 28, 29, 30, 31, 79, 80, 81, 82, 83, 84, 85, 86, 87, 88, 89, 90, 91, 92, 93, 94, 95, 96, 97, 98, 99, 100, 101, 102, 103, 104, 105] (by decide +kernel) (by decide +kernel)
set_option maxRecDepth 20000 in
theorem gX5_lacksBehind_X5_forgets : GoodIn wsX5_lacksBehind (wsV RX5 212 RX5 yX5_forgets wsX5_forgets) := goodIn_app (goodIn_of _ (by decide +kernel)) ggX5_lacksBehind_X5_forgets
theorem dX5_lacksBehind_0 : decode cX5_lacksBehind 0 = .ok (.aload_n 0, 1) := by decide +kernel
theorem dX5_lacksBehind_1 : decode cX5_lacksBehind 1 = .ok (.invokevirtual 209, 3) := by decide +kernel
theorem dX5_lacksBehind_4 : decode cX5_lacksBehind 4 = .ok (.aload_n 0, 1) := by decide +kernel
theorem dX5_lacksBehind_5 : decode cX5_lacksBehind 5 = .ok (.iload_n 2, 1) := by decide +kernel
theorem dX5_lacksBehind_6 : decode cX5_lacksBehind 6 = .ok (.invokevirtual 113, 3) := by decide +kernel
theorem dX5_lacksBehind_9 : decode cX5_lacksBehind 9 = .ok (.aload_n 0, 1) := by decide +kernel
theorem dX5_lacksBehind_10 : decode cX5_lacksBehind 10 = .ok (.iload_n 1, 1) := by decide +kernel
theorem dX5_lacksBehind_11 : decode cX5_lacksBehind 11 = .ok (.invokevirtual 126, 3) := by decide +kernel
theorem dX5_lacksBehind_14 : decode cX5_lacksBehind 14 = .ok (.pop, 1) := by decide +kernel
theorem dX5_lacksBehind_15 : decode cX5_lacksBehind 15 = .ok (.aload_n 0, 1) := by decide +kernel
theorem dX5_lacksBehind_16 : decode cX5_lacksBehind 16 = .ok (.aload_n 0, 1) := by decide +kernel
theorem dX5_lacksBehind_17 : decode cX5_lacksBehind 17 = .ok (.getfield 31, 3) := by decide +kernel
theorem dX5_lacksBehind_20 : decode cX5_lacksBehind 20 = .ok (.iload_n 1, 1) := by decide +kernel
theorem dX5_lacksBehind_21 : decode cX5_lacksBehind 21 = .ok (.iaload, 1) := by decide +kernel
theorem dX5_lacksBehind_22 : decode cX5_lacksBehind 22 = .ok (.invokevirtual 194, 3) := by decide +kernel
theorem dX5_lacksBehind_25 : decode cX5_lacksBehind 25 = .ok (.istore_n 3, 1) := by decide +kernel
theorem dX5_lacksBehind_26 : decode cX5_lacksBehind 26 = .ok (.aload_n 0, 1) := by decide +kernel
theorem dX5_lacksBehind_27 : decode cX5_lacksBehind 27 = .ok (.invokevirtual 212, 3) := by decide +kernel
theorem dX5_lacksBehind_30 : decode cX5_lacksBehind 30 = .ok (.iload_n 3, 1) := by decide +kernel
theorem dX5_lacksBehind_31 : decode cX5_lacksBehind 31 = .ok (.ireturn, 1) := by decide +kernel
set_option maxRecDepth 20000 in
theorem ggX5_keep_X5_isMan : GoodIn wsX5_keep wsX5_isMan := goodIn_r _ [5, 6, 96, 97, 98, 99, 100, 101, 102, 103, 104, 105, 106, 107, 108, 109, 110, 111, 112, 113, 114, 115, 116, 117, 118, 119, 120, 121, 122] (by decide +kernel) (by decide +kernel)
set_option maxRecDepth 20000 in
theorem gX5_keep_X5_isMan : GoodIn wsX5_keep (wsV RX5 129 RX5 yX5_isMan wsX5_isMan) := goodIn_app (goodIn_of _ (by decide +kernel)) ggX5_keep_X5_isMan
set_option maxRecDepth 20000 in
theorem ggX5_keep_X5_canTell : GoodIn wsX5_keep wsX5_canTell := goodIn_r _ [10, 11, 12, 13, 1, 2, 3, 4, 5, 6, 96, 97, 98, 99, 100, 101, 102, 103, 104, 105, 106, 107, 108, 109, 110, 111, 112, 113, 114, 115, 116, 117, 118, 119, 120, 121, 122] (by decide +kernel) (by decide +kernel)
set_option maxRecDepth 20000 in
theorem gX5_keep_X5_canTell : GoodIn wsX5_keep (wsV RX5 123 RX5 yX5_canTell wsX5_canTell) := goodIn_app (goodIn_of _ (by decide +kernel)) ggX5_keep_X5_canTell
set_option maxRecDepth 20000 in
theorem ggX5_keep_X5_no : GoodIn wsX5_keep wsX5_no := goodIn_r _ [17, 18, 96, 97, 98, 99, 100, 101, 102, 103, 104, 105, 106, 107, 108, 109, 110, 111, 112, 113, 114, 115, 116, 117, 118, 119, 120, 121, 122] (by decide +kernel) (by decide +kernel)
set_option maxRecDepth 20000 in
theorem gX5_keep_X5_no : GoodIn wsX5_keep (wsV RX5 75 RX5 yX5_no wsX5_no) := goodIn_app (goodIn_of _ (by decide +kernel)) ggX5_keep_X5_no
set_option maxRecDepth 20000 in
theorem ggX5_keep_X5_lacksBehind : GoodIn wsX5_keep wsX5_lacksBehind := goodIn_r _ [22, 13, 23, 24, 25, 4, 26, 27, 28, 29, 30, 31, 32, 33, 34, 12, 35, 36, 11, 37, 6, 38, 39, 40, 41, 42, 43, 44, 45, 46, 47, 48, 49, 50, 51, 52, 53, 54, 55, 56, 57, 58, 59, 60, 61, 62, 63, 64, 65, 66, 67, 68, 69, 70, 71, 72, 73, 74, 75, 76, 77, 78, 79, 80, 81, 82, 83, 84, 85, 86, 87, 88, 89, 90, 91, 92, 93, 94, 95, 96, 97, 98, 99, 100, 101, 102, 103, 104, 105, 106, 107, 108, 109, 110, 111, 112, 113, 114, 115, 116, 117, 118, 119, 120, 121, 122] (by decide +kernel) (by decide +kernel)
set_option maxRecDepth 20000 in
theorem gX5_keep_X5_lacksBehind : GoodIn wsX5_keep (wsV RX5 239 RX5 yX5_lacksBehind wsX5_lacksBehind) := goodIn_app (goodIn_of _ (by decide +kernel)) ggX5_keep_X5_lacksBehind
theorem dX5_keep_0 : decode cX5_keep 0 = .ok (.aload_n 0, 1) := by decide +kernel
theorem dX5_keep_1 : decode cX5_keep 1 = .ok (.iload_n 1, 1) := by decide +kernel
theorem dX5_keep_2 : decode cX5_keep 2 = .ok (.invokevirtual 129, 3) := by decide +kernel
theorem dX5_keep_5 : decode cX5_keep 5 = .ok (.ifCond .ne 7, 3) := by decide +kernel
theorem dX5_keep_8 : decode cX5_keep 8 = .ok (.iconst (-1), 1) := by decide +kernel
theorem dX5_keep_9 : decode cX5_keep 9 = .ok (.goto 17, 3) := by decide +kernel
theorem dX5_keep_12 : decode cX5_keep 12 = .ok (.aload_n 0, 1) := by decide +kernel
theorem dX5_keep_13 : decode cX5_keep 13 = .ok (.iload_n 1, 1) := by decide +kernel
theorem dX5_keep_14 : decode cX5_keep 14 = .ok (.invokevirtual 123, 3) := by decide +kernel
theorem dX5_keep_17 : decode cX5_keep 17 = .ok (.ifCond .ne 8, 3) := by decide +kernel
theorem dX5_keep_20 : decode cX5_keep 20 = .ok (.bipush (-3), 2) := by decide +kernel
theorem dX5_keep_22 : decode cX5_keep 22 = .ok (.goto 4, 3) := by decide +kernel
theorem dX5_keep_25 : decode cX5_keep 25 = .ok (.iconst 0, 1) := by decide +kernel
theorem dX5_keep_26 : decode cX5_keep 26 = .ok (.istore_n 2, 1) := by decide +kernel
theorem dX5_keep_27 : decode cX5_keep 27 = .ok (.iload_n 2, 1) := by decide +kernel
theorem dX5_keep_28 : decode cX5_keep 28 = .ok (.ifCond .eq 9, 3) := by decide +kernel
theorem dX5_keep_31 : decode cX5_keep 31 = .ok (.aload_n 0, 1) := by decide +kernel
theorem dX5_keep_32 : decode cX5_keep 32 = .ok (.iload_n 2, 1) := by decide +kernel
theorem dX5_keep_33 : decode cX5_keep 33 = .ok (.invokevirtual 75, 3) := by decide +kernel
theorem dX5_keep_36 : decode cX5_keep 36 = .ok (.ireturn, 1) := by decide +kernel
theorem dX5_keep_37 : decode cX5_keep 37 = .ok (.aload_n 0, 1) := by decide +kernel
theorem dX5_keep_38 : decode cX5_keep 38 = .ok (.iload_n 1, 1) := by decide +kernel
theorem dX5_keep_39 : decode cX5_keep 39 = .ok (.iconst 0, 1) := by decide +kernel
theorem dX5_keep_40 : decode cX5_keep 40 = .ok (.invokevirtual 239, 3) := by decide +kernel
theorem dX5_keep_43 : decode cX5_keep 43 = .ok (.aload_n 0, 1) := by decide +kernel
theorem dX5_keep_44 : decode cX5_keep 44 = .ok (.iload_n 1, 1) := by decide +kernel
theorem dX5_keep_45 : decode cX5_keep 45 = .ok (.iconst 1, 1) := by decide +kernel
theorem dX5_keep_46 : decode cX5_keep 46 = .ok (.invokevirtual 239, 3) := by decide +kernel
theorem dX5_keep_49 : decode cX5_keep 49 = .ok (.if_icmp .gt 7, 3) := by decide +kernel
theorem dX5_keep_52 : decode cX5_keep 52 = .ok (.iconst 1, 1) := by decide +kernel
theorem dX5_keep_53 : decode cX5_keep 53 = .ok (.goto 4, 3) := by decide +kernel
theorem dX5_keep_56 : decode cX5_keep 56 = .ok (.iconst 0, 1) := by decide +kernel
theorem dX5_keep_57 : decode cX5_keep 57 = .ok (.ireturn, 1) := by decide +kernel
set_option maxRecDepth 20000 in
theorem ggX5_richest_X5_isIn : GoodIn wsX5_richest wsX5_isIn := goodIn_r _ [6] (by decide +kernel) (by decide +kernel)
set_option maxRecDepth 20000 in
theorem gX5_richest_X5_isIn : GoodIn wsX5_richest (va_wsS RX5 86 yX5_isIn wsX5_isIn) := goodIn_app (goodIn_of _ (by decide +kernel)) ggX5_richest_X5_isIn
set_option maxRecDepth 20000 in
theorem ggX5_richest_X5_no : GoodIn wsX5_richest wsX5_no := goodIn_r _ [10, 11, 23, 24, 25, 26, 27, 28, 29, 30, 31, 32, 33, 34, 35, 36, 37, 38, 39, 40, 41, 42, 43, 44, 45, 46, 47, 48, 49] (by decide +kernel) (by decide +kernel)
set_option maxRecDepth 20000 in
theorem gX5_richest_X5_no : GoodIn wsX5_richest (wsV RX5 75 RX5 yX5_no wsX5_no) := goodIn_app (goodIn_of _ (by decide +kernel)) ggX5_richest_X5_no
set_option maxRecDepth 20000 in
theorem ggX5_richest_X5_worth : GoodIn wsX5_richest wsX5_worth := goodIn_r _ [15, 16, 17, 18, 19, 5, 20, 21, 22, 23, 24, 25, 26, 27, 28, 29, 30, 31, 32, 33, 34, 35, 36, 37, 38, 39, 40, 41, 42, 43, 44, 45, 46, 47, 48, 49] (by decide +kernel) (by decide +kernel)
set_option maxRecDepth 20000 in
theorem gX5_richest_X5_worth : GoodIn wsX5_richest (wsV RX5 170 RX5 yX5_worth wsX5_worth) := goodIn_app (goodIn_of _ (by decide +kernel)) ggX5_richest_X5_worth
theorem dX5_richest_0 : decode cX5_richest 0 = .ok (.iload_n 1, 1) := by decide +kernel
theorem dX5_richest_1 : decode cX5_richest 1 = .ok (.iconst 0, 1) := by decide +kernel
theorem dX5_richest_2 : decode cX5_richest 2 = .ok (.iconst 1, 1) := by decide +kernel
theorem dX5_richest_3 : decode cX5_richest 3 = .ok (.invokestatic 86, 3) := by decide +kernel
theorem dX5_richest_6 : decode cX5_richest 6 = .ok (.ifCond .ne 10, 3) := by decide +kernel
theorem dX5_richest_9 : decode cX5_richest 9 = .ok (.aload_n 0, 1) := by decide +kernel
theorem dX5_richest_10 : decode cX5_richest 10 = .ok (.bipush (-2), 2) := by decide +kernel
theorem dX5_richest_12 : decode cX5_richest 12 = .ok (.invokevirtual 75, 3) := by decide +kernel
theorem dX5_richest_15 : decode cX5_richest 15 = .ok (.ireturn, 1) := by decide +kernel
theorem dX5_richest_16 : decode cX5_richest 16 = .ok (.bipush (-9), 2) := by decide +kernel
theorem dX5_richest_18 : decode cX5_richest 18 = .ok (.istore_n 2, 1) := by decide +kernel
theorem dX5_richest_19 : decode cX5_richest 19 = .ok (.iconst 0, 1) := by decide +kernel
theorem dX5_richest_20 : decode cX5_richest 20 = .ok (.istore_n 3, 1) := by decide +kernel
theorem dX5_richest_21 : decode cX5_richest 21 = .ok (.iload_n 3, 1) := by decide +kernel
theorem dX5_richest_22 : decode cX5_richest 22 = .ok (.aload_n 0, 1) := by decide +kernel
theorem dX5_richest_23 : decode cX5_richest 23 = .ok (.getfield 65, 3) := by decide +kernel
theorem dX5_richest_26 : decode cX5_richest 26 = .ok (.if_icmp .ge 50, 3) := by decide +kernel
theorem dX5_richest_29 : decode cX5_richest 29 = .ok (.iload_n 2, 1) := by decide +kernel
theorem dX5_richest_30 : decode cX5_richest 30 = .ok (.ifCond .lt 38, 3) := by decide +kernel
theorem dX5_richest_33 : decode cX5_richest 33 = .ok (.iload_n 1, 1) := by decide +kernel
theorem dX5_richest_34 : decode cX5_richest 34 = .ok (.ifCond .ne 21, 3) := by decide +kernel
theorem dX5_richest_37 : decode cX5_richest 37 = .ok (.aload_n 0, 1) := by decide +kernel
theorem dX5_richest_38 : decode cX5_richest 38 = .ok (.getfield 28, 3) := by decide +kernel
theorem dX5_richest_41 : decode cX5_richest 41 = .ok (.iload_n 3, 1) := by decide +kernel
theorem dX5_richest_42 : decode cX5_richest 42 = .ok (.iaload, 1) := by decide +kernel
theorem dX5_richest_43 : decode cX5_richest 43 = .ok (.aload_n 0, 1) := by decide +kernel
theorem dX5_richest_44 : decode cX5_richest 44 = .ok (.getfield 28, 3) := by decide +kernel
theorem dX5_richest_47 : decode cX5_richest 47 = .ok (.iload_n 2, 1) := by decide +kernel
theorem dX5_richest_48 : decode cX5_richest 48 = .ok (.iaload, 1) := by decide +kernel
theorem dX5_richest_49 : decode cX5_richest 49 = .ok (.if_icmp .le 21, 3) := by decide +kernel
theorem dX5_richest_52 : decode cX5_richest 52 = .ok (.goto 16, 3) := by decide +kernel
theorem dX5_richest_55 : decode cX5_richest 55 = .ok (.aload_n 0, 1) := by decide +kernel
theorem dX5_richest_56 : decode cX5_richest 56 = .ok (.iload_n 3, 1) := by decide +kernel
theorem dX5_richest_57 : decode cX5_richest 57 = .ok (.invokevirtual 170, 3) := by decide +kernel
theorem dX5_richest_60 : decode cX5_richest 60 = .ok (.aload_n 0, 1) := by decide +kernel
theorem dX5_richest_61 : decode cX5_richest 61 = .ok (.iload_n 2, 1) := by decide +kernel
theorem dX5_richest_62 : decode cX5_richest 62 = .ok (.invokevirtual 170, 3) := by decide +kernel
theorem dX5_richest_65 : decode cX5_richest 65 = .ok (.if_icmp .le 5, 3) := by decide +kernel
theorem dX5_richest_68 : decode cX5_richest 68 = .ok (.iload_n 3, 1) := by decide +kernel
theorem dX5_richest_69 : decode cX5_richest 69 = .ok (.istore_n 2, 1) := by decide +kernel
theorem dX5_richest_70 : decode cX5_richest 70 = .ok (.iinc 3 1, 3) := by decide +kernel
theorem dX5_richest_73 : decode cX5_richest 73 = .ok (.goto (-52), 3) := by decide +kernel
theorem dX5_richest_76 : decode cX5_richest 76 = .ok (.iload_n 2, 1) := by decide +kernel
theorem dX5_richest_77 : decode cX5_richest 77 = .ok (.ireturn, 1) := by decide +kernel
theorem dX5_blameless_0 : decode cX5_blameless 0 = .ok (.iconst 1, 1) := by decide +kernel
theorem dX5_blameless_1 : decode cX5_blameless 1 = .ok (.aload_n 0, 1) := by decide +kernel
theorem dX5_blameless_2 : decode cX5_blameless 2 = .ok (.getfield 58, 3) := by decide +kernel
theorem dX5_blameless_5 : decode cX5_blameless 5 = .ok (.ishl, 1) := by decide +kernel
theorem dX5_blameless_6 : decode cX5_blameless 6 = .ok (.iconst 1, 1) := by decide +kernel
theorem dX5_blameless_7 : decode cX5_blameless 7 = .ok (.isub, 1) := by decide +kernel
theorem dX5_blameless_8 : decode cX5_blameless 8 = .ok (.istore_n 1, 1) := by decide +kernel
theorem dX5_blameless_9 : decode cX5_blameless 9 = .ok (.iconst 0, 1) := by decide +kernel
theorem dX5_blameless_10 : decode cX5_blameless 10 = .ok (.istore_n 2, 1) := by decide +kernel
theorem dX5_blameless_11 : decode cX5_blameless 11 = .ok (.iload_n 2, 1) := by decide +kernel
theorem dX5_blameless_12 : decode cX5_blameless 12 = .ok (.aload_n 0, 1) := by decide +kernel
theorem dX5_blameless_13 : decode cX5_blameless 13 = .ok (.getfield 65, 3) := by decide +kernel
theorem dX5_blameless_16 : decode cX5_blameless 16 = .ok (.if_icmp .ge 35, 3) := by decide +kernel
theorem dX5_blameless_19 : decode cX5_blameless 19 = .ok (.iload_n 1, 1) := by decide +kernel
theorem dX5_blameless_20 : decode cX5_blameless 20 = .ok (.aload_n 0, 1) := by decide +kernel
theorem dX5_blameless_21 : decode cX5_blameless 21 = .ok (.getfield 28, 3) := by decide +kernel
theorem dX5_blameless_24 : decode cX5_blameless 24 = .ok (.iload_n 2, 1) := by decide +kernel
theorem dX5_blameless_25 : decode cX5_blameless 25 = .ok (.iaload, 1) := by decide +kernel
theorem dX5_blameless_26 : decode cX5_blameless 26 = .ok (.ifCond .le 16, 3) := by decide +kernel
theorem dX5_blameless_29 : decode cX5_blameless 29 = .ok (.iconst 1, 1) := by decide +kernel
theorem dX5_blameless_30 : decode cX5_blameless 30 = .ok (.aload_n 0, 1) := by decide +kernel
theorem dX5_blameless_31 : decode cX5_blameless 31 = .ok (.getfield 31, 3) := by decide +kernel
theorem dX5_blameless_34 : decode cX5_blameless 34 = .ok (.iload_n 2, 1) := by decide +kernel
theorem dX5_blameless_35 : decode cX5_blameless 35 = .ok (.iaload, 1) := by decide +kernel
theorem dX5_blameless_36 : decode cX5_blameless 36 = .ok (.ishl, 1) := by decide +kernel
theorem dX5_blameless_37 : decode cX5_blameless 37 = .ok (.iconst (-1), 1) := by decide +kernel
theorem dX5_blameless_38 : decode cX5_blameless 38 = .ok (.ixor, 1) := by decide +kernel
theorem dX5_blameless_39 : decode cX5_blameless 39 = .ok (.goto 4, 3) := by decide +kernel
theorem dX5_blameless_42 : decode cX5_blameless 42 = .ok (.iconst (-1), 1) := by decide +kernel
theorem dX5_blameless_43 : decode cX5_blameless 43 = .ok (.iand, 1) := by decide +kernel
theorem dX5_blameless_44 : decode cX5_blameless 44 = .ok (.istore_n 1, 1) := by decide +kernel
theorem dX5_blameless_45 : decode cX5_blameless 45 = .ok (.iinc 2 1, 3) := by decide +kernel
theorem dX5_blameless_48 : decode cX5_blameless 48 = .ok (.goto (-37), 3) := by decide +kernel
theorem dX5_blameless_51 : decode cX5_blameless 51 = .ok (.iload_n 1, 1) := by decide +kernel
theorem dX5_blameless_52 : decode cX5_blameless 52 = .ok (.ireturn, 1) := by decide +kernel
set_option maxRecDepth 20000 in
theorem ggX5_ebb_X5_isShip : GoodIn wsX5_ebb wsX5_isShip := goodIn_r _ [6, 7, 31, 32, 33, 34, 35, 36, 37, 38, 39, 40, 41, 42, 43, 44, 45, 46, 47, 48, 49, 50, 51, 52, 53, 54, 55, 56, 57] (by decide +kernel) (by decide +kernel)
set_option maxRecDepth 20000 in
theorem gX5_ebb_X5_isShip : GoodIn wsX5_ebb (wsV RX5 107 RX5 yX5_isShip wsX5_isShip) := goodIn_app (goodIn_of _ (by decide +kernel)) ggX5_ebb_X5_isShip
set_option maxRecDepth 20000 in
theorem ggX5_ebb_X5_poolOn : GoodIn wsX5_ebb wsX5_poolOn := goodIn_r _ [11, 12, 13, 14, 15, 16, 17, 5, 18, 19, 20, 31, 32, 33, 34, 35, 36, 37, 38, 39, 40, 41, 42, 43, 44, 45, 46, 47, 48, 49, 50, 51, 52, 53, 54, 55, 56, 57] (by decide +kernel) (by decide +kernel)
set_option maxRecDepth 20000 in
theorem gX5_ebb_X5_poolOn : GoodIn wsX5_ebb (wsV RX5 176 RX5 yX5_poolOn wsX5_poolOn) := goodIn_app (goodIn_of _ (by decide +kernel)) ggX5_ebb_X5_poolOn
set_option maxRecDepth 20000 in
theorem ggX5_ebb_X5_pool : GoodIn wsX5_ebb wsX5_pool := goodIn_r _ [24, 1, 8, 9, 10, 5, 11, 12, 13, 14, 15, 16, 17, 18, 19, 20, 31, 32, 33, 34, 35, 36, 37, 38, 39, 40, 41, 42, 43, 44, 45, 46, 47, 48, 49, 50, 51, 52, 53, 54, 55, 56, 57] (by decide +kernel) (by decide +kernel)
set_option maxRecDepth 20000 in
theorem gX5_ebb_X5_pool : GoodIn wsX5_ebb (wsV RX5 197 RX5 yX5_pool wsX5_pool) := goodIn_app (goodIn_of _ (by decide +kernel)) ggX5_ebb_X5_pool
set_option maxRecDepth 20000 in
theorem ggX5_ebb_X5_lower : GoodIn wsX5_ebb wsX5_lower := goodIn_r _ [28, 29, 30, 31, 32, 33, 34, 35, 36, 37, 38, 39, 40, 41, 42, 43, 44, 45, 46, 47, 48, 49, 50, 51, 52, 53, 54, 55, 56, 57] (by decide +kernel) (by decide +kernel)
set_option maxRecDepth 20000 in
theorem gX5_ebb_X5_lower : GoodIn wsX5_ebb (wsV RX5 242 RX5 yX5_lower wsX5_lower) := goodIn_app (goodIn_of _ (by decide +kernel)) ggX5_ebb_X5_lower
theorem dX5_ebb_0 : decode cX5_ebb 0 = .ok (.aload_n 0, 1) := by decide +kernel
theorem dX5_ebb_1 : decode cX5_ebb 1 = .ok (.iload_n 1, 1) := by decide +kernel
theorem dX5_ebb_2 : decode cX5_ebb 2 = .ok (.invokevirtual 107, 3) := by decide +kernel
theorem dX5_ebb_5 : decode cX5_ebb 5 = .ok (.ifCond .eq 23, 3) := by decide +kernel
theorem dX5_ebb_8 : decode cX5_ebb 8 = .ok (.aload_n 0, 1) := by decide +kernel
theorem dX5_ebb_9 : decode cX5_ebb 9 = .ok (.iload_n 1, 1) := by decide +kernel
theorem dX5_ebb_10 : decode cX5_ebb 10 = .ok (.aload_n 0, 1) := by decide +kernel
theorem dX5_ebb_11 : decode cX5_ebb 11 = .ok (.getfield 110, 3) := by decide +kernel
theorem dX5_ebb_14 : decode cX5_ebb 14 = .ok (.iconst 1, 1) := by decide +kernel
theorem dX5_ebb_15 : decode cX5_ebb 15 = .ok (.iadd, 1) := by decide +kernel
theorem dX5_ebb_16 : decode cX5_ebb 16 = .ok (.invokevirtual 176, 3) := by decide +kernel
theorem dX5_ebb_19 : decode cX5_ebb 19 = .ok (.aload_n 0, 1) := by decide +kernel
theorem dX5_ebb_20 : decode cX5_ebb 20 = .ok (.iload_n 1, 1) := by decide +kernel
theorem dX5_ebb_21 : decode cX5_ebb 21 = .ok (.invokevirtual 197, 3) := by decide +kernel
theorem dX5_ebb_24 : decode cX5_ebb 24 = .ok (.isub, 1) := by decide +kernel
theorem dX5_ebb_25 : decode cX5_ebb 25 = .ok (.goto 8, 3) := by decide +kernel
theorem dX5_ebb_28 : decode cX5_ebb 28 = .ok (.aload_n 0, 1) := by decide +kernel
theorem dX5_ebb_29 : decode cX5_ebb 29 = .ok (.iconst (-1), 1) := by decide +kernel
theorem dX5_ebb_30 : decode cX5_ebb 30 = .ok (.invokevirtual 242, 3) := by decide +kernel
theorem dX5_ebb_33 : decode cX5_ebb 33 = .ok (.ireturn, 1) := by decide +kernel
set_option maxRecDepth 20000 in
theorem ggX5_missing_X5_lacks : GoodIn wsX5_missing wsX5_lacks := goodIn_r _ [7, 2, 8, 9, 10, 11, 6, 12, 13, 14, 15, 33, 34, 35, 36, 37, 38, 39, 40, 41, 42, 43, 44, 45, 46, 47, 48, 49, 50, 51, 52, 53, 54, 55, 56, 57, 58, 59] (by decide +kernel) (by decide +kernel)
set_option maxRecDepth 20000 in
theorem gX5_missing_X5_lacks : GoodIn wsX5_missing (wsV RX5 194 RX5 yX5_lacks wsX5_lacks) := goodIn_app (goodIn_of _ (by decide +kernel)) ggX5_missing_X5_lacks
set_option maxRecDepth 20000 in
theorem ggX5_missing_X5_pool : GoodIn wsX5_missing wsX5_pool := goodIn_r _ [19, 14, 20, 21, 22, 6, 23, 24, 25, 26, 27, 28, 29, 30, 31, 32, 33, 34, 35, 36, 37, 38, 39, 40, 41, 42, 43, 44, 45, 46, 47, 48, 49, 50, 51, 52, 53, 54, 55, 56, 57, 58, 59] (by decide +kernel) (by decide +kernel)
set_option maxRecDepth 20000 in
theorem gX5_missing_X5_pool : GoodIn wsX5_missing (wsV RX5 197 RX5 yX5_pool wsX5_pool) := goodIn_app (goodIn_of _ (by decide +kernel)) ggX5_missing_X5_pool
theorem dX5_missing_0 : decode cX5_missing 0 = .ok (.iconst 0, 1) := by decide +kernel
theorem dX5_missing_1 : decode cX5_missing 1 = .ok (.istore_n 1, 1) := by decide +kernel
theorem dX5_missing_2 : decode cX5_missing 2 = .ok (.iconst 0, 1) := by decide +kernel
theorem dX5_missing_3 : decode cX5_missing 3 = .ok (.istore_n 2, 1) := by decide +kernel
theorem dX5_missing_4 : decode cX5_missing 4 = .ok (.iload_n 2, 1) := by decide +kernel
theorem dX5_missing_5 : decode cX5_missing 5 = .ok (.aload_n 0, 1) := by decide +kernel
theorem dX5_missing_6 : decode cX5_missing 6 = .ok (.getfield 58, 3) := by decide +kernel
theorem dX5_missing_9 : decode cX5_missing 9 = .ok (.if_icmp .ge 49, 3) := by decide +kernel
theorem dX5_missing_12 : decode cX5_missing 12 = .ok (.iload_n 1, 1) := by decide +kernel
theorem dX5_missing_13 : decode cX5_missing 13 = .ok (.aload_n 0, 1) := by decide +kernel
theorem dX5_missing_14 : decode cX5_missing 14 = .ok (.getfield 19, 3) := by decide +kernel
theorem dX5_missing_17 : decode cX5_missing 17 = .ok (.iload_n 2, 1) := by decide +kernel
theorem dX5_missing_18 : decode cX5_missing 18 = .ok (.iaload, 1) := by decide +kernel
theorem dX5_missing_19 : decode cX5_missing 19 = .ok (.ifCond .ne 30, 3) := by decide +kernel
theorem dX5_missing_22 : decode cX5_missing 22 = .ok (.aload_n 0, 1) := by decide +kernel
theorem dX5_missing_23 : decode cX5_missing 23 = .ok (.iload_n 2, 1) := by decide +kernel
theorem dX5_missing_24 : decode cX5_missing 24 = .ok (.invokevirtual 194, 3) := by decide +kernel
theorem dX5_missing_27 : decode cX5_missing 27 = .ok (.aload_n 0, 1) := by decide +kernel
theorem dX5_missing_28 : decode cX5_missing 28 = .ok (.iload_n 2, 1) := by decide +kernel
theorem dX5_missing_29 : decode cX5_missing 29 = .ok (.invokevirtual 197, 3) := by decide +kernel
theorem dX5_missing_32 : decode cX5_missing 32 = .ok (.if_icmp .le 17, 3) := by decide +kernel
theorem dX5_missing_35 : decode cX5_missing 35 = .ok (.aload_n 0, 1) := by decide +kernel
theorem dX5_missing_36 : decode cX5_missing 36 = .ok (.iload_n 2, 1) := by decide +kernel
theorem dX5_missing_37 : decode cX5_missing 37 = .ok (.invokevirtual 194, 3) := by decide +kernel
theorem dX5_missing_40 : decode cX5_missing 40 = .ok (.aload_n 0, 1) := by decide +kernel
theorem dX5_missing_41 : decode cX5_missing 41 = .ok (.iload_n 2, 1) := by decide +kernel
theorem dX5_missing_42 : decode cX5_missing 42 = .ok (.invokevirtual 197, 3) := by decide +kernel
theorem dX5_missing_45 : decode cX5_missing 45 = .ok (.isub, 1) := by decide +kernel
theorem dX5_missing_46 : decode cX5_missing 46 = .ok (.goto 4, 3) := by decide +kernel
theorem dX5_missing_49 : decode cX5_missing 49 = .ok (.iconst 0, 1) := by decide +kernel
theorem dX5_missing_50 : decode cX5_missing 50 = .ok (.iadd, 1) := by decide +kernel
theorem dX5_missing_51 : decode cX5_missing 51 = .ok (.istore_n 1, 1) := by decide +kernel
theorem dX5_missing_52 : decode cX5_missing 52 = .ok (.iinc 2 1, 3) := by decide +kernel
theorem dX5_missing_55 : decode cX5_missing 55 = .ok (.goto (-51), 3) := by decide +kernel
theorem dX5_missing_58 : decode cX5_missing 58 = .ok (.iload_n 1, 1) := by decide +kernel
theorem dX5_missing_59 : decode cX5_missing 59 = .ok (.ireturn, 1) := by decide +kernel
set_option maxRecDepth 20000 in
theorem ggX5_toldBy_X5_canTell : GoodIn wsX5_toldBy wsX5_canTell := goodIn_r _ [5, 6, 7, 8, 9, 10, 11, 4, 12, 13, 48, 49, 50, 51, 52, 53, 54, 55, 56, 57, 58, 59, 60, 61, 62, 63, 64, 65, 66, 67, 68, 69, 70, 71, 72, 73, 74] (by decide +kernel) (by decide +kernel)
set_option maxRecDepth 20000 in
theorem gX5_toldBy_X5_canTell : GoodIn wsX5_toldBy (wsV RX5 123 RX5 yX5_canTell wsX5_canTell) := goodIn_app (goodIn_of _ (by decide +kernel)) ggX5_toldBy_X5_canTell
set_option maxRecDepth 20000 in
theorem ggX5_toldBy_X5_tellsOne : GoodIn wsX5_toldBy wsX5_tellsOne := goodIn_r _ [17, 6, 18, 19, 7, 20, 8, 21, 22, 4, 23, 24, 25, 26, 27, 28, 29, 30, 31, 32, 33, 34, 35, 36, 37, 38, 39, 40, 41, 42, 43, 44, 45, 46, 47, 48, 49, 50, 51, 52, 53, 54, 55, 56, 57, 58, 59, 60, 61, 62, 63, 64, 65, 66, 67, 68, 69, 70, 71, 72, 73, 74] (by decide +kernel) (by decide +kernel)
set_option maxRecDepth 20000 in
theorem gX5_toldBy_X5_tellsOne : GoodIn wsX5_toldBy (wsV RX5 126 RX5 yX5_tellsOne wsX5_tellsOne) := goodIn_app (goodIn_of _ (by decide +kernel)) ggX5_toldBy_X5_tellsOne
theorem dX5_toldBy_0 : decode cX5_toldBy 0 = .ok (.iload_n 2, 1) := by decide +kernel
theorem dX5_toldBy_1 : decode cX5_toldBy 1 = .ok (.ifCond .eq 11, 3) := by decide +kernel
theorem dX5_toldBy_4 : decode cX5_toldBy 4 = .ok (.aload_n 0, 1) := by decide +kernel
theorem dX5_toldBy_5 : decode cX5_toldBy 5 = .ok (.iload_n 1, 1) := by decide +kernel
theorem dX5_toldBy_6 : decode cX5_toldBy 6 = .ok (.invokevirtual 123, 3) := by decide +kernel
theorem dX5_toldBy_9 : decode cX5_toldBy 9 = .ok (.ifCond .ne 5, 3) := by decide +kernel
theorem dX5_toldBy_12 : decode cX5_toldBy 12 = .ok (.iconst 0, 1) := by decide +kernel
theorem dX5_toldBy_13 : decode cX5_toldBy 13 = .ok (.ireturn, 1) := by decide +kernel
theorem dX5_toldBy_14 : decode cX5_toldBy 14 = .ok (.aload_n 0, 1) := by decide +kernel
theorem dX5_toldBy_15 : decode cX5_toldBy 15 = .ok (.iload_n 1, 1) := by decide +kernel
theorem dX5_toldBy_16 : decode cX5_toldBy 16 = .ok (.invokevirtual 126, 3) := by decide +kernel
theorem dX5_toldBy_19 : decode cX5_toldBy 19 = .ok (.pop, 1) := by decide +kernel
theorem dX5_toldBy_20 : decode cX5_toldBy 20 = .ok (.iconst 1, 1) := by decide +kernel
theorem dX5_toldBy_21 : decode cX5_toldBy 21 = .ok (.ireturn, 1) := by decide +kernel
set_option maxRecDepth 20000 in
theorem ggX5_findGets_X5_thinks : GoodIn wsX5_findGets wsX5_thinks := goodIn_r _ [8, 9, 10, 11, 7, 12, 13, 14, 15, 16, 2, 17, 18, 19, 3, 20, 21, 22, 23, 24, 25, 26, 27, 28, 29, 30, 31, 32, 76, 77, 78, 79, 80, 81, 82, 83, 84, 85, 86, 87, 88, 89, 90, 91, 92, 93, 94, 95, 96, 97, 98, 99, 100, 101, 102] (by decide +kernel) (by decide +kernel)
set_option maxRecDepth 20000 in
theorem gX5_findGets_X5_thinks : GoodIn wsX5_findGets (wsV RX5 209 RX5 yX5_thinks wsX5_thinks) := goodIn_app (goodIn_of _ (by decide +kernel)) ggX5_findGets_X5_thinks
set_option maxRecDepth 20000 in
theorem ggX5_findGets_X5_toldBy : GoodIn wsX5_findGets wsX5_toldBy := goodIn_r _ [36, 37, 38, 39, 7, 40, 19, 2, 3, 41, 42, 43, 44, 21, 45, 46, 47, 48, 22, 20, 16, 49, 50, 51, 52, 53, 54, 55, 23, 56, 57, 58, 59, 18, 17, 60, 61, 62, 63, 64, 65, 66, 67, 68, 69, 70, 71, 15, 76, 77, 78, 79, 80, 81, 82, 83, 84, 85, 86, 87, 88, 89, 90, 91, 92, 93, 94, 95, 96, 97, 98, 99, 100, 101, 102] (by decide +kernel) (by decide +kernel)
set_option maxRecDepth 20000 in
theorem gX5_findGets_X5_toldBy : GoodIn wsX5_findGets (wsV RX5 245 RX5 yX5_toldBy wsX5_toldBy) := goodIn_app (goodIn_of _ (by decide +kernel)) ggX5_findGets_X5_toldBy
set_option maxRecDepth 20000 in
theorem ggX5_findGets_X5_forgets : GoodIn wsX5_findGets wsX5_forgets := goodIn_r _ [75, 9, 10, 11, 7, 12, 13, 14, 15, 16, 2, 17, 18, 19, 3, 20, 21, 22, 23, 24, 25, 26, 27, 28, 29, 30, 31, 32, 76, 77, 78, 79, 80, 81, 82, 83, 84, 85, 86, 87, 88, 89, 90, 91, 92, 93, 94, 95, 96, 97, 98, 99, 100, 101, 102] (by decide +kernel) (by decide +kernel)
set_option maxRecDepth 20000 in
theorem gX5_findGets_X5_forgets : GoodIn wsX5_findGets (wsV RX5 212 RX5 yX5_forgets wsX5_forgets) := goodIn_app (goodIn_of _ (by decide +kernel)) ggX5_findGets_X5_forgets
theorem dX5_findGets_0 : decode cX5_findGets 0 = .ok (.iconst 0, 1) := by decide +kernel
theorem dX5_findGets_1 : decode cX5_findGets 1 = .ok (.istore_n 3, 1) := by decide +kernel
theorem dX5_findGets_2 : decode cX5_findGets 2 = .ok (.iload_n 3, 1) := by decide +kernel
theorem dX5_findGets_3 : decode cX5_findGets 3 = .ok (.iconst 4, 1) := by decide +kernel
theorem dX5_findGets_4 : decode cX5_findGets 4 = .ok (.if_icmp .ge 99, 3) := by decide +kernel
theorem dX5_findGets_7 : decode cX5_findGets 7 = .ok (.aload_n 0, 1) := by decide +kernel
theorem dX5_findGets_8 : decode cX5_findGets 8 = .ok (.invokevirtual 209, 3) := by decide +kernel
theorem dX5_findGets_11 : decode cX5_findGets 11 = .ok (.aload_n 0, 1) := by decide +kernel
theorem dX5_findGets_12 : decode cX5_findGets 12 = .ok (.iload_n 1, 1) := by decide +kernel
theorem dX5_findGets_13 : decode cX5_findGets 13 = .ok (.iload_n 3, 1) := by decide +kernel
theorem dX5_findGets_14 : decode cX5_findGets 14 = .ok (.iconst 2, 1) := by decide +kernel
theorem dX5_findGets_15 : decode cX5_findGets 15 = .ok (.idiv, 1) := by decide +kernel
theorem dX5_findGets_16 : decode cX5_findGets 16 = .ok (.invokevirtual 245, 3) := by decide +kernel
theorem dX5_findGets_19 : decode cX5_findGets 19 = .ok (.istore 4, 2) := by decide +kernel
theorem dX5_findGets_21 : decode cX5_findGets 21 = .ok (.aload_n 0, 1) := by decide +kernel
theorem dX5_findGets_22 : decode cX5_findGets 22 = .ok (.iload_n 2, 1) := by decide +kernel
theorem dX5_findGets_23 : decode cX5_findGets 23 = .ok (.iload_n 3, 1) := by decide +kernel
theorem dX5_findGets_24 : decode cX5_findGets 24 = .ok (.iconst 2, 1) := by decide +kernel
theorem dX5_findGets_25 : decode cX5_findGets 25 = .ok (.irem, 1) := by decide +kernel
theorem dX5_findGets_26 : decode cX5_findGets 26 = .ok (.invokevirtual 245, 3) := by decide +kernel
theorem dX5_findGets_29 : decode cX5_findGets 29 = .ok (.istore 5, 2) := by decide +kernel
theorem dX5_findGets_31 : decode cX5_findGets 31 = .ok (.aload_n 0, 1) := by decide +kernel
theorem dX5_findGets_32 : decode cX5_findGets 32 = .ok (.getfield 52, 3) := by decide +kernel
theorem dX5_findGets_35 : decode cX5_findGets 35 = .ok (.iconst 2, 1) := by decide +kernel
theorem dX5_findGets_36 : decode cX5_findGets 36 = .ok (.iload_n 3, 1) := by decide +kernel
theorem dX5_findGets_37 : decode cX5_findGets 37 = .ok (.imul, 1) := by decide +kernel
theorem dX5_findGets_38 : decode cX5_findGets 38 = .ok (.aload_n 0, 1) := by decide +kernel
theorem dX5_findGets_39 : decode cX5_findGets 39 = .ok (.getfield 19, 3) := by decide +kernel
theorem dX5_findGets_42 : decode cX5_findGets 42 = .ok (.aload_n 0, 1) := by decide +kernel
theorem dX5_findGets_43 : decode cX5_findGets 43 = .ok (.getfield 31, 3) := by decide +kernel
theorem dX5_findGets_46 : decode cX5_findGets 46 = .ok (.iload_n 1, 1) := by decide +kernel
theorem dX5_findGets_47 : decode cX5_findGets 47 = .ok (.iaload, 1) := by decide +kernel
theorem dX5_findGets_48 : decode cX5_findGets 48 = .ok (.iaload, 1) := by decide +kernel
theorem dX5_findGets_49 : decode cX5_findGets 49 = .ok (.ifCond .le 7, 3) := by decide +kernel
theorem dX5_findGets_52 : decode cX5_findGets 52 = .ok (.iconst 3, 1) := by decide +kernel
theorem dX5_findGets_53 : decode cX5_findGets 53 = .ok (.goto 4, 3) := by decide +kernel
theorem dX5_findGets_56 : decode cX5_findGets 56 = .ok (.iconst 0, 1) := by decide +kernel
theorem dX5_findGets_57 : decode cX5_findGets 57 = .ok (.iload 4, 2) := by decide +kernel
theorem dX5_findGets_59 : decode cX5_findGets 59 = .ok (.isub, 1) := by decide +kernel
theorem dX5_findGets_60 : decode cX5_findGets 60 = .ok (.iastore, 1) := by decide +kernel
theorem dX5_findGets_61 : decode cX5_findGets 61 = .ok (.aload_n 0, 1) := by decide +kernel
theorem dX5_findGets_62 : decode cX5_findGets 62 = .ok (.getfield 52, 3) := by decide +kernel
theorem dX5_findGets_65 : decode cX5_findGets 65 = .ok (.iconst 2, 1) := by decide +kernel
theorem dX5_findGets_66 : decode cX5_findGets 66 = .ok (.iload_n 3, 1) := by decide +kernel
theorem dX5_findGets_67 : decode cX5_findGets 67 = .ok (.imul, 1) := by decide +kernel
theorem dX5_findGets_68 : decode cX5_findGets 68 = .ok (.iconst 1, 1) := by decide +kernel
theorem dX5_findGets_69 : decode cX5_findGets 69 = .ok (.iadd, 1) := by decide +kernel
theorem dX5_findGets_70 : decode cX5_findGets 70 = .ok (.aload_n 0, 1) := by decide +kernel
theorem dX5_findGets_71 : decode cX5_findGets 71 = .ok (.getfield 19, 3) := by decide +kernel
theorem dX5_findGets_74 : decode cX5_findGets 74 = .ok (.aload_n 0, 1) := by decide +kernel
theorem dX5_findGets_75 : decode cX5_findGets 75 = .ok (.getfield 31, 3) := by decide +kernel
theorem dX5_findGets_78 : decode cX5_findGets 78 = .ok (.iload_n 2, 1) := by decide +kernel
theorem dX5_findGets_79 : decode cX5_findGets 79 = .ok (.iaload, 1) := by decide +kernel
theorem dX5_findGets_80 : decode cX5_findGets 80 = .ok (.iaload, 1) := by decide +kernel
theorem dX5_findGets_81 : decode cX5_findGets 81 = .ok (.ifCond .le 7, 3) := by decide +kernel
theorem dX5_findGets_84 : decode cX5_findGets 84 = .ok (.iconst 3, 1) := by decide +kernel
theorem dX5_findGets_85 : decode cX5_findGets 85 = .ok (.goto 4, 3) := by decide +kernel
theorem dX5_findGets_88 : decode cX5_findGets 88 = .ok (.iconst 0, 1) := by decide +kernel
theorem dX5_findGets_89 : decode cX5_findGets 89 = .ok (.iload 5, 2) := by decide +kernel
theorem dX5_findGets_91 : decode cX5_findGets 91 = .ok (.isub, 1) := by decide +kernel
theorem dX5_findGets_92 : decode cX5_findGets 92 = .ok (.iastore, 1) := by decide +kernel
theorem dX5_findGets_93 : decode cX5_findGets 93 = .ok (.aload_n 0, 1) := by decide +kernel
theorem dX5_findGets_94 : decode cX5_findGets 94 = .ok (.invokevirtual 212, 3) := by decide +kernel
theorem dX5_findGets_97 : decode cX5_findGets 97 = .ok (.iinc 3 1, 3) := by decide +kernel
theorem dX5_findGets_100 : decode cX5_findGets 100 = .ok (.goto (-98), 3) := by decide +kernel
theorem dX5_findGets_103 : decode cX5_findGets 103 = .ok (.return_, 1) := by decide +kernel
set_option maxRecDepth 20000 in
theorem ggX5_two_X5_isMan : GoodIn wsX5_two wsX5_isMan := goodIn_r _ [6, 7, 85, 86, 87, 88, 89, 90, 91, 92, 93, 94, 95, 96, 97, 98, 99, 100, 101, 102, 103, 104, 105, 106, 107, 108, 109, 110, 111] (by decide +kernel) (by decide +kernel)
set_option maxRecDepth 20000 in
theorem gX5_two_X5_isMan : GoodIn wsX5_two (wsV RX5 129 RX5 yX5_isMan wsX5_isMan) := goodIn_app (goodIn_of _ (by decide +kernel)) ggX5_two_X5_isMan
set_option maxRecDepth 20000 in
theorem ggX5_two_X5_canTell : GoodIn wsX5_two wsX5_canTell := goodIn_r _ [11, 12, 13, 14, 2, 3, 4, 5, 6, 7, 85, 86, 87, 88, 89, 90, 91, 92, 93, 94, 95, 96, 97, 98, 99, 100, 101, 102, 103, 104, 105, 106, 107, 108, 109, 110, 111] (by decide +kernel) (by decide +kernel)
set_option maxRecDepth 20000 in
theorem gX5_two_X5_canTell : GoodIn wsX5_two (wsV RX5 123 RX5 yX5_canTell wsX5_canTell) := goodIn_app (goodIn_of _ (by decide +kernel)) ggX5_two_X5_canTell
set_option maxRecDepth 20000 in
theorem ggX5_two_X5_no : GoodIn wsX5_two wsX5_no := goodIn_r _ [18, 19, 85, 86, 87, 88, 89, 90, 91, 92, 93, 94, 95, 96, 97, 98, 99, 100, 101, 102, 103, 104, 105, 106, 107, 108, 109, 110, 111] (by decide +kernel) (by decide +kernel)
set_option maxRecDepth 20000 in
theorem gX5_two_X5_no : GoodIn wsX5_two (wsV RX5 75 RX5 yX5_no wsX5_no) := goodIn_app (goodIn_of _ (by decide +kernel)) ggX5_two_X5_no
set_option maxRecDepth 20000 in
theorem ggX5_two_X5_findGets : GoodIn wsX5_two wsX5_findGets := goodIn_r _ [23, 1, 13, 14, 24, 25, 26, 5, 27, 28, 29, 30, 31, 32, 33, 34, 35, 36, 37, 12, 38, 7, 39, 40, 41, 42, 43, 44, 45, 46, 47, 48, 49, 50, 51, 52, 53, 8, 9, 10, 11, 2, 3, 4, 6, 54, 55, 56, 57, 58, 59, 60, 61, 62, 63, 64, 65, 66, 67, 68, 69, 70, 71, 72, 73, 74, 75, 76, 77, 78, 79, 80, 81, 82, 83, 84, 85, 86, 87, 88, 89, 90, 91, 92, 93, 94, 95, 96, 97, 98, 99, 100, 101, 102, 103, 104, 105, 106, 107, 108, 109, 110, 111] (by decide +kernel) (by decide +kernel)
set_option maxRecDepth 20000 in
theorem gX5_two_X5_findGets : GoodIn wsX5_two (wsV RX5 248 RX5 yX5_findGets wsX5_findGets) := goodIn_app (goodIn_of _ (by decide +kernel)) ggX5_two_X5_findGets
theorem dX5_two_0 : decode cX5_two 0 = .ok (.aload_n 0, 1) := by decide +kernel
theorem dX5_two_1 : decode cX5_two 1 = .ok (.iload_n 1, 1) := by decide +kernel
theorem dX5_two_2 : decode cX5_two 2 = .ok (.invokevirtual 129, 3) := by decide +kernel
theorem dX5_two_5 : decode cX5_two 5 = .ok (.ifCond .eq 16, 3) := by decide +kernel
theorem dX5_two_8 : decode cX5_two 8 = .ok (.aload_n 0, 1) := by decide +kernel
theorem dX5_two_9 : decode cX5_two 9 = .ok (.iload_n 2, 1) := by decide +kernel
theorem dX5_two_10 : decode cX5_two 10 = .ok (.invokevirtual 129, 3) := by decide +kernel
theorem dX5_two_13 : decode cX5_two 13 = .ok (.ifCond .eq 8, 3) := by decide +kernel
theorem dX5_two_16 : decode cX5_two 16 = .ok (.iload_n 1, 1) := by decide +kernel
theorem dX5_two_17 : decode cX5_two 17 = .ok (.iload_n 2, 1) := by decide +kernel
theorem dX5_two_18 : decode cX5_two 18 = .ok (.if_icmp .ne 7, 3) := by decide +kernel
theorem dX5_two_21 : decode cX5_two 21 = .ok (.iconst (-1), 1) := by decide +kernel
theorem dX5_two_22 : decode cX5_two 22 = .ok (.goto 25, 3) := by decide +kernel
theorem dX5_two_25 : decode cX5_two 25 = .ok (.aload_n 0, 1) := by decide +kernel
theorem dX5_two_26 : decode cX5_two 26 = .ok (.iload_n 1, 1) := by decide +kernel
theorem dX5_two_27 : decode cX5_two 27 = .ok (.invokevirtual 123, 3) := by decide +kernel
theorem dX5_two_30 : decode cX5_two 30 = .ok (.ifCond .eq 11, 3) := by decide +kernel
theorem dX5_two_33 : decode cX5_two 33 = .ok (.aload_n 0, 1) := by decide +kernel
theorem dX5_two_34 : decode cX5_two 34 = .ok (.iload_n 2, 1) := by decide +kernel
theorem dX5_two_35 : decode cX5_two 35 = .ok (.invokevirtual 123, 3) := by decide +kernel
theorem dX5_two_38 : decode cX5_two 38 = .ok (.ifCond .ne 8, 3) := by decide +kernel
theorem dX5_two_41 : decode cX5_two 41 = .ok (.bipush (-3), 2) := by decide +kernel
theorem dX5_two_43 : decode cX5_two 43 = .ok (.goto 4, 3) := by decide +kernel
theorem dX5_two_46 : decode cX5_two 46 = .ok (.iconst 0, 1) := by decide +kernel
theorem dX5_two_47 : decode cX5_two 47 = .ok (.istore_n 3, 1) := by decide +kernel
theorem dX5_two_48 : decode cX5_two 48 = .ok (.iload_n 3, 1) := by decide +kernel
theorem dX5_two_49 : decode cX5_two 49 = .ok (.ifCond .eq 9, 3) := by decide +kernel
theorem dX5_two_52 : decode cX5_two 52 = .ok (.aload_n 0, 1) := by decide +kernel
theorem dX5_two_53 : decode cX5_two 53 = .ok (.iload_n 3, 1) := by decide +kernel
theorem dX5_two_54 : decode cX5_two 54 = .ok (.invokevirtual 75, 3) := by decide +kernel
theorem dX5_two_57 : decode cX5_two 57 = .ok (.ireturn, 1) := by decide +kernel
theorem dX5_two_58 : decode cX5_two 58 = .ok (.aload_n 0, 1) := by decide +kernel
theorem dX5_two_59 : decode cX5_two 59 = .ok (.iload_n 1, 1) := by decide +kernel
theorem dX5_two_60 : decode cX5_two 60 = .ok (.iload_n 2, 1) := by decide +kernel
theorem dX5_two_61 : decode cX5_two 61 = .ok (.invokevirtual 248, 3) := by decide +kernel
theorem dX5_two_64 : decode cX5_two 64 = .ok (.iconst 0, 1) := by decide +kernel
theorem dX5_two_65 : decode cX5_two 65 = .ok (.istore 4, 2) := by decide +kernel
theorem dX5_two_67 : decode cX5_two 67 = .ok (.iload 4, 2) := by decide +kernel
theorem dX5_two_69 : decode cX5_two 69 = .ok (.iconst 4, 1) := by decide +kernel
theorem dX5_two_70 : decode cX5_two 70 = .ok (.if_icmp .ge 72, 3) := by decide +kernel
theorem dX5_two_73 : decode cX5_two 73 = .ok (.aload_n 0, 1) := by decide +kernel
theorem dX5_two_74 : decode cX5_two 74 = .ok (.getfield 52, 3) := by decide +kernel
theorem dX5_two_77 : decode cX5_two 77 = .ok (.iconst 2, 1) := by decide +kernel
theorem dX5_two_78 : decode cX5_two 78 = .ok (.iload 4, 2) := by decide +kernel
theorem dX5_two_80 : decode cX5_two 80 = .ok (.iconst 2, 1) := by decide +kernel
theorem dX5_two_81 : decode cX5_two 81 = .ok (.ixor, 1) := by decide +kernel
theorem dX5_two_82 : decode cX5_two 82 = .ok (.imul, 1) := by decide +kernel
theorem dX5_two_83 : decode cX5_two 83 = .ok (.iaload, 1) := by decide +kernel
theorem dX5_two_84 : decode cX5_two 84 = .ok (.aload_n 0, 1) := by decide +kernel
theorem dX5_two_85 : decode cX5_two 85 = .ok (.getfield 52, 3) := by decide +kernel
theorem dX5_two_88 : decode cX5_two 88 = .ok (.iconst 2, 1) := by decide +kernel
theorem dX5_two_89 : decode cX5_two 89 = .ok (.iload 4, 2) := by decide +kernel
theorem dX5_two_91 : decode cX5_two 91 = .ok (.imul, 1) := by decide +kernel
theorem dX5_two_92 : decode cX5_two 92 = .ok (.iaload, 1) := by decide +kernel
theorem dX5_two_93 : decode cX5_two 93 = .ok (.if_icmp .gt 43, 3) := by decide +kernel
theorem dX5_two_96 : decode cX5_two 96 = .ok (.aload_n 0, 1) := by decide +kernel
theorem dX5_two_97 : decode cX5_two 97 = .ok (.getfield 52, 3) := by decide +kernel
theorem dX5_two_100 : decode cX5_two 100 = .ok (.iconst 2, 1) := by decide +kernel
theorem dX5_two_101 : decode cX5_two 101 = .ok (.iload 4, 2) := by decide +kernel
theorem dX5_two_103 : decode cX5_two 103 = .ok (.iconst 1, 1) := by decide +kernel
theorem dX5_two_104 : decode cX5_two 104 = .ok (.ixor, 1) := by decide +kernel
theorem dX5_two_105 : decode cX5_two 105 = .ok (.imul, 1) := by decide +kernel
theorem dX5_two_106 : decode cX5_two 106 = .ok (.iconst 1, 1) := by decide +kernel
theorem dX5_two_107 : decode cX5_two 107 = .ok (.iadd, 1) := by decide +kernel
theorem dX5_two_108 : decode cX5_two 108 = .ok (.iaload, 1) := by decide +kernel
theorem dX5_two_109 : decode cX5_two 109 = .ok (.aload_n 0, 1) := by decide +kernel
theorem dX5_two_110 : decode cX5_two 110 = .ok (.getfield 52, 3) := by decide +kernel
theorem dX5_two_113 : decode cX5_two 113 = .ok (.iconst 2, 1) := by decide +kernel
theorem dX5_two_114 : decode cX5_two 114 = .ok (.iload 4, 2) := by decide +kernel
theorem dX5_two_116 : decode cX5_two 116 = .ok (.imul, 1) := by decide +kernel
theorem dX5_two_117 : decode cX5_two 117 = .ok (.iconst 1, 1) := by decide +kernel
theorem dX5_two_118 : decode cX5_two 118 = .ok (.iadd, 1) := by decide +kernel
theorem dX5_two_119 : decode cX5_two 119 = .ok (.iaload, 1) := by decide +kernel
theorem dX5_two_120 : decode cX5_two 120 = .ok (.if_icmp .gt 16, 3) := by decide +kernel
theorem dX5_two_123 : decode cX5_two 123 = .ok (.bipush 10, 2) := by decide +kernel
theorem dX5_two_125 : decode cX5_two 125 = .ok (.iload 4, 2) := by decide +kernel
theorem dX5_two_127 : decode cX5_two 127 = .ok (.iconst 2, 1) := by decide +kernel
theorem dX5_two_128 : decode cX5_two 128 = .ok (.idiv, 1) := by decide +kernel
theorem dX5_two_129 : decode cX5_two 129 = .ok (.imul, 1) := by decide +kernel
theorem dX5_two_130 : decode cX5_two 130 = .ok (.iload 4, 2) := by decide +kernel
theorem dX5_two_132 : decode cX5_two 132 = .ok (.iconst 2, 1) := by decide +kernel
theorem dX5_two_133 : decode cX5_two 133 = .ok (.irem, 1) := by decide +kernel
theorem dX5_two_134 : decode cX5_two 134 = .ok (.iadd, 1) := by decide +kernel
theorem dX5_two_135 : decode cX5_two 135 = .ok (.ireturn, 1) := by decide +kernel
theorem dX5_two_136 : decode cX5_two 136 = .ok (.iinc 4 1, 3) := by decide +kernel
theorem dX5_two_139 : decode cX5_two 139 = .ok (.goto (-72), 3) := by decide +kernel
theorem dX5_two_142 : decode cX5_two 142 = .ok (.bipush (-9), 2) := by decide +kernel
theorem dX5_two_144 : decode cX5_two 144 = .ok (.ireturn, 1) := by decide +kernel
theorem dX5_divisor_0 : decode cX5_divisor 0 = .ok (.lload_n 0, 1) := by decide +kernel
theorem dX5_divisor_1 : decode cX5_divisor 1 = .ok (.lstore 4, 2) := by decide +kernel
theorem dX5_divisor_3 : decode cX5_divisor 3 = .ok (.lload_n 2, 1) := by decide +kernel
theorem dX5_divisor_4 : decode cX5_divisor 4 = .ok (.lstore 6, 2) := by decide +kernel
theorem dX5_divisor_6 : decode cX5_divisor 6 = .ok (.lload 6, 2) := by decide +kernel
theorem dX5_divisor_8 : decode cX5_divisor 8 = .ok (.lconst 0, 1) := by decide +kernel
theorem dX5_divisor_9 : decode cX5_divisor 9 = .ok (.lcmp, 1) := by decide +kernel
theorem dX5_divisor_10 : decode cX5_divisor 10 = .ok (.ifCond .eq 21, 3) := by decide +kernel
theorem dX5_divisor_13 : decode cX5_divisor 13 = .ok (.lload 4, 2) := by decide +kernel
theorem dX5_divisor_15 : decode cX5_divisor 15 = .ok (.lload 6, 2) := by decide +kernel
theorem dX5_divisor_17 : decode cX5_divisor 17 = .ok (.lrem, 1) := by decide +kernel
theorem dX5_divisor_18 : decode cX5_divisor 18 = .ok (.lstore 8, 2) := by decide +kernel
theorem dX5_divisor_20 : decode cX5_divisor 20 = .ok (.lload 6, 2) := by decide +kernel
theorem dX5_divisor_22 : decode cX5_divisor 22 = .ok (.lstore 4, 2) := by decide +kernel
theorem dX5_divisor_24 : decode cX5_divisor 24 = .ok (.lload 8, 2) := by decide +kernel
theorem dX5_divisor_26 : decode cX5_divisor 26 = .ok (.lstore 6, 2) := by decide +kernel
theorem dX5_divisor_28 : decode cX5_divisor 28 = .ok (.goto (-22), 3) := by decide +kernel
theorem dX5_divisor_31 : decode cX5_divisor 31 = .ok (.lload 4, 2) := by decide +kernel
theorem dX5_divisor_33 : decode cX5_divisor 33 = .ok (.lreturn, 1) := by decide +kernel
set_option maxRecDepth 20000 in
theorem ggX5_partOf_X5_divisor : GoodIn wsX5_partOf wsX5_divisor := goodIn_r _ [4] (by decide +kernel) (by decide +kernel)
set_option maxRecDepth 20000 in
theorem gX5_partOf_X5_divisor : GoodIn wsX5_partOf (va_wsS RX5 252 yX5_divisor wsX5_divisor) := goodIn_app (goodIn_of _ (by decide +kernel)) ggX5_partOf_X5_divisor
theorem dX5_partOf_0 : decode cX5_partOf 0 = .ok (.iload 4, 2) := by decide +kernel
theorem dX5_partOf_2 : decode cX5_partOf 2 = .ok (.ifCond .ne 7, 3) := by decide +kernel
theorem dX5_partOf_5 : decode cX5_partOf 5 = .ok (.lload_n 0, 1) := by decide +kernel
theorem dX5_partOf_6 : decode cX5_partOf 6 = .ok (.goto 4, 3) := by decide +kernel
theorem dX5_partOf_9 : decode cX5_partOf 9 = .ok (.lload_n 2, 1) := by decide +kernel
theorem dX5_partOf_10 : decode cX5_partOf 10 = .ok (.lload_n 0, 1) := by decide +kernel
theorem dX5_partOf_11 : decode cX5_partOf 11 = .ok (.lload_n 2, 1) := by decide +kernel
theorem dX5_partOf_12 : decode cX5_partOf 12 = .ok (.invokestatic 252, 3) := by decide +kernel
theorem dX5_partOf_15 : decode cX5_partOf 15 = .ok (.ldiv, 1) := by decide +kernel
theorem dX5_partOf_16 : decode cX5_partOf 16 = .ok (.lreturn, 1) := by decide +kernel
set_option maxRecDepth 20000 in
theorem ggX5_storms_X5_held : GoodIn wsX5_storms wsX5_held := goodIn_r _ [7] (by decide +kernel) (by decide +kernel)
set_option maxRecDepth 20000 in
theorem gX5_storms_X5_held : GoodIn wsX5_storms (va_wsS RX5 179 yX5_held wsX5_held) := goodIn_app (goodIn_of _ (by decide +kernel)) ggX5_storms_X5_held
set_option maxRecDepth 20000 in
theorem ggX5_storms_X5_rises : GoodIn wsX5_storms wsX5_rises := goodIn_r _ [11, 1, 3, 2, 12, 13, 14, 6, 15, 16, 17, 18, 19, 20, 21, 22, 23, 24, 25, 26, 27, 28, 29, 30, 31, 32, 33, 34, 35, 36, 37, 38, 39, 40, 41, 42, 43, 44, 45] (by decide +kernel) (by decide +kernel)
set_option maxRecDepth 20000 in
theorem gX5_storms_X5_rises : GoodIn wsX5_storms (wsV RX5 185 RX5 yX5_rises wsX5_rises) := goodIn_app (goodIn_of _ (by decide +kernel)) ggX5_storms_X5_rises
theorem dX5_storms_0 : decode cX5_storms 0 = .ok (.iconst 0, 1) := by decide +kernel
theorem dX5_storms_1 : decode cX5_storms 1 = .ok (.istore_n 1, 1) := by decide +kernel
theorem dX5_storms_2 : decode cX5_storms 2 = .ok (.iload_n 1, 1) := by decide +kernel
theorem dX5_storms_3 : decode cX5_storms 3 = .ok (.aload_n 0, 1) := by decide +kernel
theorem dX5_storms_4 : decode cX5_storms 4 = .ok (.getfield 58, 3) := by decide +kernel
theorem dX5_storms_7 : decode cX5_storms 7 = .ok (.if_icmp .ge 42, 3) := by decide +kernel
theorem dX5_storms_10 : decode cX5_storms 10 = .ok (.aload_n 0, 1) := by decide +kernel
theorem dX5_storms_11 : decode cX5_storms 11 = .ok (.getfield 16, 3) := by decide +kernel
theorem dX5_storms_14 : decode cX5_storms 14 = .ok (.iload_n 1, 1) := by decide +kernel
theorem dX5_storms_15 : decode cX5_storms 15 = .ok (.aload_n 0, 1) := by decide +kernel
theorem dX5_storms_16 : decode cX5_storms 16 = .ok (.getfield 19, 3) := by decide +kernel
theorem dX5_storms_19 : decode cX5_storms 19 = .ok (.iload_n 1, 1) := by decide +kernel
theorem dX5_storms_20 : decode cX5_storms 20 = .ok (.iaload, 1) := by decide +kernel
theorem dX5_storms_21 : decode cX5_storms 21 = .ok (.ifCond .le 7, 3) := by decide +kernel
theorem dX5_storms_24 : decode cX5_storms 24 = .ok (.iconst 0, 1) := by decide +kernel
theorem dX5_storms_25 : decode cX5_storms 25 = .ok (.goto 17, 3) := by decide +kernel
theorem dX5_storms_28 : decode cX5_storms 28 = .ok (.aload_n 0, 1) := by decide +kernel
theorem dX5_storms_29 : decode cX5_storms 29 = .ok (.getfield 16, 3) := by decide +kernel
theorem dX5_storms_32 : decode cX5_storms 32 = .ok (.iload_n 1, 1) := by decide +kernel
theorem dX5_storms_33 : decode cX5_storms 33 = .ok (.iaload, 1) := by decide +kernel
theorem dX5_storms_34 : decode cX5_storms 34 = .ok (.iconst 2, 1) := by decide +kernel
theorem dX5_storms_35 : decode cX5_storms 35 = .ok (.iadd, 1) := by decide +kernel
theorem dX5_storms_36 : decode cX5_storms 36 = .ok (.iconst 0, 1) := by decide +kernel
theorem dX5_storms_37 : decode cX5_storms 37 = .ok (.bipush 99, 2) := by decide +kernel
theorem dX5_storms_39 : decode cX5_storms 39 = .ok (.invokestatic 179, 3) := by decide +kernel
theorem dX5_storms_42 : decode cX5_storms 42 = .ok (.iastore, 1) := by decide +kernel
theorem dX5_storms_43 : decode cX5_storms 43 = .ok (.iinc 1 1, 3) := by decide +kernel
theorem dX5_storms_46 : decode cX5_storms 46 = .ok (.goto (-44), 3) := by decide +kernel
theorem dX5_storms_49 : decode cX5_storms 49 = .ok (.aload_n 0, 1) := by decide +kernel
theorem dX5_storms_50 : decode cX5_storms 50 = .ok (.invokevirtual 185, 3) := by decide +kernel
theorem dX5_storms_53 : decode cX5_storms 53 = .ok (.pop, 1) := by decide +kernel
theorem dX5_storms_54 : decode cX5_storms 54 = .ok (.return_, 1) := by decide +kernel
set_option maxRecDepth 20000 in
theorem ggX5_storm_X5_isShip : GoodIn wsX5_storm wsX5_isShip := goodIn_r _ [6, 7, 81, 82, 83, 84, 85, 86, 87, 88, 89, 90, 91, 92, 93, 94, 95, 96, 97, 98, 99, 100, 101, 102, 103, 104, 105, 106, 107] (by decide +kernel) (by decide +kernel)
set_option maxRecDepth 20000 in
theorem gX5_storm_X5_isShip : GoodIn wsX5_storm (wsV RX5 107 RX5 yX5_isShip wsX5_isShip) := goodIn_app (goodIn_of _ (by decide +kernel)) ggX5_storm_X5_isShip
set_option maxRecDepth 20000 in
theorem ggX5_storm_X5_isIn : GoodIn wsX5_storm wsX5_isIn := goodIn_r _ [10] (by decide +kernel) (by decide +kernel)
set_option maxRecDepth 20000 in
theorem gX5_storm_X5_isIn : GoodIn wsX5_storm (va_wsS RX5 86 yX5_isIn wsX5_isIn) := goodIn_app (goodIn_of _ (by decide +kernel)) ggX5_storm_X5_isIn
set_option maxRecDepth 20000 in
theorem ggX5_storm_X5_lowestOf : GoodIn wsX5_storm wsX5_lowestOf := goodIn_r _ [14, 15, 16, 81, 82, 83, 84, 85, 86, 87, 88, 89, 90, 91, 92, 93, 94, 95, 96, 97, 98, 99, 100, 101, 102, 103, 104, 105, 106, 107] (by decide +kernel) (by decide +kernel)
set_option maxRecDepth 20000 in
theorem gX5_storm_X5_lowestOf : GoodIn wsX5_storm (wsV RX5 256 RX5 yX5_lowestOf wsX5_lowestOf) := goodIn_app (goodIn_of _ (by decide +kernel)) ggX5_storm_X5_lowestOf
set_option maxRecDepth 20000 in
theorem ggX5_storm_X5_thinks : GoodIn wsX5_storm wsX5_thinks := goodIn_r _ [20, 21, 22, 23, 5, 24, 25, 26, 27, 28, 1, 29, 30, 31, 32, 7, 33, 34, 35, 36, 37, 38, 39, 40, 41, 42, 43, 44, 81, 82, 83, 84, 85, 86, 87, 88, 89, 90, 91, 92, 93, 94, 95, 96, 97, 98, 99, 100, 101, 102, 103, 104, 105, 106, 107] (by decide +kernel) (by decide +kernel)
set_option maxRecDepth 20000 in
theorem gX5_storm_X5_thinks : GoodIn wsX5_storm (wsV RX5 209 RX5 yX5_thinks wsX5_thinks) := goodIn_app (goodIn_of _ (by decide +kernel)) ggX5_storm_X5_thinks
set_option maxRecDepth 20000 in
theorem ggX5_storm_X5_has : GoodIn wsX5_storm wsX5_has := goodIn_r _ [47] (by decide +kernel) (by decide +kernel)
set_option maxRecDepth 20000 in
theorem gX5_storm_X5_has : GoodIn wsX5_storm (va_wsS RX5 260 yX5_has wsX5_has) := goodIn_app (goodIn_of _ (by decide +kernel)) ggX5_storm_X5_has
set_option maxRecDepth 20000 in
theorem ggX5_storm_X5_storms : GoodIn wsX5_storm wsX5_storms := goodIn_r _ [51, 7, 28, 1, 52, 53, 5, 54, 55, 56, 57, 58, 59, 60, 61, 62, 27, 35, 34, 81, 82, 83, 84, 85, 86, 87, 88, 89, 90, 91, 92, 93, 94, 95, 96, 97, 98, 99, 100, 101, 102, 103, 104, 105, 106, 107] (by decide +kernel) (by decide +kernel)
set_option maxRecDepth 20000 in
theorem gX5_storm_X5_storms : GoodIn wsX5_storm (wsV RX5 263 RX5 yX5_storms wsX5_storms) := goodIn_app (goodIn_of _ (by decide +kernel)) ggX5_storm_X5_storms
set_option maxRecDepth 20000 in
theorem ggX5_storm_X5_goesTide : GoodIn wsX5_storm wsX5_goesTide := goodIn_r _ [66, 35, 33, 1, 32, 31, 7, 67, 68, 69, 5, 70, 29, 52, 53, 54, 81, 82, 83, 84, 85, 86, 87, 88, 89, 90, 91, 92, 93, 94, 95, 96, 97, 98, 99, 100, 101, 102, 103, 104, 105, 106, 107] (by decide +kernel) (by decide +kernel)
set_option maxRecDepth 20000 in
theorem gX5_storm_X5_goesTide : GoodIn wsX5_storm (wsV RX5 191 RX5 yX5_goesTide wsX5_goesTide) := goodIn_app (goodIn_of _ (by decide +kernel)) ggX5_storm_X5_goesTide
set_option maxRecDepth 20000 in
theorem ggX5_storm_X5_forgets : GoodIn wsX5_storm wsX5_forgets := goodIn_r _ [74, 21, 22, 23, 5, 24, 25, 26, 27, 28, 1, 29, 30, 31, 32, 7, 33, 34, 35, 36, 37, 38, 39, 40, 41, 42, 43, 44, 81, 82, 83, 84, 85, 86, 87, 88, 89, 90, 91, 92, 93, 94, 95, 96, 97, 98, 99, 100, 101, 102, 103, 104, 105, 106, 107] (by decide +kernel) (by decide +kernel)
set_option maxRecDepth 20000 in
theorem gX5_storm_X5_forgets : GoodIn wsX5_storm (wsV RX5 212 RX5 yX5_forgets wsX5_forgets) := goodIn_app (goodIn_of _ (by decide +kernel)) ggX5_storm_X5_forgets
set_option maxRecDepth 20000 in
theorem ggX5_storm_X5_partOf : GoodIn wsX5_storm wsX5_partOf := goodIn_r _ [77, 78, 79, 5, 80] (by decide +kernel) (by decide +kernel)
set_option maxRecDepth 20000 in
theorem gX5_storm_X5_partOf : GoodIn wsX5_storm (va_wsS RX5 266 yX5_partOf wsX5_partOf) := goodIn_app (goodIn_of _ (by decide +kernel)) ggX5_storm_X5_partOf
theorem dX5_storm_0 : decode cX5_storm 0 = .ok (.aload_n 0, 1) := by decide +kernel
theorem dX5_storm_1 : decode cX5_storm 1 = .ok (.iload_n 1, 1) := by decide +kernel
theorem dX5_storm_2 : decode cX5_storm 2 = .ok (.invokevirtual 107, 3) := by decide +kernel
theorem dX5_storm_5 : decode cX5_storm 5 = .ok (.ifCond .ne 7, 3) := by decide +kernel
theorem dX5_storm_8 : decode cX5_storm 8 = .ok (.iconst (-1), 1) := by decide +kernel
theorem dX5_storm_9 : decode cX5_storm 9 = .ok (.goto 50, 3) := by decide +kernel
theorem dX5_storm_12 : decode cX5_storm 12 = .ok (.iload_n 2, 1) := by decide +kernel
theorem dX5_storm_13 : decode cX5_storm 13 = .ok (.ifCond .lt 8, 3) := by decide +kernel
theorem dX5_storm_16 : decode cX5_storm 16 = .ok (.iload_n 3, 1) := by decide +kernel
theorem dX5_storm_17 : decode cX5_storm 17 = .ok (.iconst 2, 1) := by decide +kernel
theorem dX5_storm_18 : decode cX5_storm 18 = .ok (.if_icmp .ge 8, 3) := by decide +kernel
theorem dX5_storm_21 : decode cX5_storm 21 = .ok (.bipush (-4), 2) := by decide +kernel
theorem dX5_storm_23 : decode cX5_storm 23 = .ok (.goto 36, 3) := by decide +kernel
theorem dX5_storm_26 : decode cX5_storm 26 = .ok (.iload_n 2, 1) := by decide +kernel
theorem dX5_storm_27 : decode cX5_storm 27 = .ok (.bipush 7, 2) := by decide +kernel
theorem dX5_storm_29 : decode cX5_storm 29 = .ok (.if_icmp .gt 9, 3) := by decide +kernel
theorem dX5_storm_32 : decode cX5_storm 32 = .ok (.iload_n 3, 1) := by decide +kernel
theorem dX5_storm_33 : decode cX5_storm 33 = .ok (.bipush 20, 2) := by decide +kernel
theorem dX5_storm_35 : decode cX5_storm 35 = .ok (.if_icmp .le 8, 3) := by decide +kernel
theorem dX5_storm_38 : decode cX5_storm 38 = .ok (.bipush (-6), 2) := by decide +kernel
theorem dX5_storm_40 : decode cX5_storm 40 = .ok (.goto 19, 3) := by decide +kernel
theorem dX5_storm_43 : decode cX5_storm 43 = .ok (.iload 4, 2) := by decide +kernel
theorem dX5_storm_45 : decode cX5_storm 45 = .ok (.iconst 0, 1) := by decide +kernel
theorem dX5_storm_46 : decode cX5_storm 46 = .ok (.iconst 1, 1) := by decide +kernel
theorem dX5_storm_47 : decode cX5_storm 47 = .ok (.invokestatic 86, 3) := by decide +kernel
theorem dX5_storm_50 : decode cX5_storm 50 = .ok (.ifCond .ne 8, 3) := by decide +kernel
theorem dX5_storm_53 : decode cX5_storm 53 = .ok (.bipush (-2), 2) := by decide +kernel
theorem dX5_storm_55 : decode cX5_storm 55 = .ok (.goto 4, 3) := by decide +kernel
theorem dX5_storm_58 : decode cX5_storm 58 = .ok (.iconst 0, 1) := by decide +kernel
theorem dX5_storm_59 : decode cX5_storm 59 = .ok (.istore 5, 2) := by decide +kernel
theorem dX5_storm_61 : decode cX5_storm 61 = .ok (.iload 5, 2) := by decide +kernel
theorem dX5_storm_63 : decode cX5_storm 63 = .ok (.ifCond .eq 10, 3) := by decide +kernel
theorem dX5_storm_66 : decode cX5_storm 66 = .ok (.aload_n 0, 1) := by decide +kernel
theorem dX5_storm_67 : decode cX5_storm 67 = .ok (.iload 5, 2) := by decide +kernel
theorem dX5_storm_69 : decode cX5_storm 69 = .ok (.invokevirtual 256, 3) := by decide +kernel
theorem dX5_storm_72 : decode cX5_storm 72 = .ok (.lreturn, 1) := by decide +kernel
theorem dX5_storm_73 : decode cX5_storm 73 = .ok (.lconst 0, 1) := by decide +kernel
theorem dX5_storm_74 : decode cX5_storm 74 = .ok (.lstore 6, 2) := by decide +kernel
theorem dX5_storm_76 : decode cX5_storm 76 = .ok (.lconst 1, 1) := by decide +kernel
theorem dX5_storm_77 : decode cX5_storm 77 = .ok (.lstore 8, 2) := by decide +kernel
theorem dX5_storm_79 : decode cX5_storm 79 = .ok (.iconst 0, 1) := by decide +kernel
theorem dX5_storm_80 : decode cX5_storm 80 = .ok (.istore 10, 2) := by decide +kernel
theorem dX5_storm_82 : decode cX5_storm 82 = .ok (.iload 10, 2) := by decide +kernel
theorem dX5_storm_84 : decode cX5_storm 84 = .ok (.iload_n 2, 1) := by decide +kernel
theorem dX5_storm_85 : decode cX5_storm 85 = .ok (.if_icmp .ge 16, 3) := by decide +kernel
theorem dX5_storm_88 : decode cX5_storm 88 = .ok (.lload 8, 2) := by decide +kernel
theorem dX5_storm_90 : decode cX5_storm 90 = .ok (.iload_n 3, 1) := by decide +kernel
theorem dX5_storm_91 : decode cX5_storm 91 = .ok (.i2l, 1) := by decide +kernel
theorem dX5_storm_92 : decode cX5_storm 92 = .ok (.lmul, 1) := by decide +kernel
theorem dX5_storm_93 : decode cX5_storm 93 = .ok (.lstore 8, 2) := by decide +kernel
theorem dX5_storm_95 : decode cX5_storm 95 = .ok (.iinc 10 1, 3) := by decide +kernel
theorem dX5_storm_98 : decode cX5_storm 98 = .ok (.goto (-16), 3) := by decide +kernel
theorem dX5_storm_101 : decode cX5_storm 101 = .ok (.iconst 0, 1) := by decide +kernel
theorem dX5_storm_102 : decode cX5_storm 102 = .ok (.istore 10, 2) := by decide +kernel
theorem dX5_storm_104 : decode cX5_storm 104 = .ok (.iload 10, 2) := by decide +kernel
theorem dX5_storm_106 : decode cX5_storm 106 = .ok (.iconst 1, 1) := by decide +kernel
theorem dX5_storm_107 : decode cX5_storm 107 = .ok (.iload_n 2, 1) := by decide +kernel
theorem dX5_storm_108 : decode cX5_storm 108 = .ok (.ishl, 1) := by decide +kernel
theorem dX5_storm_109 : decode cX5_storm 109 = .ok (.if_icmp .ge 96, 3) := by decide +kernel
theorem dX5_storm_112 : decode cX5_storm 112 = .ok (.aload_n 0, 1) := by decide +kernel
theorem dX5_storm_113 : decode cX5_storm 113 = .ok (.invokevirtual 209, 3) := by decide +kernel
theorem dX5_storm_116 : decode cX5_storm 116 = .ok (.lconst 1, 1) := by decide +kernel
theorem dX5_storm_117 : decode cX5_storm 117 = .ok (.lstore 11, 2) := by decide +kernel
theorem dX5_storm_119 : decode cX5_storm 119 = .ok (.iconst 0, 1) := by decide +kernel
theorem dX5_storm_120 : decode cX5_storm 120 = .ok (.istore 13, 2) := by decide +kernel
theorem dX5_storm_122 : decode cX5_storm 122 = .ok (.iload 13, 2) := by decide +kernel
theorem dX5_storm_124 : decode cX5_storm 124 = .ok (.iload_n 2, 1) := by decide +kernel
theorem dX5_storm_125 : decode cX5_storm 125 = .ok (.if_icmp .ge 50, 3) := by decide +kernel
theorem dX5_storm_128 : decode cX5_storm 128 = .ok (.lload 11, 2) := by decide +kernel
theorem dX5_storm_130 : decode cX5_storm 130 = .ok (.iload 10, 2) := by decide +kernel
theorem dX5_storm_132 : decode cX5_storm 132 = .ok (.iload 13, 2) := by decide +kernel
theorem dX5_storm_134 : decode cX5_storm 134 = .ok (.invokestatic 260, 3) := by decide +kernel
theorem dX5_storm_137 : decode cX5_storm 137 = .ok (.ifCond .eq 7, 3) := by decide +kernel
theorem dX5_storm_140 : decode cX5_storm 140 = .ok (.lconst 1, 1) := by decide +kernel
theorem dX5_storm_141 : decode cX5_storm 141 = .ok (.goto 7, 3) := by decide +kernel
theorem dX5_storm_144 : decode cX5_storm 144 = .ok (.iload_n 3, 1) := by decide +kernel
theorem dX5_storm_145 : decode cX5_storm 145 = .ok (.iconst 1, 1) := by decide +kernel
theorem dX5_storm_146 : decode cX5_storm 146 = .ok (.isub, 1) := by decide +kernel
theorem dX5_storm_147 : decode cX5_storm 147 = .ok (.i2l, 1) := by decide +kernel
theorem dX5_storm_148 : decode cX5_storm 148 = .ok (.lmul, 1) := by decide +kernel
theorem dX5_storm_149 : decode cX5_storm 149 = .ok (.lstore 11, 2) := by decide +kernel
theorem dX5_storm_151 : decode cX5_storm 151 = .ok (.iload 10, 2) := by decide +kernel
theorem dX5_storm_153 : decode cX5_storm 153 = .ok (.iload 13, 2) := by decide +kernel
theorem dX5_storm_155 : decode cX5_storm 155 = .ok (.invokestatic 260, 3) := by decide +kernel
theorem dX5_storm_158 : decode cX5_storm 158 = .ok (.ifCond .eq 7, 3) := by decide +kernel
theorem dX5_storm_161 : decode cX5_storm 161 = .ok (.aload_n 0, 1) := by decide +kernel
theorem dX5_storm_162 : decode cX5_storm 162 = .ok (.invokevirtual 263, 3) := by decide +kernel
theorem dX5_storm_165 : decode cX5_storm 165 = .ok (.aload_n 0, 1) := by decide +kernel
theorem dX5_storm_166 : decode cX5_storm 166 = .ok (.invokevirtual 191, 3) := by decide +kernel
theorem dX5_storm_169 : decode cX5_storm 169 = .ok (.iinc 13 1, 3) := by decide +kernel
theorem dX5_storm_172 : decode cX5_storm 172 = .ok (.goto (-50), 3) := by decide +kernel
theorem dX5_storm_175 : decode cX5_storm 175 = .ok (.lload 6, 2) := by decide +kernel
theorem dX5_storm_177 : decode cX5_storm 177 = .ok (.aload_n 0, 1) := by decide +kernel
theorem dX5_storm_178 : decode cX5_storm 178 = .ok (.getfield 19, 3) := by decide +kernel
theorem dX5_storm_181 : decode cX5_storm 181 = .ok (.iload_n 1, 1) := by decide +kernel
theorem dX5_storm_182 : decode cX5_storm 182 = .ok (.iaload, 1) := by decide +kernel
theorem dX5_storm_183 : decode cX5_storm 183 = .ok (.ifCond .le 8, 3) := by decide +kernel
theorem dX5_storm_186 : decode cX5_storm 186 = .ok (.lload 11, 2) := by decide +kernel
theorem dX5_storm_188 : decode cX5_storm 188 = .ok (.goto 4, 3) := by decide +kernel
theorem dX5_storm_191 : decode cX5_storm 191 = .ok (.lconst 0, 1) := by decide +kernel
theorem dX5_storm_192 : decode cX5_storm 192 = .ok (.ladd, 1) := by decide +kernel
theorem dX5_storm_193 : decode cX5_storm 193 = .ok (.lstore 6, 2) := by decide +kernel
theorem dX5_storm_195 : decode cX5_storm 195 = .ok (.aload_n 0, 1) := by decide +kernel
theorem dX5_storm_196 : decode cX5_storm 196 = .ok (.invokevirtual 212, 3) := by decide +kernel
theorem dX5_storm_199 : decode cX5_storm 199 = .ok (.iinc 10 1, 3) := by decide +kernel
theorem dX5_storm_202 : decode cX5_storm 202 = .ok (.goto (-98), 3) := by decide +kernel
theorem dX5_storm_205 : decode cX5_storm 205 = .ok (.lload 6, 2) := by decide +kernel
theorem dX5_storm_207 : decode cX5_storm 207 = .ok (.lload 8, 2) := by decide +kernel
theorem dX5_storm_209 : decode cX5_storm 209 = .ok (.iload 4, 2) := by decide +kernel
theorem dX5_storm_211 : decode cX5_storm 211 = .ok (.invokestatic 266, 3) := by decide +kernel
theorem dX5_storm_214 : decode cX5_storm 214 = .ok (.lreturn, 1) := by decide +kernel
set_option maxRecDepth 20000 in
theorem ggX5_mean_X5_isIn : GoodIn wsX5_mean wsX5_isIn := goodIn_r _ [5] (by decide +kernel) (by decide +kernel)
set_option maxRecDepth 20000 in
theorem gX5_mean_X5_isIn : GoodIn wsX5_mean (va_wsS RX5 86 yX5_isIn wsX5_isIn) := goodIn_app (goodIn_of _ (by decide +kernel)) ggX5_mean_X5_isIn
set_option maxRecDepth 20000 in
theorem ggX5_mean_X5_lowestOf : GoodIn wsX5_mean wsX5_lowestOf := goodIn_r _ [9, 10, 11, 23, 24, 25, 26, 27, 28, 29, 30, 31, 32, 33, 34, 35, 36, 37, 38, 39, 40, 41, 42, 43, 44, 45, 46, 47, 48, 49] (by decide +kernel) (by decide +kernel)
set_option maxRecDepth 20000 in
theorem gX5_mean_X5_lowestOf : GoodIn wsX5_mean (wsV RX5 256 RX5 yX5_lowestOf wsX5_lowestOf) := goodIn_app (goodIn_of _ (by decide +kernel)) ggX5_mean_X5_lowestOf
set_option maxRecDepth 20000 in
theorem ggX5_mean_X5_allSins : GoodIn wsX5_mean wsX5_allSins := goodIn_r _ [15, 1, 16, 23, 24, 25, 26, 27, 28, 29, 30, 31, 32, 33, 34, 35, 36, 37, 38, 39, 40, 41, 42, 43, 44, 45, 46, 47, 48, 49] (by decide +kernel) (by decide +kernel)
set_option maxRecDepth 20000 in
theorem gX5_mean_X5_allSins : GoodIn wsX5_mean (wsV RX5 270 RX5 yX5_allSins wsX5_allSins) := goodIn_app (goodIn_of _ (by decide +kernel)) ggX5_mean_X5_allSins
set_option maxRecDepth 20000 in
theorem ggX5_mean_X5_partOf : GoodIn wsX5_mean wsX5_partOf := goodIn_r _ [19, 20, 21, 4, 22] (by decide +kernel) (by decide +kernel)
set_option maxRecDepth 20000 in
theorem gX5_mean_X5_partOf : GoodIn wsX5_mean (va_wsS RX5 266 yX5_partOf wsX5_partOf) := goodIn_app (goodIn_of _ (by decide +kernel)) ggX5_mean_X5_partOf
theorem dX5_mean_0 : decode cX5_mean 0 = .ok (.iload_n 1, 1) := by decide +kernel
theorem dX5_mean_1 : decode cX5_mean 1 = .ok (.iconst 0, 1) := by decide +kernel
theorem dX5_mean_2 : decode cX5_mean 2 = .ok (.iconst 1, 1) := by decide +kernel
theorem dX5_mean_3 : decode cX5_mean 3 = .ok (.invokestatic 86, 3) := by decide +kernel
theorem dX5_mean_6 : decode cX5_mean 6 = .ok (.ifCond .ne 10, 3) := by decide +kernel
theorem dX5_mean_9 : decode cX5_mean 9 = .ok (.aload_n 0, 1) := by decide +kernel
theorem dX5_mean_10 : decode cX5_mean 10 = .ok (.bipush (-2), 2) := by decide +kernel
theorem dX5_mean_12 : decode cX5_mean 12 = .ok (.invokevirtual 256, 3) := by decide +kernel
theorem dX5_mean_15 : decode cX5_mean 15 = .ok (.lreturn, 1) := by decide +kernel
theorem dX5_mean_16 : decode cX5_mean 16 = .ok (.aload_n 0, 1) := by decide +kernel
theorem dX5_mean_17 : decode cX5_mean 17 = .ok (.getfield 65, 3) := by decide +kernel
theorem dX5_mean_20 : decode cX5_mean 20 = .ok (.ifCond .ne 8, 3) := by decide +kernel
theorem dX5_mean_23 : decode cX5_mean 23 = .ok (.iload_n 1, 1) := by decide +kernel
theorem dX5_mean_24 : decode cX5_mean 24 = .ok (.i2l, 1) := by decide +kernel
theorem dX5_mean_25 : decode cX5_mean 25 = .ok (.goto 17, 3) := by decide +kernel
theorem dX5_mean_28 : decode cX5_mean 28 = .ok (.aload_n 0, 1) := by decide +kernel
theorem dX5_mean_29 : decode cX5_mean 29 = .ok (.invokevirtual 270, 3) := by decide +kernel
theorem dX5_mean_32 : decode cX5_mean 32 = .ok (.i2l, 1) := by decide +kernel
theorem dX5_mean_33 : decode cX5_mean 33 = .ok (.aload_n 0, 1) := by decide +kernel
theorem dX5_mean_34 : decode cX5_mean 34 = .ok (.getfield 65, 3) := by decide +kernel
theorem dX5_mean_37 : decode cX5_mean 37 = .ok (.i2l, 1) := by decide +kernel
theorem dX5_mean_38 : decode cX5_mean 38 = .ok (.iload_n 1, 1) := by decide +kernel
theorem dX5_mean_39 : decode cX5_mean 39 = .ok (.invokestatic 266, 3) := by decide +kernel
theorem dX5_mean_42 : decode cX5_mean 42 = .ok (.lreturn, 1) := by decide +kernel
set_option maxRecDepth 20000 in
theorem ggX5_isSoBy_X5_canTell : GoodIn wsX5_isSoBy wsX5_canTell := goodIn_r _ [10, 11, 3, 12, 13, 14, 15, 9, 16, 17, 73, 74, 75, 76, 77, 78, 79, 80, 81, 82, 83, 84, 85, 86, 87, 88, 89, 90, 91, 92, 93, 94, 95, 96, 97, 98, 99] (by decide +kernel) (by decide +kernel)
set_option maxRecDepth 20000 in
theorem gX5_isSoBy_X5_canTell : GoodIn wsX5_isSoBy (wsV RX5 123 RX5 yX5_canTell wsX5_canTell) := goodIn_app (goodIn_of _ (by decide +kernel)) ggX5_isSoBy_X5_canTell
set_option maxRecDepth 20000 in
theorem ggX5_isSoBy_X5_thinks : GoodIn wsX5_isSoBy wsX5_thinks := goodIn_r _ [21, 22, 23, 24, 9, 25, 26, 27, 28, 4, 3, 29, 30, 11, 12, 2, 17, 31, 32, 33, 34, 35, 36, 37, 38, 39, 40, 41, 73, 74, 75, 76, 77, 78, 79, 80, 81, 82, 83, 84, 85, 86, 87, 88, 89, 90, 91, 92, 93, 94, 95, 96, 97, 98, 99] (by decide +kernel) (by decide +kernel)
set_option maxRecDepth 20000 in
theorem gX5_isSoBy_X5_thinks : GoodIn wsX5_isSoBy (wsV RX5 209 RX5 yX5_thinks wsX5_thinks) := goodIn_app (goodIn_of _ (by decide +kernel)) ggX5_isSoBy_X5_thinks
set_option maxRecDepth 20000 in
theorem ggX5_isSoBy_X5_tellsOne : GoodIn wsX5_isSoBy wsX5_tellsOne := goodIn_r _ [45, 11, 31, 2, 3, 4, 12, 46, 47, 9, 48, 49, 50, 51, 52, 32, 53, 54, 55, 56, 30, 29, 57, 58, 59, 60, 61, 62, 63, 64, 65, 66, 67, 68, 28, 73, 74, 75, 76, 77, 78, 79, 80, 81, 82, 83, 84, 85, 86, 87, 88, 89, 90, 91, 92, 93, 94, 95, 96, 97, 98, 99] (by decide +kernel) (by decide +kernel)
set_option maxRecDepth 20000 in
theorem gX5_isSoBy_X5_tellsOne : GoodIn wsX5_isSoBy (wsV RX5 126 RX5 yX5_tellsOne wsX5_tellsOne) := goodIn_app (goodIn_of _ (by decide +kernel)) ggX5_isSoBy_X5_tellsOne
set_option maxRecDepth 20000 in
theorem ggX5_isSoBy_X5_forgets : GoodIn wsX5_isSoBy wsX5_forgets := goodIn_r _ [72, 22, 23, 24, 9, 25, 26, 27, 28, 4, 3, 29, 30, 11, 12, 2, 17, 31, 32, 33, 34, 35, 36, 37, 38, 39, 40, 41, 73, 74, 75, 76, 77, 78, 79, 80, 81, 82, 83, 84, 85, 86, 87, 88, 89, 90, 91, 92, 93, 94, 95, 96, 97, 98, 99] (by decide +kernel) (by decide +kernel)
set_option maxRecDepth 20000 in
theorem gX5_isSoBy_X5_forgets : GoodIn wsX5_isSoBy (wsV RX5 212 RX5 yX5_forgets wsX5_forgets) := goodIn_app (goodIn_of _ (by decide +kernel)) ggX5_isSoBy_X5_forgets
theorem dX5_isSoBy_0 : decode cX5_isSoBy 0 = .ok (.aload_n 0, 1) := by decide +kernel
theorem dX5_isSoBy_1 : decode cX5_isSoBy 1 = .ok (.iload_n 1, 1) := by decide +kernel
theorem dX5_isSoBy_2 : decode cX5_isSoBy 2 = .ok (.invokevirtual 123, 3) := by decide +kernel
theorem dX5_isSoBy_5 : decode cX5_isSoBy 5 = .ok (.ifCond .ne 5, 3) := by decide +kernel
theorem dX5_isSoBy_8 : decode cX5_isSoBy 8 = .ok (.iconst 0, 1) := by decide +kernel
theorem dX5_isSoBy_9 : decode cX5_isSoBy 9 = .ok (.ireturn, 1) := by decide +kernel
theorem dX5_isSoBy_10 : decode cX5_isSoBy 10 = .ok (.aload_n 0, 1) := by decide +kernel
theorem dX5_isSoBy_11 : decode cX5_isSoBy 11 = .ok (.invokevirtual 209, 3) := by decide +kernel
theorem dX5_isSoBy_14 : decode cX5_isSoBy 14 = .ok (.aload_n 0, 1) := by decide +kernel
theorem dX5_isSoBy_15 : decode cX5_isSoBy 15 = .ok (.iload_n 1, 1) := by decide +kernel
theorem dX5_isSoBy_16 : decode cX5_isSoBy 16 = .ok (.invokevirtual 126, 3) := by decide +kernel
theorem dX5_isSoBy_19 : decode cX5_isSoBy 19 = .ok (.pop, 1) := by decide +kernel
theorem dX5_isSoBy_20 : decode cX5_isSoBy 20 = .ok (.aload_n 0, 1) := by decide +kernel
theorem dX5_isSoBy_21 : decode cX5_isSoBy 21 = .ok (.getfield 273, 3) := by decide +kernel
theorem dX5_isSoBy_24 : decode cX5_isSoBy 24 = .ok (.aload_n 0, 1) := by decide +kernel
theorem dX5_isSoBy_25 : decode cX5_isSoBy 25 = .ok (.getfield 58, 3) := by decide +kernel
theorem dX5_isSoBy_28 : decode cX5_isSoBy 28 = .ok (.if_icmp .gt 7, 3) := by decide +kernel
theorem dX5_isSoBy_31 : decode cX5_isSoBy 31 = .ok (.iconst 1, 1) := by decide +kernel
theorem dX5_isSoBy_32 : decode cX5_isSoBy 32 = .ok (.goto 4, 3) := by decide +kernel
theorem dX5_isSoBy_35 : decode cX5_isSoBy 35 = .ok (.iconst 0, 1) := by decide +kernel
theorem dX5_isSoBy_36 : decode cX5_isSoBy 36 = .ok (.istore_n 2, 1) := by decide +kernel
theorem dX5_isSoBy_37 : decode cX5_isSoBy 37 = .ok (.iconst 0, 1) := by decide +kernel
theorem dX5_isSoBy_38 : decode cX5_isSoBy 38 = .ok (.istore_n 3, 1) := by decide +kernel
theorem dX5_isSoBy_39 : decode cX5_isSoBy 39 = .ok (.iload_n 3, 1) := by decide +kernel
theorem dX5_isSoBy_40 : decode cX5_isSoBy 40 = .ok (.aload_n 0, 1) := by decide +kernel
theorem dX5_isSoBy_41 : decode cX5_isSoBy 41 = .ok (.getfield 273, 3) := by decide +kernel
theorem dX5_isSoBy_44 : decode cX5_isSoBy 44 = .ok (.if_icmp .ge 48, 3) := by decide +kernel
theorem dX5_isSoBy_47 : decode cX5_isSoBy 47 = .ok (.iload_n 2, 1) := by decide +kernel
theorem dX5_isSoBy_48 : decode cX5_isSoBy 48 = .ok (.ifCond .eq 44, 3) := by decide +kernel
theorem dX5_isSoBy_51 : decode cX5_isSoBy 51 = .ok (.aload_n 0, 1) := by decide +kernel
theorem dX5_isSoBy_52 : decode cX5_isSoBy 52 = .ok (.getfield 19, 3) := by decide +kernel
theorem dX5_isSoBy_55 : decode cX5_isSoBy 55 = .ok (.iload_n 3, 1) := by decide +kernel
theorem dX5_isSoBy_56 : decode cX5_isSoBy 56 = .ok (.iaload, 1) := by decide +kernel
theorem dX5_isSoBy_57 : decode cX5_isSoBy 57 = .ok (.ifCond .le 8, 3) := by decide +kernel
theorem dX5_isSoBy_60 : decode cX5_isSoBy 60 = .ok (.bipush 98, 2) := by decide +kernel
theorem dX5_isSoBy_62 : decode cX5_isSoBy 62 = .ok (.goto 9, 3) := by decide +kernel
theorem dX5_isSoBy_65 : decode cX5_isSoBy 65 = .ok (.aload_n 0, 1) := by decide +kernel
theorem dX5_isSoBy_66 : decode cX5_isSoBy 66 = .ok (.getfield 16, 3) := by decide +kernel
theorem dX5_isSoBy_69 : decode cX5_isSoBy 69 = .ok (.iload_n 3, 1) := by decide +kernel
theorem dX5_isSoBy_70 : decode cX5_isSoBy 70 = .ok (.iaload, 1) := by decide +kernel
theorem dX5_isSoBy_71 : decode cX5_isSoBy 71 = .ok (.aload_n 0, 1) := by decide +kernel
theorem dX5_isSoBy_72 : decode cX5_isSoBy 72 = .ok (.getfield 55, 3) := by decide +kernel
theorem dX5_isSoBy_75 : decode cX5_isSoBy 75 = .ok (.iload_n 3, 1) := by decide +kernel
theorem dX5_isSoBy_76 : decode cX5_isSoBy 76 = .ok (.iaload, 1) := by decide +kernel
theorem dX5_isSoBy_77 : decode cX5_isSoBy 77 = .ok (.if_icmp .ne 7, 3) := by decide +kernel
theorem dX5_isSoBy_80 : decode cX5_isSoBy 80 = .ok (.iconst 1, 1) := by decide +kernel
theorem dX5_isSoBy_81 : decode cX5_isSoBy 81 = .ok (.goto 4, 3) := by decide +kernel
theorem dX5_isSoBy_84 : decode cX5_isSoBy 84 = .ok (.iconst 0, 1) := by decide +kernel
theorem dX5_isSoBy_85 : decode cX5_isSoBy 85 = .ok (.istore_n 2, 1) := by decide +kernel
theorem dX5_isSoBy_86 : decode cX5_isSoBy 86 = .ok (.iinc 3 1, 3) := by decide +kernel
theorem dX5_isSoBy_89 : decode cX5_isSoBy 89 = .ok (.goto (-50), 3) := by decide +kernel
theorem dX5_isSoBy_92 : decode cX5_isSoBy 92 = .ok (.aload_n 0, 1) := by decide +kernel
theorem dX5_isSoBy_93 : decode cX5_isSoBy 93 = .ok (.invokevirtual 212, 3) := by decide +kernel
theorem dX5_isSoBy_96 : decode cX5_isSoBy 96 = .ok (.iload_n 2, 1) := by decide +kernel
theorem dX5_isSoBy_97 : decode cX5_isSoBy 97 = .ok (.ireturn, 1) := by decide +kernel
set_option maxRecDepth 20000 in
theorem ggX5_whoTold_X5_isSoBy : GoodIn wsX5_whoTold wsX5_isSoBy := goodIn_r _ [6, 7, 8, 9, 10, 11, 12, 13, 14, 5, 15, 16, 17, 18, 19, 20, 21, 1, 22, 23, 24, 25, 26, 27, 28, 29, 30, 31, 32, 33, 34, 35, 36, 37, 38, 39, 40, 41, 42, 43, 44, 45, 46, 47, 48, 49, 50, 51, 52, 53, 54, 55, 56, 57, 58, 59, 60, 61, 62, 63, 64, 65, 66, 67, 68, 69, 70, 71, 72, 73, 74, 75, 76, 77, 78, 79, 80, 81, 82, 83, 84, 85, 86, 87, 88, 89, 90, 91, 92, 93, 94, 95, 96, 97, 98, 99, 100, 101, 102, 103] (by decide +kernel) (by decide +kernel)
set_option maxRecDepth 20000 in
theorem gX5_whoTold_X5_isSoBy : GoodIn wsX5_whoTold (wsV RX5 276 RX5 yX5_isSoBy wsX5_isSoBy) := goodIn_app (goodIn_of _ (by decide +kernel)) ggX5_whoTold_X5_isSoBy
theorem dX5_whoTold_0 : decode cX5_whoTold 0 = .ok (.iconst 0, 1) := by decide +kernel
theorem dX5_whoTold_1 : decode cX5_whoTold 1 = .ok (.istore_n 1, 1) := by decide +kernel
theorem dX5_whoTold_2 : decode cX5_whoTold 2 = .ok (.iconst 0, 1) := by decide +kernel
theorem dX5_whoTold_3 : decode cX5_whoTold 3 = .ok (.istore_n 2, 1) := by decide +kernel
theorem dX5_whoTold_4 : decode cX5_whoTold 4 = .ok (.iload_n 2, 1) := by decide +kernel
theorem dX5_whoTold_5 : decode cX5_whoTold 5 = .ok (.aload_n 0, 1) := by decide +kernel
theorem dX5_whoTold_6 : decode cX5_whoTold 6 = .ok (.getfield 65, 3) := by decide +kernel
theorem dX5_whoTold_9 : decode cX5_whoTold 9 = .ok (.if_icmp .ge 27, 3) := by decide +kernel
theorem dX5_whoTold_12 : decode cX5_whoTold 12 = .ok (.iload_n 1, 1) := by decide +kernel
theorem dX5_whoTold_13 : decode cX5_whoTold 13 = .ok (.aload_n 0, 1) := by decide +kernel
theorem dX5_whoTold_14 : decode cX5_whoTold 14 = .ok (.iload_n 2, 1) := by decide +kernel
theorem dX5_whoTold_15 : decode cX5_whoTold 15 = .ok (.invokevirtual 276, 3) := by decide +kernel
theorem dX5_whoTold_18 : decode cX5_whoTold 18 = .ok (.ifCond .eq 9, 3) := by decide +kernel
theorem dX5_whoTold_21 : decode cX5_whoTold 21 = .ok (.iconst 1, 1) := by decide +kernel
theorem dX5_whoTold_22 : decode cX5_whoTold 22 = .ok (.iload_n 2, 1) := by decide +kernel
theorem dX5_whoTold_23 : decode cX5_whoTold 23 = .ok (.ishl, 1) := by decide +kernel
theorem dX5_whoTold_24 : decode cX5_whoTold 24 = .ok (.goto 4, 3) := by decide +kernel
theorem dX5_whoTold_27 : decode cX5_whoTold 27 = .ok (.iconst 0, 1) := by decide +kernel
theorem dX5_whoTold_28 : decode cX5_whoTold 28 = .ok (.ior, 1) := by decide +kernel
theorem dX5_whoTold_29 : decode cX5_whoTold 29 = .ok (.istore_n 1, 1) := by decide +kernel
theorem dX5_whoTold_30 : decode cX5_whoTold 30 = .ok (.iinc 2 1, 3) := by decide +kernel
theorem dX5_whoTold_33 : decode cX5_whoTold 33 = .ok (.goto (-29), 3) := by decide +kernel
theorem dX5_whoTold_36 : decode cX5_whoTold 36 = .ok (.iload_n 1, 1) := by decide +kernel
theorem dX5_whoTold_37 : decode cX5_whoTold 37 = .ok (.ireturn, 1) := by decide +kernel
set_option maxRecDepth 20000 in
theorem ggX5_bitsFor_X5_isSoBy : GoodIn wsX5_bitsFor wsX5_isSoBy := goodIn_r _ [5, 6, 7, 8, 9, 10, 11, 12, 13, 4, 14, 15, 16, 17, 18, 19, 20, 21, 22, 23, 24, 25, 26, 27, 28, 29, 30, 31, 32, 33, 34, 35, 36, 37, 38, 39, 40, 41, 42, 43, 44, 45, 46, 47, 48, 49, 50, 51, 52, 53, 54, 55, 56, 57, 58, 59, 60, 61, 62, 63, 64, 65, 66, 67, 68, 69, 70, 71, 72, 73, 74, 75, 76, 77, 78, 79, 80, 81, 82, 83, 84, 85, 86, 87, 88, 89, 90, 91, 92, 93, 94, 95, 96, 97, 98, 99, 100, 101, 102, 103] (by decide +kernel) (by decide +kernel)
set_option maxRecDepth 20000 in
theorem gX5_bitsFor_X5_isSoBy : GoodIn wsX5_bitsFor (wsV RX5 276 RX5 yX5_isSoBy wsX5_isSoBy) := goodIn_app (goodIn_of _ (by decide +kernel)) ggX5_bitsFor_X5_isSoBy
theorem dX5_bitsFor_0 : decode cX5_bitsFor 0 = .ok (.aload_n 1, 1) := by decide +kernel
theorem dX5_bitsFor_1 : decode cX5_bitsFor 1 = .ok (.iload_n 2, 1) := by decide +kernel
theorem dX5_bitsFor_2 : decode cX5_bitsFor 2 = .ok (.iaload, 1) := by decide +kernel
theorem dX5_bitsFor_3 : decode cX5_bitsFor 3 = .ok (.istore 4, 2) := by decide +kernel
theorem dX5_bitsFor_5 : decode cX5_bitsFor 5 = .ok (.iconst 0, 1) := by decide +kernel
theorem dX5_bitsFor_6 : decode cX5_bitsFor 6 = .ok (.istore 5, 2) := by decide +kernel
theorem dX5_bitsFor_8 : decode cX5_bitsFor 8 = .ok (.iconst 0, 1) := by decide +kernel
theorem dX5_bitsFor_9 : decode cX5_bitsFor 9 = .ok (.istore 6, 2) := by decide +kernel
theorem dX5_bitsFor_11 : decode cX5_bitsFor 11 = .ok (.iload 6, 2) := by decide +kernel
theorem dX5_bitsFor_13 : decode cX5_bitsFor 13 = .ok (.iload_n 3, 1) := by decide +kernel
theorem dX5_bitsFor_14 : decode cX5_bitsFor 14 = .ok (.if_icmp .ge 35, 3) := by decide +kernel
theorem dX5_bitsFor_17 : decode cX5_bitsFor 17 = .ok (.aload_n 1, 1) := by decide +kernel
theorem dX5_bitsFor_18 : decode cX5_bitsFor 18 = .ok (.iload_n 2, 1) := by decide +kernel
theorem dX5_bitsFor_19 : decode cX5_bitsFor 19 = .ok (.iload 6, 2) := by decide +kernel
theorem dX5_bitsFor_21 : decode cX5_bitsFor 21 = .ok (.iastore, 1) := by decide +kernel
theorem dX5_bitsFor_22 : decode cX5_bitsFor 22 = .ok (.iload 5, 2) := by decide +kernel
theorem dX5_bitsFor_24 : decode cX5_bitsFor 24 = .ok (.aload_n 0, 1) := by decide +kernel
theorem dX5_bitsFor_25 : decode cX5_bitsFor 25 = .ok (.iload_n 2, 1) := by decide +kernel
theorem dX5_bitsFor_26 : decode cX5_bitsFor 26 = .ok (.invokevirtual 276, 3) := by decide +kernel
theorem dX5_bitsFor_29 : decode cX5_bitsFor 29 = .ok (.ifCond .eq 10, 3) := by decide +kernel
theorem dX5_bitsFor_32 : decode cX5_bitsFor 32 = .ok (.iconst 1, 1) := by decide +kernel
theorem dX5_bitsFor_33 : decode cX5_bitsFor 33 = .ok (.iload 6, 2) := by decide +kernel
theorem dX5_bitsFor_35 : decode cX5_bitsFor 35 = .ok (.ishl, 1) := by decide +kernel
theorem dX5_bitsFor_36 : decode cX5_bitsFor 36 = .ok (.goto 4, 3) := by decide +kernel
theorem dX5_bitsFor_39 : decode cX5_bitsFor 39 = .ok (.iconst 0, 1) := by decide +kernel
theorem dX5_bitsFor_40 : decode cX5_bitsFor 40 = .ok (.ior, 1) := by decide +kernel
theorem dX5_bitsFor_41 : decode cX5_bitsFor 41 = .ok (.istore 5, 2) := by decide +kernel
theorem dX5_bitsFor_43 : decode cX5_bitsFor 43 = .ok (.iinc 6 1, 3) := by decide +kernel
theorem dX5_bitsFor_46 : decode cX5_bitsFor 46 = .ok (.goto (-35), 3) := by decide +kernel
theorem dX5_bitsFor_49 : decode cX5_bitsFor 49 = .ok (.aload_n 1, 1) := by decide +kernel
theorem dX5_bitsFor_50 : decode cX5_bitsFor 50 = .ok (.iload_n 2, 1) := by decide +kernel
theorem dX5_bitsFor_51 : decode cX5_bitsFor 51 = .ok (.iload 4, 2) := by decide +kernel
theorem dX5_bitsFor_53 : decode cX5_bitsFor 53 = .ok (.iastore, 1) := by decide +kernel
theorem dX5_bitsFor_54 : decode cX5_bitsFor 54 = .ok (.iload 5, 2) := by decide +kernel
theorem dX5_bitsFor_56 : decode cX5_bitsFor 56 = .ok (.ireturn, 1) := by decide +kernel
set_option maxRecDepth 20000 in
theorem ggX5_whatIs_X5_isMan : GoodIn wsX5_whatIs wsX5_isMan := goodIn_r _ [7, 8, 89, 90, 91, 92, 93, 94, 95, 96, 97, 98, 99, 100, 101, 102, 103, 104, 105, 106, 107, 108, 109, 110, 111, 112, 113, 114, 115] (by decide +kernel) (by decide +kernel)
set_option maxRecDepth 20000 in
theorem gX5_whatIs_X5_isMan : GoodIn wsX5_whatIs (wsV RX5 129 RX5 yX5_isMan wsX5_isMan) := goodIn_app (goodIn_of _ (by decide +kernel)) ggX5_whatIs_X5_isMan
set_option maxRecDepth 20000 in
theorem ggX5_whatIs_X5_isIn : GoodIn wsX5_whatIs wsX5_isIn := goodIn_r _ [11] (by decide +kernel) (by decide +kernel)
set_option maxRecDepth 20000 in
theorem gX5_whatIs_X5_isIn : GoodIn wsX5_whatIs (va_wsS RX5 86 yX5_isIn wsX5_isIn) := goodIn_app (goodIn_of _ (by decide +kernel)) ggX5_whatIs_X5_isIn
set_option maxRecDepth 20000 in
theorem ggX5_whatIs_X5_no : GoodIn wsX5_whatIs wsX5_no := goodIn_r _ [15, 16, 89, 90, 91, 92, 93, 94, 95, 96, 97, 98, 99, 100, 101, 102, 103, 104, 105, 106, 107, 108, 109, 110, 111, 112, 113, 114, 115] (by decide +kernel) (by decide +kernel)
set_option maxRecDepth 20000 in
theorem gX5_whatIs_X5_no : GoodIn wsX5_whatIs (wsV RX5 75 RX5 yX5_no wsX5_no) := goodIn_app (goodIn_of _ (by decide +kernel)) ggX5_whatIs_X5_no
set_option maxRecDepth 20000 in
theorem ggX5_whatIs_X5_bitsFor : GoodIn wsX5_whatIs wsX5_bitsFor := goodIn_r _ [20, 21, 22, 23, 6, 24, 25, 26, 27, 28, 29, 30, 31, 32, 33, 34, 35, 3, 4, 5, 7, 8, 36, 37, 38, 39, 40, 41, 42, 43, 44, 45, 46, 1, 2, 47, 48, 49, 50, 51, 52, 53, 54, 55, 56, 57, 58, 59, 60, 61, 62, 63, 64, 65, 66, 67, 68, 69, 70, 71, 72, 73, 74, 75, 76, 77, 78, 79, 80, 81, 82, 83, 84, 85, 86, 87, 88, 89, 90, 91, 92, 93, 94, 95, 96, 97, 98, 99, 100, 101, 102, 103, 104, 105, 106, 107, 108, 109, 110, 111, 112, 113, 114, 115] (by decide +kernel) (by decide +kernel)
set_option maxRecDepth 20000 in
theorem gX5_whatIs_X5_bitsFor : GoodIn wsX5_whatIs (wsV RX5 279 RX5 yX5_bitsFor wsX5_bitsFor) := goodIn_app (goodIn_of _ (by decide +kernel)) ggX5_whatIs_X5_bitsFor
theorem dX5_whatIs_0 : decode cX5_whatIs 0 = .ok (.aload_n 0, 1) := by decide +kernel
theorem dX5_whatIs_1 : decode cX5_whatIs 1 = .ok (.iload_n 1, 1) := by decide +kernel
theorem dX5_whatIs_2 : decode cX5_whatIs 2 = .ok (.invokevirtual 129, 3) := by decide +kernel
theorem dX5_whatIs_5 : decode cX5_whatIs 5 = .ok (.ifCond .ne 7, 3) := by decide +kernel
theorem dX5_whatIs_8 : decode cX5_whatIs 8 = .ok (.iconst (-1), 1) := by decide +kernel
theorem dX5_whatIs_9 : decode cX5_whatIs 9 = .ok (.goto 18, 3) := by decide +kernel
theorem dX5_whatIs_12 : decode cX5_whatIs 12 = .ok (.iload_n 2, 1) := by decide +kernel
theorem dX5_whatIs_13 : decode cX5_whatIs 13 = .ok (.iconst 0, 1) := by decide +kernel
theorem dX5_whatIs_14 : decode cX5_whatIs 14 = .ok (.iconst 1, 1) := by decide +kernel
theorem dX5_whatIs_15 : decode cX5_whatIs 15 = .ok (.invokestatic 86, 3) := by decide +kernel
theorem dX5_whatIs_18 : decode cX5_whatIs 18 = .ok (.ifCond .ne 8, 3) := by decide +kernel
theorem dX5_whatIs_21 : decode cX5_whatIs 21 = .ok (.bipush (-2), 2) := by decide +kernel
theorem dX5_whatIs_23 : decode cX5_whatIs 23 = .ok (.goto 4, 3) := by decide +kernel
theorem dX5_whatIs_26 : decode cX5_whatIs 26 = .ok (.iconst 0, 1) := by decide +kernel
theorem dX5_whatIs_27 : decode cX5_whatIs 27 = .ok (.istore_n 3, 1) := by decide +kernel
theorem dX5_whatIs_28 : decode cX5_whatIs 28 = .ok (.iload_n 3, 1) := by decide +kernel
theorem dX5_whatIs_29 : decode cX5_whatIs 29 = .ok (.ifCond .eq 9, 3) := by decide +kernel
theorem dX5_whatIs_32 : decode cX5_whatIs 32 = .ok (.aload_n 0, 1) := by decide +kernel
theorem dX5_whatIs_33 : decode cX5_whatIs 33 = .ok (.iload_n 3, 1) := by decide +kernel
theorem dX5_whatIs_34 : decode cX5_whatIs 34 = .ok (.invokevirtual 75, 3) := by decide +kernel
theorem dX5_whatIs_37 : decode cX5_whatIs 37 = .ok (.ireturn, 1) := by decide +kernel
theorem dX5_whatIs_38 : decode cX5_whatIs 38 = .ok (.iload_n 2, 1) := by decide +kernel
theorem dX5_whatIs_39 : decode cX5_whatIs 39 = .ok (.ifCond .ne 17, 3) := by decide +kernel
theorem dX5_whatIs_42 : decode cX5_whatIs 42 = .ok (.aload_n 0, 1) := by decide +kernel
theorem dX5_whatIs_43 : decode cX5_whatIs 43 = .ok (.aload_n 0, 1) := by decide +kernel
theorem dX5_whatIs_44 : decode cX5_whatIs 44 = .ok (.getfield 22, 3) := by decide +kernel
theorem dX5_whatIs_47 : decode cX5_whatIs 47 = .ok (.iload_n 1, 1) := by decide +kernel
theorem dX5_whatIs_48 : decode cX5_whatIs 48 = .ok (.bipush 6, 2) := by decide +kernel
theorem dX5_whatIs_50 : decode cX5_whatIs 50 = .ok (.invokevirtual 279, 3) := by decide +kernel
theorem dX5_whatIs_53 : decode cX5_whatIs 53 = .ok (.goto 14, 3) := by decide +kernel
theorem dX5_whatIs_56 : decode cX5_whatIs 56 = .ok (.aload_n 0, 1) := by decide +kernel
theorem dX5_whatIs_57 : decode cX5_whatIs 57 = .ok (.aload_n 0, 1) := by decide +kernel
theorem dX5_whatIs_58 : decode cX5_whatIs 58 = .ok (.getfield 25, 3) := by decide +kernel
theorem dX5_whatIs_61 : decode cX5_whatIs 61 = .ok (.iload_n 1, 1) := by decide +kernel
theorem dX5_whatIs_62 : decode cX5_whatIs 62 = .ok (.bipush 10, 2) := by decide +kernel
theorem dX5_whatIs_64 : decode cX5_whatIs 64 = .ok (.invokevirtual 279, 3) := by decide +kernel
theorem dX5_whatIs_67 : decode cX5_whatIs 67 = .ok (.ireturn, 1) := by decide +kernel
set_option maxRecDepth 20000 in
theorem ggX5_row_X5_bound : GoodIn wsX5_row wsX5_bound := goodIn_r _ [6] (by decide +kernel) (by decide +kernel)
set_option maxRecDepth 20000 in
theorem gX5_row_X5_bound : GoodIn wsX5_row (va_wsS RX5 68 yX5_bound wsX5_bound) := goodIn_app (goodIn_of _ (by decide +kernel)) ggX5_row_X5_bound
set_option maxRecDepth 20000 in
theorem ggX5_row_X5_no : GoodIn wsX5_row wsX5_no := goodIn_r _ [10, 11, 12, 13, 14, 15, 16, 17, 18, 19, 20, 21, 22, 23, 24, 25, 26, 27, 28, 29, 30, 31, 32, 33, 34, 35, 36, 37, 38] (by decide +kernel) (by decide +kernel)
set_option maxRecDepth 20000 in
theorem gX5_row_X5_no : GoodIn wsX5_row (wsV RX5 75 RX5 yX5_no wsX5_no) := goodIn_app (goodIn_of _ (by decide +kernel)) ggX5_row_X5_no
theorem dX5_row_0 : decode cX5_row 0 = .ok (.iload_n 1, 1) := by decide +kernel
theorem dX5_row_1 : decode cX5_row 1 = .ok (.iconst 0, 1) := by decide +kernel
theorem dX5_row_2 : decode cX5_row 2 = .ok (.bipush 99, 2) := by decide +kernel
theorem dX5_row_4 : decode cX5_row 4 = .ok (.invokestatic 68, 3) := by decide +kernel
theorem dX5_row_7 : decode cX5_row 7 = .ok (.istore_n 2, 1) := by decide +kernel
theorem dX5_row_8 : decode cX5_row 8 = .ok (.iload_n 2, 1) := by decide +kernel
theorem dX5_row_9 : decode cX5_row 9 = .ok (.ifCond .ne 15, 3) := by decide +kernel
theorem dX5_row_12 : decode cX5_row 12 = .ok (.aload_n 0, 1) := by decide +kernel
theorem dX5_row_13 : decode cX5_row 13 = .ok (.getfield 273, 3) := by decide +kernel
theorem dX5_row_16 : decode cX5_row 16 = .ok (.bipush 16, 2) := by decide +kernel
theorem dX5_row_18 : decode cX5_row 18 = .ok (.if_icmp .ne 6, 3) := by decide +kernel
theorem dX5_row_21 : decode cX5_row 21 = .ok (.bipush (-6), 2) := by decide +kernel
theorem dX5_row_23 : decode cX5_row 23 = .ok (.istore_n 2, 1) := by decide +kernel
theorem dX5_row_24 : decode cX5_row 24 = .ok (.iload_n 2, 1) := by decide +kernel
theorem dX5_row_25 : decode cX5_row 25 = .ok (.ifCond .eq 9, 3) := by decide +kernel
theorem dX5_row_28 : decode cX5_row 28 = .ok (.aload_n 0, 1) := by decide +kernel
theorem dX5_row_29 : decode cX5_row 29 = .ok (.iload_n 2, 1) := by decide +kernel
theorem dX5_row_30 : decode cX5_row 30 = .ok (.invokevirtual 75, 3) := by decide +kernel
theorem dX5_row_33 : decode cX5_row 33 = .ok (.ireturn, 1) := by decide +kernel
theorem dX5_row_34 : decode cX5_row 34 = .ok (.aload_n 0, 1) := by decide +kernel
theorem dX5_row_35 : decode cX5_row 35 = .ok (.getfield 55, 3) := by decide +kernel
theorem dX5_row_38 : decode cX5_row 38 = .ok (.aload_n 0, 1) := by decide +kernel
theorem dX5_row_39 : decode cX5_row 39 = .ok (.getfield 273, 3) := by decide +kernel
theorem dX5_row_42 : decode cX5_row 42 = .ok (.iload_n 1, 1) := by decide +kernel
theorem dX5_row_43 : decode cX5_row 43 = .ok (.iastore, 1) := by decide +kernel
theorem dX5_row_44 : decode cX5_row 44 = .ok (.aload_n 0, 1) := by decide +kernel
theorem dX5_row_45 : decode cX5_row 45 = .ok (.dup, 1) := by decide +kernel
theorem dX5_row_46 : decode cX5_row 46 = .ok (.getfield 273, 3) := by decide +kernel
theorem dX5_row_49 : decode cX5_row 49 = .ok (.iconst 1, 1) := by decide +kernel
theorem dX5_row_50 : decode cX5_row 50 = .ok (.iadd, 1) := by decide +kernel
theorem dX5_row_51 : decode cX5_row 51 = .ok (.putfield 273, 3) := by decide +kernel
theorem dX5_row_54 : decode cX5_row 54 = .ok (.aload_n 0, 1) := by decide +kernel
theorem dX5_row_55 : decode cX5_row 55 = .ok (.getfield 273, 3) := by decide +kernel
theorem dX5_row_58 : decode cX5_row 58 = .ok (.ireturn, 1) := by decide +kernel
set_option maxRecDepth 20000 in
theorem ggX5_judge_X5_holds : GoodIn wsX5_judge wsX5_holds := goodIn_r _ [8, 9, 10, 11, 12, 13, 14, 15, 16, 17, 18, 19, 20, 21, 22, 23, 24, 25, 26, 27, 28, 29, 30, 31, 32, 33, 34, 35, 36, 37, 38] (by decide +kernel) (by decide +kernel)
set_option maxRecDepth 20000 in
theorem gX5_judge_X5_holds : GoodIn wsX5_judge (wsV RX5 173 RX5 yX5_holds wsX5_holds) := goodIn_app (goodIn_of _ (by decide +kernel)) ggX5_judge_X5_holds
theorem dX5_judge_0 : decode cX5_judge 0 = .ok (.aload_n 0, 1) := by decide +kernel
theorem dX5_judge_1 : decode cX5_judge 1 = .ok (.getfield 273, 3) := by decide +kernel
theorem dX5_judge_4 : decode cX5_judge 4 = .ok (.istore_n 1, 1) := by decide +kernel
theorem dX5_judge_5 : decode cX5_judge 5 = .ok (.aload_n 0, 1) := by decide +kernel
theorem dX5_judge_6 : decode cX5_judge 6 = .ok (.iconst 0, 1) := by decide +kernel
theorem dX5_judge_7 : decode cX5_judge 7 = .ok (.putfield 273, 3) := by decide +kernel
theorem dX5_judge_10 : decode cX5_judge 10 = .ok (.iconst 0, 1) := by decide +kernel
theorem dX5_judge_11 : decode cX5_judge 11 = .ok (.istore_n 2, 1) := by decide +kernel
theorem dX5_judge_12 : decode cX5_judge 12 = .ok (.iload_n 2, 1) := by decide +kernel
theorem dX5_judge_13 : decode cX5_judge 13 = .ok (.iload_n 1, 1) := by decide +kernel
theorem dX5_judge_14 : decode cX5_judge 14 = .ok (.if_icmp .ge 33, 3) := by decide +kernel
theorem dX5_judge_17 : decode cX5_judge 17 = .ok (.iload_n 2, 1) := by decide +kernel
theorem dX5_judge_18 : decode cX5_judge 18 = .ok (.aload_n 0, 1) := by decide +kernel
theorem dX5_judge_19 : decode cX5_judge 19 = .ok (.getfield 58, 3) := by decide +kernel
theorem dX5_judge_22 : decode cX5_judge 22 = .ok (.if_icmp .ge 17, 3) := by decide +kernel
theorem dX5_judge_25 : decode cX5_judge 25 = .ok (.aload_n 0, 1) := by decide +kernel
theorem dX5_judge_26 : decode cX5_judge 26 = .ok (.iload_n 2, 1) := by decide +kernel
theorem dX5_judge_27 : decode cX5_judge 27 = .ok (.invokevirtual 173, 3) := by decide +kernel
theorem dX5_judge_30 : decode cX5_judge 30 = .ok (.aload_n 0, 1) := by decide +kernel
theorem dX5_judge_31 : decode cX5_judge 31 = .ok (.getfield 55, 3) := by decide +kernel
theorem dX5_judge_34 : decode cX5_judge 34 = .ok (.iload_n 2, 1) := by decide +kernel
theorem dX5_judge_35 : decode cX5_judge 35 = .ok (.iaload, 1) := by decide +kernel
theorem dX5_judge_36 : decode cX5_judge 36 = .ok (.if_icmp .eq 5, 3) := by decide +kernel
theorem dX5_judge_39 : decode cX5_judge 39 = .ok (.iload_n 2, 1) := by decide +kernel
theorem dX5_judge_40 : decode cX5_judge 40 = .ok (.ireturn, 1) := by decide +kernel
theorem dX5_judge_41 : decode cX5_judge 41 = .ok (.iinc 2 1, 3) := by decide +kernel
theorem dX5_judge_44 : decode cX5_judge 44 = .ok (.goto (-32), 3) := by decide +kernel
theorem dX5_judge_47 : decode cX5_judge 47 = .ok (.bipush (-9), 2) := by decide +kernel
theorem dX5_judge_49 : decode cX5_judge 49 = .ok (.ireturn, 1) := by decide +kernel
theorem dX5_clear_0 : decode cX5_clear 0 = .ok (.aload_n 0, 1) := by decide +kernel
theorem dX5_clear_1 : decode cX5_clear 1 = .ok (.getfield 273, 3) := by decide +kernel
theorem dX5_clear_4 : decode cX5_clear 4 = .ok (.istore_n 1, 1) := by decide +kernel
theorem dX5_clear_5 : decode cX5_clear 5 = .ok (.aload_n 0, 1) := by decide +kernel
theorem dX5_clear_6 : decode cX5_clear 6 = .ok (.iconst 0, 1) := by decide +kernel
theorem dX5_clear_7 : decode cX5_clear 7 = .ok (.putfield 273, 3) := by decide +kernel
theorem dX5_clear_10 : decode cX5_clear 10 = .ok (.iload_n 1, 1) := by decide +kernel
theorem dX5_clear_11 : decode cX5_clear 11 = .ok (.ireturn, 1) := by decide +kernel
set_option maxRecDepth 20000 in
theorem ggX5_lots_X5_bound : GoodIn wsX5_lots wsX5_bound := goodIn_r _ [8] (by decide +kernel) (by decide +kernel)
set_option maxRecDepth 20000 in
theorem gX5_lots_X5_bound : GoodIn wsX5_lots (va_wsS RX5 68 yX5_bound wsX5_bound) := goodIn_app (goodIn_of _ (by decide +kernel)) ggX5_lots_X5_bound
set_option maxRecDepth 20000 in
theorem ggX5_lots_X5_isIn : GoodIn wsX5_lots wsX5_isIn := goodIn_r _ [11] (by decide +kernel) (by decide +kernel)
set_option maxRecDepth 20000 in
theorem gX5_lots_X5_isIn : GoodIn wsX5_lots (va_wsS RX5 86 yX5_isIn wsX5_isIn) := goodIn_app (goodIn_of _ (by decide +kernel)) ggX5_lots_X5_isIn
set_option maxRecDepth 20000 in
theorem ggX5_lots_X5_no : GoodIn wsX5_lots wsX5_no := goodIn_r _ [15, 16, 97, 98, 99, 100, 101, 102, 103, 104, 105, 106, 107, 108, 109, 110, 111, 112, 113, 114, 115, 116, 117, 118, 119, 120, 121, 122, 123] (by decide +kernel) (by decide +kernel)
set_option maxRecDepth 20000 in
theorem gX5_lots_X5_no : GoodIn wsX5_lots (wsV RX5 75 RX5 yX5_no wsX5_no) := goodIn_app (goodIn_of _ (by decide +kernel)) ggX5_lots_X5_no
set_option maxRecDepth 20000 in
theorem ggX5_lots_X5_thinks : GoodIn wsX5_lots wsX5_thinks := goodIn_r _ [20, 21, 22, 23, 7, 24, 25, 26, 27, 28, 29, 30, 31, 32, 33, 34, 1, 35, 36, 37, 38, 39, 40, 41, 42, 43, 44, 45, 97, 98, 99, 100, 101, 102, 103, 104, 105, 106, 107, 108, 109, 110, 111, 112, 113, 114, 115, 116, 117, 118, 119, 120, 121, 122, 123] (by decide +kernel) (by decide +kernel)
set_option maxRecDepth 20000 in
theorem gX5_lots_X5_thinks : GoodIn wsX5_lots (wsV RX5 209 RX5 yX5_thinks wsX5_thinks) := goodIn_app (goodIn_of _ (by decide +kernel)) ggX5_lots_X5_thinks
set_option maxRecDepth 20000 in
theorem ggX5_lots_X5_canTell : GoodIn wsX5_lots wsX5_canTell := goodIn_r _ [49, 32, 29, 33, 50, 51, 52, 7, 53, 1, 97, 98, 99, 100, 101, 102, 103, 104, 105, 106, 107, 108, 109, 110, 111, 112, 113, 114, 115, 116, 117, 118, 119, 120, 121, 122, 123] (by decide +kernel) (by decide +kernel)
set_option maxRecDepth 20000 in
theorem gX5_lots_X5_canTell : GoodIn wsX5_lots (wsV RX5 123 RX5 yX5_canTell wsX5_canTell) := goodIn_app (goodIn_of _ (by decide +kernel)) ggX5_lots_X5_canTell
set_option maxRecDepth 20000 in
theorem ggX5_lots_X5_tellsOne : GoodIn wsX5_lots wsX5_tellsOne := goodIn_r _ [57, 32, 35, 34, 29, 28, 33, 58, 59, 7, 60, 61, 62, 63, 64, 36, 65, 66, 67, 68, 31, 30, 69, 70, 71, 72, 73, 74, 75, 76, 77, 78, 79, 80, 27, 97, 98, 99, 100, 101, 102, 103, 104, 105, 106, 107, 108, 109, 110, 111, 112, 113, 114, 115, 116, 117, 118, 119, 120, 121, 122, 123] (by decide +kernel) (by decide +kernel)
set_option maxRecDepth 20000 in
theorem gX5_lots_X5_tellsOne : GoodIn wsX5_lots (wsV RX5 126 RX5 yX5_tellsOne wsX5_tellsOne) := goodIn_app (goodIn_of _ (by decide +kernel)) ggX5_lots_X5_tellsOne
set_option maxRecDepth 20000 in
theorem ggX5_lots_X5_goesTide : GoodIn wsX5_lots wsX5_goesTide := goodIn_r _ [84, 36, 1, 29, 33, 32, 34, 85, 86, 87, 7, 88, 30, 58, 59, 60, 97, 98, 99, 100, 101, 102, 103, 104, 105, 106, 107, 108, 109, 110, 111, 112, 113, 114, 115, 116, 117, 118, 119, 120, 121, 122, 123] (by decide +kernel) (by decide +kernel)
set_option maxRecDepth 20000 in
theorem gX5_lots_X5_goesTide : GoodIn wsX5_lots (wsV RX5 191 RX5 yX5_goesTide wsX5_goesTide) := goodIn_app (goodIn_of _ (by decide +kernel)) ggX5_lots_X5_goesTide
set_option maxRecDepth 20000 in
theorem ggX5_lots_X5_allSins : GoodIn wsX5_lots wsX5_allSins := goodIn_r _ [92, 1, 32, 97, 98, 99, 100, 101, 102, 103, 104, 105, 106, 107, 108, 109, 110, 111, 112, 113, 114, 115, 116, 117, 118, 119, 120, 121, 122, 123] (by decide +kernel) (by decide +kernel)
set_option maxRecDepth 20000 in
theorem gX5_lots_X5_allSins : GoodIn wsX5_lots (wsV RX5 270 RX5 yX5_allSins wsX5_allSins) := goodIn_app (goodIn_of _ (by decide +kernel)) ggX5_lots_X5_allSins
set_option maxRecDepth 20000 in
theorem ggX5_lots_X5_forgets : GoodIn wsX5_lots wsX5_forgets := goodIn_r _ [96, 21, 22, 23, 7, 24, 25, 26, 27, 28, 29, 30, 31, 32, 33, 34, 1, 35, 36, 37, 38, 39, 40, 41, 42, 43, 44, 45, 97, 98, 99, 100, 101, 102, 103, 104, 105, 106, 107, 108, 109, 110, 111, 112, 113, 114, 115, 116, 117, 118, 119, 120, 121, 122, 123] (by decide +kernel) (by decide +kernel)
set_option maxRecDepth 20000 in
theorem gX5_lots_X5_forgets : GoodIn wsX5_lots (wsV RX5 212 RX5 yX5_forgets wsX5_forgets) := goodIn_app (goodIn_of _ (by decide +kernel)) ggX5_lots_X5_forgets
theorem dX5_lots_0 : decode cX5_lots 0 = .ok (.iload_n 1, 1) := by decide +kernel
theorem dX5_lots_1 : decode cX5_lots 1 = .ok (.iconst 1, 1) := by decide +kernel
theorem dX5_lots_2 : decode cX5_lots 2 = .ok (.bipush 20, 2) := by decide +kernel
theorem dX5_lots_4 : decode cX5_lots 4 = .ok (.invokestatic 68, 3) := by decide +kernel
theorem dX5_lots_7 : decode cX5_lots 7 = .ok (.istore 4, 2) := by decide +kernel
theorem dX5_lots_9 : decode cX5_lots 9 = .ok (.iload 4, 2) := by decide +kernel
theorem dX5_lots_11 : decode cX5_lots 11 = .ok (.ifCond .ne 32, 3) := by decide +kernel
theorem dX5_lots_14 : decode cX5_lots 14 = .ok (.iload_n 3, 1) := by decide +kernel
theorem dX5_lots_15 : decode cX5_lots 15 = .ok (.iconst 0, 1) := by decide +kernel
theorem dX5_lots_16 : decode cX5_lots 16 = .ok (.iconst 1, 1) := by decide +kernel
theorem dX5_lots_17 : decode cX5_lots 17 = .ok (.invokestatic 86, 3) := by decide +kernel
theorem dX5_lots_20 : decode cX5_lots 20 = .ok (.ifCond .ne 8, 3) := by decide +kernel
theorem dX5_lots_23 : decode cX5_lots 23 = .ok (.bipush (-2), 2) := by decide +kernel
theorem dX5_lots_25 : decode cX5_lots 25 = .ok (.goto 16, 3) := by decide +kernel
theorem dX5_lots_28 : decode cX5_lots 28 = .ok (.aload_n 0, 1) := by decide +kernel
theorem dX5_lots_29 : decode cX5_lots 29 = .ok (.getfield 65, 3) := by decide +kernel
theorem dX5_lots_32 : decode cX5_lots 32 = .ok (.ifCond .ne 8, 3) := by decide +kernel
theorem dX5_lots_35 : decode cX5_lots 35 = .ok (.bipush (-3), 2) := by decide +kernel
theorem dX5_lots_37 : decode cX5_lots 37 = .ok (.goto 4, 3) := by decide +kernel
theorem dX5_lots_40 : decode cX5_lots 40 = .ok (.iconst 0, 1) := by decide +kernel
theorem dX5_lots_41 : decode cX5_lots 41 = .ok (.istore 4, 2) := by decide +kernel
theorem dX5_lots_43 : decode cX5_lots 43 = .ok (.iload 4, 2) := by decide +kernel
theorem dX5_lots_45 : decode cX5_lots 45 = .ok (.ifCond .eq 10, 3) := by decide +kernel
theorem dX5_lots_48 : decode cX5_lots 48 = .ok (.aload_n 0, 1) := by decide +kernel
theorem dX5_lots_49 : decode cX5_lots 49 = .ok (.iload 4, 2) := by decide +kernel
theorem dX5_lots_51 : decode cX5_lots 51 = .ok (.invokevirtual 75, 3) := by decide +kernel
theorem dX5_lots_54 : decode cX5_lots 54 = .ok (.ireturn, 1) := by decide +kernel
theorem dX5_lots_55 : decode cX5_lots 55 = .ok (.iload_n 2, 1) := by decide +kernel
theorem dX5_lots_56 : decode cX5_lots 56 = .ok (.istore 5, 2) := by decide +kernel
theorem dX5_lots_58 : decode cX5_lots 58 = .ok (.iconst 0, 1) := by decide +kernel
theorem dX5_lots_59 : decode cX5_lots 59 = .ok (.istore 6, 2) := by decide +kernel
theorem dX5_lots_61 : decode cX5_lots 61 = .ok (.iconst 0, 1) := by decide +kernel
theorem dX5_lots_62 : decode cX5_lots 62 = .ok (.istore 7, 2) := by decide +kernel
theorem dX5_lots_64 : decode cX5_lots 64 = .ok (.iconst 0, 1) := by decide +kernel
theorem dX5_lots_65 : decode cX5_lots 65 = .ok (.istore 8, 2) := by decide +kernel
theorem dX5_lots_67 : decode cX5_lots 67 = .ok (.iload 8, 2) := by decide +kernel
theorem dX5_lots_69 : decode cX5_lots 69 = .ok (.iload_n 1, 1) := by decide +kernel
theorem dX5_lots_70 : decode cX5_lots 70 = .ok (.if_icmp .ge 99, 3) := by decide +kernel
theorem dX5_lots_73 : decode cX5_lots 73 = .ok (.aload_n 0, 1) := by decide +kernel
theorem dX5_lots_74 : decode cX5_lots 74 = .ok (.invokevirtual 209, 3) := by decide +kernel
theorem dX5_lots_77 : decode cX5_lots 77 = .ok (.iconst 0, 1) := by decide +kernel
theorem dX5_lots_78 : decode cX5_lots 78 = .ok (.istore 9, 2) := by decide +kernel
theorem dX5_lots_80 : decode cX5_lots 80 = .ok (.iload 9, 2) := by decide +kernel
theorem dX5_lots_82 : decode cX5_lots 82 = .ok (.bipush 12, 2) := by decide +kernel
theorem dX5_lots_84 : decode cX5_lots 84 = .ok (.if_icmp .ge 66, 3) := by decide +kernel
theorem dX5_lots_87 : decode cX5_lots 87 = .ok (.iload 5, 2) := by decide +kernel
theorem dX5_lots_89 : decode cX5_lots 89 = .ok (.ldc_w 283, 3) := by decide +kernel
theorem dX5_lots_92 : decode cX5_lots 92 = .ok (.imul, 1) := by decide +kernel
theorem dX5_lots_93 : decode cX5_lots 93 = .ok (.ldc_w 284, 3) := by decide +kernel
theorem dX5_lots_96 : decode cX5_lots 96 = .ok (.iadd, 1) := by decide +kernel
theorem dX5_lots_97 : decode cX5_lots 97 = .ok (.istore 5, 2) := by decide +kernel
theorem dX5_lots_99 : decode cX5_lots 99 = .ok (.iload 5, 2) := by decide +kernel
theorem dX5_lots_101 : decode cX5_lots 101 = .ok (.ldc_w 285, 3) := by decide +kernel
theorem dX5_lots_104 : decode cX5_lots 104 = .ok (.iand, 1) := by decide +kernel
theorem dX5_lots_105 : decode cX5_lots 105 = .ok (.sipush 256, 3) := by decide +kernel
theorem dX5_lots_108 : decode cX5_lots 108 = .ok (.idiv, 1) := by decide +kernel
theorem dX5_lots_109 : decode cX5_lots 109 = .ok (.aload_n 0, 1) := by decide +kernel
theorem dX5_lots_110 : decode cX5_lots 110 = .ok (.getfield 65, 3) := by decide +kernel
theorem dX5_lots_113 : decode cX5_lots 113 = .ok (.irem, 1) := by decide +kernel
theorem dX5_lots_114 : decode cX5_lots 114 = .ok (.istore 10, 2) := by decide +kernel
theorem dX5_lots_116 : decode cX5_lots 116 = .ok (.iload 6, 2) := by decide +kernel
theorem dX5_lots_118 : decode cX5_lots 118 = .ok (.aload_n 0, 1) := by decide +kernel
theorem dX5_lots_119 : decode cX5_lots 119 = .ok (.iload 10, 2) := by decide +kernel
theorem dX5_lots_121 : decode cX5_lots 121 = .ok (.invokevirtual 123, 3) := by decide +kernel
theorem dX5_lots_124 : decode cX5_lots 124 = .ok (.ifCond .eq 12, 3) := by decide +kernel
theorem dX5_lots_127 : decode cX5_lots 127 = .ok (.aload_n 0, 1) := by decide +kernel
theorem dX5_lots_128 : decode cX5_lots 128 = .ok (.iload 10, 2) := by decide +kernel
theorem dX5_lots_130 : decode cX5_lots 130 = .ok (.invokevirtual 126, 3) := by decide +kernel
theorem dX5_lots_133 : decode cX5_lots 133 = .ok (.goto 4, 3) := by decide +kernel
theorem dX5_lots_136 : decode cX5_lots 136 = .ok (.iconst 0, 1) := by decide +kernel
theorem dX5_lots_137 : decode cX5_lots 137 = .ok (.iadd, 1) := by decide +kernel
theorem dX5_lots_138 : decode cX5_lots 138 = .ok (.istore 6, 2) := by decide +kernel
theorem dX5_lots_140 : decode cX5_lots 140 = .ok (.aload_n 0, 1) := by decide +kernel
theorem dX5_lots_141 : decode cX5_lots 141 = .ok (.invokevirtual 191, 3) := by decide +kernel
theorem dX5_lots_144 : decode cX5_lots 144 = .ok (.iinc 9 1, 3) := by decide +kernel
theorem dX5_lots_147 : decode cX5_lots 147 = .ok (.goto (-67), 3) := by decide +kernel
theorem dX5_lots_150 : decode cX5_lots 150 = .ok (.iload 7, 2) := by decide +kernel
theorem dX5_lots_152 : decode cX5_lots 152 = .ok (.aload_n 0, 1) := by decide +kernel
theorem dX5_lots_153 : decode cX5_lots 153 = .ok (.invokevirtual 270, 3) := by decide +kernel
theorem dX5_lots_156 : decode cX5_lots 156 = .ok (.iadd, 1) := by decide +kernel
theorem dX5_lots_157 : decode cX5_lots 157 = .ok (.istore 7, 2) := by decide +kernel
theorem dX5_lots_159 : decode cX5_lots 159 = .ok (.aload_n 0, 1) := by decide +kernel
theorem dX5_lots_160 : decode cX5_lots 160 = .ok (.invokevirtual 212, 3) := by decide +kernel
theorem dX5_lots_163 : decode cX5_lots 163 = .ok (.iinc 8 1, 3) := by decide +kernel
theorem dX5_lots_166 : decode cX5_lots 166 = .ok (.goto (-99), 3) := by decide +kernel
theorem dX5_lots_169 : decode cX5_lots 169 = .ok (.iload_n 3, 1) := by decide +kernel
theorem dX5_lots_170 : decode cX5_lots 170 = .ok (.ifCond .ne 8, 3) := by decide +kernel
theorem dX5_lots_173 : decode cX5_lots 173 = .ok (.iload 6, 2) := by decide +kernel
theorem dX5_lots_175 : decode cX5_lots 175 = .ok (.goto 5, 3) := by decide +kernel
theorem dX5_lots_178 : decode cX5_lots 178 = .ok (.iload 7, 2) := by decide +kernel
theorem dX5_lots_180 : decode cX5_lots 180 = .ok (.ireturn, 1) := by decide +kernel
set_option maxRecDepth 20000 in
theorem ggX5_count_X5_isIn : GoodIn wsX5_count wsX5_isIn := goodIn_r _ [11] (by decide +kernel) (by decide +kernel)
set_option maxRecDepth 20000 in
theorem gX5_count_X5_isIn : GoodIn wsX5_count (va_wsS RX5 86 yX5_isIn wsX5_isIn) := goodIn_app (goodIn_of _ (by decide +kernel)) ggX5_count_X5_isIn
set_option maxRecDepth 20000 in
theorem ggX5_count_X5_outOnes : GoodIn wsX5_count wsX5_outOnes := goodIn_r _ [15, 2, 16, 22, 23, 24, 25, 26, 27, 28, 29, 30, 31, 32, 33, 34, 35, 36, 37, 38, 39, 40, 41, 42, 43, 44, 45, 46, 47, 48] (by decide +kernel) (by decide +kernel)
set_option maxRecDepth 20000 in
theorem gX5_count_X5_outOnes : GoodIn wsX5_count (wsV RX5 203 RX5 yX5_outOnes wsX5_outOnes) := goodIn_app (goodIn_of _ (by decide +kernel)) ggX5_count_X5_outOnes
set_option maxRecDepth 20000 in
theorem ggX5_count_X5_allSins : GoodIn wsX5_count wsX5_allSins := goodIn_r _ [20, 3, 21, 22, 23, 24, 25, 26, 27, 28, 29, 30, 31, 32, 33, 34, 35, 36, 37, 38, 39, 40, 41, 42, 43, 44, 45, 46, 47, 48] (by decide +kernel) (by decide +kernel)
set_option maxRecDepth 20000 in
theorem gX5_count_X5_allSins : GoodIn wsX5_count (wsV RX5 270 RX5 yX5_allSins wsX5_allSins) := goodIn_app (goodIn_of _ (by decide +kernel)) ggX5_count_X5_allSins
theorem dX5_count_0 : decode cX5_count 0 = .ok (.iload_n 1, 1) := by decide +kernel
theorem dX5_count_1 : decode cX5_count 1 = .ok (.bipush 11, 2) := by decide +kernel
theorem dX5_count_3 : decode cX5_count 3 = .ok (.bipush 16, 2) := by decide +kernel
theorem dX5_count_5 : decode cX5_count 5 = .ok (.invokestatic 86, 3) := by decide +kernel
theorem dX5_count_8 : decode cX5_count 8 = .ok (.ifCond .eq 13, 3) := by decide +kernel
theorem dX5_count_11 : decode cX5_count 11 = .ok (.aload_n 0, 1) := by decide +kernel
theorem dX5_count_12 : decode cX5_count 12 = .ok (.getfield 7, 3) := by decide +kernel
theorem dX5_count_15 : decode cX5_count 15 = .ok (.iload_n 1, 1) := by decide +kernel
theorem dX5_count_16 : decode cX5_count 16 = .ok (.bipush 10, 2) := by decide +kernel
theorem dX5_count_18 : decode cX5_count 18 = .ok (.isub, 1) := by decide +kernel
theorem dX5_count_19 : decode cX5_count 19 = .ok (.iaload, 1) := by decide +kernel
theorem dX5_count_20 : decode cX5_count 20 = .ok (.ireturn, 1) := by decide +kernel
theorem dX5_count_21 : decode cX5_count 21 = .ok (.iload_n 1, 1) := by decide +kernel
theorem dX5_count_22 : decode cX5_count 22 = .ok (.tableswitch 86 0 7 #[46, 51, 56, 61, 66, 71, 76, 81], 46) := by decide +kernel
theorem dX5_count_68 : decode cX5_count 68 = .ok (.aload_n 0, 1) := by decide +kernel
theorem dX5_count_69 : decode cX5_count 69 = .ok (.getfield 58, 3) := by decide +kernel
theorem dX5_count_72 : decode cX5_count 72 = .ok (.ireturn, 1) := by decide +kernel
theorem dX5_count_73 : decode cX5_count 73 = .ok (.aload_n 0, 1) := by decide +kernel
theorem dX5_count_74 : decode cX5_count 74 = .ok (.getfield 65, 3) := by decide +kernel
theorem dX5_count_77 : decode cX5_count 77 = .ok (.ireturn, 1) := by decide +kernel
theorem dX5_count_78 : decode cX5_count 78 = .ok (.aload_n 0, 1) := by decide +kernel
theorem dX5_count_79 : decode cX5_count 79 = .ok (.getfield 110, 3) := by decide +kernel
theorem dX5_count_82 : decode cX5_count 82 = .ok (.ireturn, 1) := by decide +kernel
theorem dX5_count_83 : decode cX5_count 83 = .ok (.aload_n 0, 1) := by decide +kernel
theorem dX5_count_84 : decode cX5_count 84 = .ok (.getfield 160, 3) := by decide +kernel
theorem dX5_count_87 : decode cX5_count 87 = .ok (.ireturn, 1) := by decide +kernel
theorem dX5_count_88 : decode cX5_count 88 = .ok (.aload_n 0, 1) := by decide +kernel
theorem dX5_count_89 : decode cX5_count 89 = .ok (.invokevirtual 203, 3) := by decide +kernel
theorem dX5_count_92 : decode cX5_count 92 = .ok (.ireturn, 1) := by decide +kernel
theorem dX5_count_93 : decode cX5_count 93 = .ok (.aload_n 0, 1) := by decide +kernel
theorem dX5_count_94 : decode cX5_count 94 = .ok (.invokevirtual 270, 3) := by decide +kernel
theorem dX5_count_97 : decode cX5_count 97 = .ok (.ireturn, 1) := by decide +kernel
theorem dX5_count_98 : decode cX5_count 98 = .ok (.aload_n 0, 1) := by decide +kernel
theorem dX5_count_99 : decode cX5_count 99 = .ok (.getfield 273, 3) := by decide +kernel
theorem dX5_count_102 : decode cX5_count 102 = .ok (.ireturn, 1) := by decide +kernel
theorem dX5_count_103 : decode cX5_count 103 = .ok (.aload_n 0, 1) := by decide +kernel
theorem dX5_count_104 : decode cX5_count 104 = .ok (.getfield 72, 3) := by decide +kernel
theorem dX5_count_107 : decode cX5_count 107 = .ok (.ireturn, 1) := by decide +kernel
theorem dX5_count_108 : decode cX5_count 108 = .ok (.bipush (-9), 2) := by decide +kernel
theorem dX5_count_110 : decode cX5_count 110 = .ok (.ireturn, 1) := by decide +kernel
theorem dJ11_isValidCodePoint_9a6ad_0 : decode cJ11_isValidCodePoint_9a6ad 0 = .ok (.iload_n 0, 1) := by decide +kernel
theorem dJ11_isValidCodePoint_9a6ad_1 : decode cJ11_isValidCodePoint_9a6ad 1 = .ok (.bipush 16, 2) := by decide +kernel
theorem dJ11_isValidCodePoint_9a6ad_3 : decode cJ11_isValidCodePoint_9a6ad 3 = .ok (.iushr, 1) := by decide +kernel
theorem dJ11_isValidCodePoint_9a6ad_4 : decode cJ11_isValidCodePoint_9a6ad 4 = .ok (.istore_n 1, 1) := by decide +kernel
theorem dJ11_isValidCodePoint_9a6ad_5 : decode cJ11_isValidCodePoint_9a6ad 5 = .ok (.iload_n 1, 1) := by decide +kernel
theorem dJ11_isValidCodePoint_9a6ad_6 : decode cJ11_isValidCodePoint_9a6ad 6 = .ok (.bipush 17, 2) := by decide +kernel
theorem dJ11_isValidCodePoint_9a6ad_8 : decode cJ11_isValidCodePoint_9a6ad 8 = .ok (.if_icmp .ge 7, 3) := by decide +kernel
theorem dJ11_isValidCodePoint_9a6ad_11 : decode cJ11_isValidCodePoint_9a6ad 11 = .ok (.iconst 1, 1) := by decide +kernel
theorem dJ11_isValidCodePoint_9a6ad_12 : decode cJ11_isValidCodePoint_9a6ad 12 = .ok (.goto 4, 3) := by decide +kernel
theorem dJ11_isValidCodePoint_9a6ad_15 : decode cJ11_isValidCodePoint_9a6ad 15 = .ok (.iconst 0, 1) := by decide +kernel
theorem dJ11_isValidCodePoint_9a6ad_16 : decode cJ11_isValidCodePoint_9a6ad 16 = .ok (.ireturn, 1) := by decide +kernel
theorem dJ11_highSurrogate_5068e_0 : decode cJ11_highSurrogate_5068e 0 = .ok (.iload_n 0, 1) := by decide +kernel
theorem dJ11_highSurrogate_5068e_1 : decode cJ11_highSurrogate_5068e 1 = .ok (.bipush 10, 2) := by decide +kernel
theorem dJ11_highSurrogate_5068e_3 : decode cJ11_highSurrogate_5068e 3 = .ok (.iushr, 1) := by decide +kernel
theorem dJ11_highSurrogate_5068e_4 : decode cJ11_highSurrogate_5068e 4 = .ok (.ldc 110, 2) := by decide +kernel
theorem dJ11_highSurrogate_5068e_6 : decode cJ11_highSurrogate_5068e 6 = .ok (.iadd, 1) := by decide +kernel
theorem dJ11_highSurrogate_5068e_7 : decode cJ11_highSurrogate_5068e 7 = .ok (.i2c, 1) := by decide +kernel
theorem dJ11_highSurrogate_5068e_8 : decode cJ11_highSurrogate_5068e 8 = .ok (.ireturn, 1) := by decide +kernel
theorem dJ11_lowSurrogate_5068e_0 : decode cJ11_lowSurrogate_5068e 0 = .ok (.iload_n 0, 1) := by decide +kernel
theorem dJ11_lowSurrogate_5068e_1 : decode cJ11_lowSurrogate_5068e 1 = .ok (.sipush 1023, 3) := by decide +kernel
theorem dJ11_lowSurrogate_5068e_4 : decode cJ11_lowSurrogate_5068e 4 = .ok (.iand, 1) := by decide +kernel
theorem dJ11_lowSurrogate_5068e_5 : decode cJ11_lowSurrogate_5068e 5 = .ok (.ldc 76, 2) := by decide +kernel
theorem dJ11_lowSurrogate_5068e_7 : decode cJ11_lowSurrogate_5068e 7 = .ok (.iadd, 1) := by decide +kernel
theorem dJ11_lowSurrogate_5068e_8 : decode cJ11_lowSurrogate_5068e 8 = .ok (.i2c, 1) := by decide +kernel
theorem dJ11_lowSurrogate_5068e_9 : decode cJ11_lowSurrogate_5068e 9 = .ok (.ireturn, 1) := by decide +kernel
theorem dJ6_bitCount_0f7a4_0 : decode cJ6_bitCount_0f7a4 0 = .ok (.iload_n 0, 1) := by decide +kernel
theorem dJ6_bitCount_0f7a4_1 : decode cJ6_bitCount_0f7a4 1 = .ok (.iload_n 0, 1) := by decide +kernel
theorem dJ6_bitCount_0f7a4_2 : decode cJ6_bitCount_0f7a4 2 = .ok (.iconst 1, 1) := by decide +kernel
theorem dJ6_bitCount_0f7a4_3 : decode cJ6_bitCount_0f7a4 3 = .ok (.iushr, 1) := by decide +kernel
theorem dJ6_bitCount_0f7a4_4 : decode cJ6_bitCount_0f7a4 4 = .ok (.ldc_w 265, 3) := by decide +kernel
theorem dJ6_bitCount_0f7a4_7 : decode cJ6_bitCount_0f7a4 7 = .ok (.iand, 1) := by decide +kernel
theorem dJ6_bitCount_0f7a4_8 : decode cJ6_bitCount_0f7a4 8 = .ok (.isub, 1) := by decide +kernel
theorem dJ6_bitCount_0f7a4_9 : decode cJ6_bitCount_0f7a4 9 = .ok (.istore_n 0, 1) := by decide +kernel
theorem dJ6_bitCount_0f7a4_10 : decode cJ6_bitCount_0f7a4 10 = .ok (.iload_n 0, 1) := by decide +kernel
theorem dJ6_bitCount_0f7a4_11 : decode cJ6_bitCount_0f7a4 11 = .ok (.ldc_w 266, 3) := by decide +kernel
theorem dJ6_bitCount_0f7a4_14 : decode cJ6_bitCount_0f7a4 14 = .ok (.iand, 1) := by decide +kernel
theorem dJ6_bitCount_0f7a4_15 : decode cJ6_bitCount_0f7a4 15 = .ok (.iload_n 0, 1) := by decide +kernel
theorem dJ6_bitCount_0f7a4_16 : decode cJ6_bitCount_0f7a4 16 = .ok (.iconst 2, 1) := by decide +kernel
theorem dJ6_bitCount_0f7a4_17 : decode cJ6_bitCount_0f7a4 17 = .ok (.iushr, 1) := by decide +kernel
theorem dJ6_bitCount_0f7a4_18 : decode cJ6_bitCount_0f7a4 18 = .ok (.ldc_w 266, 3) := by decide +kernel
theorem dJ6_bitCount_0f7a4_21 : decode cJ6_bitCount_0f7a4 21 = .ok (.iand, 1) := by decide +kernel
theorem dJ6_bitCount_0f7a4_22 : decode cJ6_bitCount_0f7a4 22 = .ok (.iadd, 1) := by decide +kernel
theorem dJ6_bitCount_0f7a4_23 : decode cJ6_bitCount_0f7a4 23 = .ok (.istore_n 0, 1) := by decide +kernel
theorem dJ6_bitCount_0f7a4_24 : decode cJ6_bitCount_0f7a4 24 = .ok (.iload_n 0, 1) := by decide +kernel
theorem dJ6_bitCount_0f7a4_25 : decode cJ6_bitCount_0f7a4 25 = .ok (.iload_n 0, 1) := by decide +kernel
theorem dJ6_bitCount_0f7a4_26 : decode cJ6_bitCount_0f7a4 26 = .ok (.iconst 4, 1) := by decide +kernel
theorem dJ6_bitCount_0f7a4_27 : decode cJ6_bitCount_0f7a4 27 = .ok (.iushr, 1) := by decide +kernel
theorem dJ6_bitCount_0f7a4_28 : decode cJ6_bitCount_0f7a4 28 = .ok (.iadd, 1) := by decide +kernel
theorem dJ6_bitCount_0f7a4_29 : decode cJ6_bitCount_0f7a4 29 = .ok (.ldc_w 267, 3) := by decide +kernel
theorem dJ6_bitCount_0f7a4_32 : decode cJ6_bitCount_0f7a4 32 = .ok (.iand, 1) := by decide +kernel
theorem dJ6_bitCount_0f7a4_33 : decode cJ6_bitCount_0f7a4 33 = .ok (.istore_n 0, 1) := by decide +kernel
theorem dJ6_bitCount_0f7a4_34 : decode cJ6_bitCount_0f7a4 34 = .ok (.iload_n 0, 1) := by decide +kernel
theorem dJ6_bitCount_0f7a4_35 : decode cJ6_bitCount_0f7a4 35 = .ok (.iload_n 0, 1) := by decide +kernel
theorem dJ6_bitCount_0f7a4_36 : decode cJ6_bitCount_0f7a4 36 = .ok (.bipush 8, 2) := by decide +kernel
theorem dJ6_bitCount_0f7a4_38 : decode cJ6_bitCount_0f7a4 38 = .ok (.iushr, 1) := by decide +kernel
theorem dJ6_bitCount_0f7a4_39 : decode cJ6_bitCount_0f7a4 39 = .ok (.iadd, 1) := by decide +kernel
theorem dJ6_bitCount_0f7a4_40 : decode cJ6_bitCount_0f7a4 40 = .ok (.istore_n 0, 1) := by decide +kernel
theorem dJ6_bitCount_0f7a4_41 : decode cJ6_bitCount_0f7a4 41 = .ok (.iload_n 0, 1) := by decide +kernel
theorem dJ6_bitCount_0f7a4_42 : decode cJ6_bitCount_0f7a4 42 = .ok (.iload_n 0, 1) := by decide +kernel
theorem dJ6_bitCount_0f7a4_43 : decode cJ6_bitCount_0f7a4 43 = .ok (.bipush 16, 2) := by decide +kernel
theorem dJ6_bitCount_0f7a4_45 : decode cJ6_bitCount_0f7a4 45 = .ok (.iushr, 1) := by decide +kernel
theorem dJ6_bitCount_0f7a4_46 : decode cJ6_bitCount_0f7a4 46 = .ok (.iadd, 1) := by decide +kernel
theorem dJ6_bitCount_0f7a4_47 : decode cJ6_bitCount_0f7a4 47 = .ok (.istore_n 0, 1) := by decide +kernel
theorem dJ6_bitCount_0f7a4_48 : decode cJ6_bitCount_0f7a4 48 = .ok (.iload_n 0, 1) := by decide +kernel
theorem dJ6_bitCount_0f7a4_49 : decode cJ6_bitCount_0f7a4 49 = .ok (.bipush 63, 2) := by decide +kernel
theorem dJ6_bitCount_0f7a4_51 : decode cJ6_bitCount_0f7a4 51 = .ok (.iand, 1) := by decide +kernel
theorem dJ6_bitCount_0f7a4_52 : decode cJ6_bitCount_0f7a4 52 = .ok (.ireturn, 1) := by decide +kernel
theorem dJ9_max_7cf53_0 : decode cJ9_max_7cf53 0 = .ok (.iload_n 0, 1) := by decide +kernel
theorem dJ9_max_7cf53_1 : decode cJ9_max_7cf53 1 = .ok (.iload_n 1, 1) := by decide +kernel
theorem dJ9_max_7cf53_2 : decode cJ9_max_7cf53 2 = .ok (.if_icmp .lt 7, 3) := by decide +kernel
theorem dJ9_max_7cf53_5 : decode cJ9_max_7cf53 5 = .ok (.iload_n 0, 1) := by decide +kernel
theorem dJ9_max_7cf53_6 : decode cJ9_max_7cf53 6 = .ok (.goto 4, 3) := by decide +kernel
theorem dJ9_max_7cf53_9 : decode cJ9_max_7cf53 9 = .ok (.iload_n 1, 1) := by decide +kernel
theorem dJ9_max_7cf53_10 : decode cJ9_max_7cf53 10 = .ok (.ireturn, 1) := by decide +kernel
theorem dJ9_min_7cf53_0 : decode cJ9_min_7cf53 0 = .ok (.iload_n 0, 1) := by decide +kernel
theorem dJ9_min_7cf53_1 : decode cJ9_min_7cf53 1 = .ok (.iload_n 1, 1) := by decide +kernel
theorem dJ9_min_7cf53_2 : decode cJ9_min_7cf53 2 = .ok (.if_icmp .gt 7, 3) := by decide +kernel
theorem dJ9_min_7cf53_5 : decode cJ9_min_7cf53 5 = .ok (.iload_n 0, 1) := by decide +kernel
theorem dJ9_min_7cf53_6 : decode cJ9_min_7cf53 6 = .ok (.goto 4, 3) := by decide +kernel
theorem dJ9_min_7cf53_9 : decode cJ9_min_7cf53 9 = .ok (.iload_n 1, 1) := by decide +kernel
theorem dJ9_min_7cf53_10 : decode cJ9_min_7cf53 10 = .ok (.ireturn, 1) := by decide +kernel
set_option maxRecDepth 20000 in
theorem ggJ0_length_8abf5_J0_coder_7d493 : GoodIn wsJ0_length_8abf5 wsJ0_coder_7d493 := goodIn_r _ [6, 7, 8] (by decide +kernel) (by decide +kernel)
set_option maxRecDepth 20000 in
theorem gJ0_length_8abf5_J0_coder_7d493 : GoodIn wsJ0_length_8abf5 (wsV RJ0 335 RJ0 yJ0_coder_7d493 wsJ0_coder_7d493) := goodIn_app (goodIn_of _ (by decide +kernel)) ggJ0_length_8abf5_J0_coder_7d493
theorem dJ0_length_8abf5_0 : decode cJ0_length_8abf5 0 = .ok (.aload_n 0, 1) := by decide +kernel
theorem dJ0_length_8abf5_1 : decode cJ0_length_8abf5 1 = .ok (.getfield 9, 3) := by decide +kernel
theorem dJ0_length_8abf5_4 : decode cJ0_length_8abf5 4 = .ok (.arraylength, 1) := by decide +kernel
theorem dJ0_length_8abf5_5 : decode cJ0_length_8abf5 5 = .ok (.aload_n 0, 1) := by decide +kernel
theorem dJ0_length_8abf5_6 : decode cJ0_length_8abf5 6 = .ok (.invokevirtual 335, 3) := by decide +kernel
theorem dJ0_length_8abf5_9 : decode cJ0_length_8abf5 9 = .ok (.ishr, 1) := by decide +kernel
theorem dJ0_length_8abf5_10 : decode cJ0_length_8abf5 10 = .ok (.ireturn, 1) := by decide +kernel
theorem dJ0_isEmpty_aae02_0 : decode cJ0_isEmpty_aae02 0 = .ok (.aload_n 0, 1) := by decide +kernel
theorem dJ0_isEmpty_aae02_1 : decode cJ0_isEmpty_aae02 1 = .ok (.getfield 9, 3) := by decide +kernel
theorem dJ0_isEmpty_aae02_4 : decode cJ0_isEmpty_aae02 4 = .ok (.arraylength, 1) := by decide +kernel
theorem dJ0_isEmpty_aae02_5 : decode cJ0_isEmpty_aae02 5 = .ok (.ifCond .ne 7, 3) := by decide +kernel
theorem dJ0_isEmpty_aae02_8 : decode cJ0_isEmpty_aae02 8 = .ok (.iconst 1, 1) := by decide +kernel
theorem dJ0_isEmpty_aae02_9 : decode cJ0_isEmpty_aae02 9 = .ok (.goto 4, 3) := by decide +kernel
theorem dJ0_isEmpty_aae02_12 : decode cJ0_isEmpty_aae02 12 = .ok (.iconst 0, 1) := by decide +kernel
theorem dJ0_isEmpty_aae02_13 : decode cJ0_isEmpty_aae02 13 = .ok (.ireturn, 1) := by decide +kernel
set_option maxRecDepth 20000 in
theorem ggJ0_charAt_5068e_J0_isLatin1_aae02 : GoodIn wsJ0_charAt_5068e wsJ0_isLatin1_aae02 := goodIn_r _ [6, 7, 8] (by decide +kernel) (by decide +kernel)
set_option maxRecDepth 20000 in
theorem gJ0_charAt_5068e_J0_isLatin1_aae02 : GoodIn wsJ0_charAt_5068e (wsV RJ0 492 RJ0 yJ0_isLatin1_aae02 wsJ0_isLatin1_aae02) := goodIn_app (goodIn_of _ (by decide +kernel)) ggJ0_charAt_5068e_J0_isLatin1_aae02
set_option maxRecDepth 20000 in
theorem ggJ0_charAt_5068e_J1_charAt_3b067 : GoodIn wsJ0_charAt_5068e wsJ1_charAt_3b067 := goodIn_r _ [12, 13, 14, 5, 15, 16, 17, 18, 19, 20] (by decide +kernel) (by decide +kernel)
set_option maxRecDepth 20000 in
theorem gJ0_charAt_5068e_J1_charAt_3b067 : GoodIn wsJ0_charAt_5068e (va_wsS RJ0 495 yJ1_charAt_3b067 wsJ1_charAt_3b067) := goodIn_app (goodIn_of _ (by decide +kernel)) ggJ0_charAt_5068e_J1_charAt_3b067
set_option maxRecDepth 20000 in
theorem ggJ0_charAt_5068e_J2_charAt_3b067 : GoodIn wsJ0_charAt_5068e wsJ2_charAt_3b067 := goodIn_r _ [24, 25, 26, 23, 27, 28, 29, 30, 31, 14, 5, 15, 16, 17, 18, 19, 20, 32, 33, 34, 35, 36, 37] (by decide +kernel) (by decide +kernel)
set_option maxRecDepth 20000 in
theorem gJ0_charAt_5068e_J2_charAt_3b067 : GoodIn wsJ0_charAt_5068e (va_wsS RJ0 498 yJ2_charAt_3b067 wsJ2_charAt_3b067) := goodIn_app (goodIn_of _ (by decide +kernel)) ggJ0_charAt_5068e_J2_charAt_3b067
theorem dJ0_charAt_5068e_0 : decode cJ0_charAt_5068e 0 = .ok (.aload_n 0, 1) := by decide +kernel
theorem dJ0_charAt_5068e_1 : decode cJ0_charAt_5068e 1 = .ok (.invokevirtual 492, 3) := by decide +kernel
theorem dJ0_charAt_5068e_4 : decode cJ0_charAt_5068e 4 = .ok (.ifCond .eq 12, 3) := by decide +kernel
theorem dJ0_charAt_5068e_7 : decode cJ0_charAt_5068e 7 = .ok (.aload_n 0, 1) := by decide +kernel
theorem dJ0_charAt_5068e_8 : decode cJ0_charAt_5068e 8 = .ok (.getfield 9, 3) := by decide +kernel
theorem dJ0_charAt_5068e_11 : decode cJ0_charAt_5068e 11 = .ok (.iload_n 1, 1) := by decide +kernel
theorem dJ0_charAt_5068e_12 : decode cJ0_charAt_5068e 12 = .ok (.invokestatic 495, 3) := by decide +kernel
theorem dJ0_charAt_5068e_15 : decode cJ0_charAt_5068e 15 = .ok (.ireturn, 1) := by decide +kernel
theorem dJ0_charAt_5068e_16 : decode cJ0_charAt_5068e 16 = .ok (.aload_n 0, 1) := by decide +kernel
theorem dJ0_charAt_5068e_17 : decode cJ0_charAt_5068e 17 = .ok (.getfield 9, 3) := by decide +kernel
theorem dJ0_charAt_5068e_20 : decode cJ0_charAt_5068e 20 = .ok (.iload_n 1, 1) := by decide +kernel
theorem dJ0_charAt_5068e_21 : decode cJ0_charAt_5068e 21 = .ok (.invokestatic 498, 3) := by decide +kernel
theorem dJ0_charAt_5068e_24 : decode cJ0_charAt_5068e 24 = .ok (.ireturn, 1) := by decide +kernel
set_option maxRecDepth 20000 in
theorem ggJ0_indexOf_0f7a4_J0_indexOf_7cf53 : GoodIn wsJ0_indexOf_0f7a4 wsJ0_indexOf_7cf53 := goodIn_r _ [5, 6, 7, 8, 9, 4, 10, 11, 12, 13, 14, 15, 16, 17, 18, 19, 20, 21, 22, 23, 24, 25, 26, 27, 28, 29, 30, 31, 32, 33, 34, 35, 36, 37, 38, 39, 40, 41, 42, 43, 44, 45, 46, 47, 48, 49, 50, 51, 52, 53, 54, 55, 56, 57, 58, 59, 60, 61, 62, 63, 64, 65, 66, 67, 68, 69, 70, 71, 72, 73, 74, 75, 76, 77, 78, 79, 80, 81, 82, 83, 84, 85] (by decide +kernel) (by decide +kernel)
set_option maxRecDepth 20000 in
theorem gJ0_indexOf_0f7a4_J0_indexOf_7cf53 : GoodIn wsJ0_indexOf_0f7a4 (wsV RJ0 633 RJ0 yJ0_indexOf_7cf53 wsJ0_indexOf_7cf53) := goodIn_app (goodIn_of _ (by decide +kernel)) ggJ0_indexOf_0f7a4_J0_indexOf_7cf53
theorem dJ0_indexOf_0f7a4_0 : decode cJ0_indexOf_0f7a4 0 = .ok (.aload_n 0, 1) := by decide +kernel
theorem dJ0_indexOf_0f7a4_1 : decode cJ0_indexOf_0f7a4 1 = .ok (.iload_n 1, 1) := by decide +kernel
theorem dJ0_indexOf_0f7a4_2 : decode cJ0_indexOf_0f7a4 2 = .ok (.iconst 0, 1) := by decide +kernel
theorem dJ0_indexOf_0f7a4_3 : decode cJ0_indexOf_0f7a4 3 = .ok (.invokevirtual 633, 3) := by decide +kernel
theorem dJ0_indexOf_0f7a4_6 : decode cJ0_indexOf_0f7a4 6 = .ok (.ireturn, 1) := by decide +kernel
set_option maxRecDepth 20000 in
theorem ggJ0_indexOf_7cf53_J0_isLatin1_aae02 : GoodIn wsJ0_indexOf_7cf53 wsJ0_isLatin1_aae02 := goodIn_r _ [6, 7, 8] (by decide +kernel) (by decide +kernel)
set_option maxRecDepth 20000 in
theorem gJ0_indexOf_7cf53_J0_isLatin1_aae02 : GoodIn wsJ0_indexOf_7cf53 (wsV RJ0 492 RJ0 yJ0_isLatin1_aae02 wsJ0_isLatin1_aae02) := goodIn_app (goodIn_of _ (by decide +kernel)) ggJ0_indexOf_7cf53_J0_isLatin1_aae02
set_option maxRecDepth 20000 in
theorem ggJ0_indexOf_7cf53_J0_length_8abf5 : GoodIn wsJ0_indexOf_7cf53 wsJ0_length_8abf5 := goodIn_r _ [12, 1, 13, 14, 15, 5, 16, 7, 8] (by decide +kernel) (by decide +kernel)
set_option maxRecDepth 20000 in
theorem gJ0_indexOf_7cf53_J0_length_8abf5 : GoodIn wsJ0_indexOf_7cf53 (wsV RJ0 505 RJ0 yJ0_length_8abf5 wsJ0_length_8abf5) := goodIn_app (goodIn_of _ (by decide +kernel)) ggJ0_indexOf_7cf53_J0_length_8abf5
set_option maxRecDepth 20000 in
theorem ggJ0_indexOf_7cf53_J1_indexOf_4cfef : GoodIn wsJ0_indexOf_7cf53 wsJ1_indexOf_4cfef := goodIn_r _ [20, 21, 22, 23, 24, 25, 26, 27, 28, 29, 19, 30, 31, 32, 33] (by decide +kernel) (by decide +kernel)
set_option maxRecDepth 20000 in
theorem gJ0_indexOf_7cf53_J1_indexOf_4cfef : GoodIn wsJ0_indexOf_7cf53 (va_wsS RJ0 637 yJ1_indexOf_4cfef wsJ1_indexOf_4cfef) := goodIn_app (goodIn_of _ (by decide +kernel)) ggJ0_indexOf_7cf53_J1_indexOf_4cfef
set_option maxRecDepth 20000 in
theorem ggJ0_indexOf_7cf53_J2_indexOf_4cfef : GoodIn wsJ0_indexOf_7cf53 wsJ2_indexOf_4cfef := goodIn_r _ [37, 38, 22, 23, 24, 39, 26, 27, 40, 41, 42, 36, 43, 44, 45, 46, 47, 48, 49, 50, 51, 5, 52, 53, 54, 55, 56, 57, 58, 59, 60, 61, 62, 63, 64, 65, 66, 67, 68, 69, 70, 71, 72, 73, 74, 75, 76, 77, 78, 79, 80, 81] (by decide +kernel) (by decide +kernel)
set_option maxRecDepth 20000 in
theorem gJ0_indexOf_7cf53_J2_indexOf_4cfef : GoodIn wsJ0_indexOf_7cf53 (va_wsS RJ0 640 yJ2_indexOf_4cfef wsJ2_indexOf_4cfef) := goodIn_app (goodIn_of _ (by decide +kernel)) ggJ0_indexOf_7cf53_J2_indexOf_4cfef
theorem dJ0_indexOf_7cf53_0 : decode cJ0_indexOf_7cf53 0 = .ok (.aload_n 0, 1) := by decide +kernel
theorem dJ0_indexOf_7cf53_1 : decode cJ0_indexOf_7cf53 1 = .ok (.invokevirtual 492, 3) := by decide +kernel
theorem dJ0_indexOf_7cf53_4 : decode cJ0_indexOf_7cf53 4 = .ok (.ifCond .eq 19, 3) := by decide +kernel
theorem dJ0_indexOf_7cf53_7 : decode cJ0_indexOf_7cf53 7 = .ok (.aload_n 0, 1) := by decide +kernel
theorem dJ0_indexOf_7cf53_8 : decode cJ0_indexOf_7cf53 8 = .ok (.getfield 9, 3) := by decide +kernel
theorem dJ0_indexOf_7cf53_11 : decode cJ0_indexOf_7cf53 11 = .ok (.iload_n 1, 1) := by decide +kernel
theorem dJ0_indexOf_7cf53_12 : decode cJ0_indexOf_7cf53 12 = .ok (.iload_n 2, 1) := by decide +kernel
theorem dJ0_indexOf_7cf53_13 : decode cJ0_indexOf_7cf53 13 = .ok (.aload_n 0, 1) := by decide +kernel
theorem dJ0_indexOf_7cf53_14 : decode cJ0_indexOf_7cf53 14 = .ok (.invokevirtual 505, 3) := by decide +kernel
theorem dJ0_indexOf_7cf53_17 : decode cJ0_indexOf_7cf53 17 = .ok (.invokestatic 637, 3) := by decide +kernel
theorem dJ0_indexOf_7cf53_20 : decode cJ0_indexOf_7cf53 20 = .ok (.goto 16, 3) := by decide +kernel
theorem dJ0_indexOf_7cf53_23 : decode cJ0_indexOf_7cf53 23 = .ok (.aload_n 0, 1) := by decide +kernel
theorem dJ0_indexOf_7cf53_24 : decode cJ0_indexOf_7cf53 24 = .ok (.getfield 9, 3) := by decide +kernel
theorem dJ0_indexOf_7cf53_27 : decode cJ0_indexOf_7cf53 27 = .ok (.iload_n 1, 1) := by decide +kernel
theorem dJ0_indexOf_7cf53_28 : decode cJ0_indexOf_7cf53 28 = .ok (.iload_n 2, 1) := by decide +kernel
theorem dJ0_indexOf_7cf53_29 : decode cJ0_indexOf_7cf53 29 = .ok (.aload_n 0, 1) := by decide +kernel
theorem dJ0_indexOf_7cf53_30 : decode cJ0_indexOf_7cf53 30 = .ok (.invokevirtual 505, 3) := by decide +kernel
theorem dJ0_indexOf_7cf53_33 : decode cJ0_indexOf_7cf53 33 = .ok (.invokestatic 640, 3) := by decide +kernel
theorem dJ0_indexOf_7cf53_36 : decode cJ0_indexOf_7cf53 36 = .ok (.ireturn, 1) := by decide +kernel
theorem dJ0_coder_7d493_0 : decode cJ0_coder_7d493 0 = .ok (.getstatic 38, 3) := by decide +kernel
theorem dJ0_coder_7d493_3 : decode cJ0_coder_7d493 3 = .ok (.ifCond .eq 10, 3) := by decide +kernel
theorem dJ0_coder_7d493_6 : decode cJ0_coder_7d493 6 = .ok (.aload_n 0, 1) := by decide +kernel
theorem dJ0_coder_7d493_7 : decode cJ0_coder_7d493 7 = .ok (.getfield 15, 3) := by decide +kernel
theorem dJ0_coder_7d493_10 : decode cJ0_coder_7d493 10 = .ok (.goto 4, 3) := by decide +kernel
theorem dJ0_coder_7d493_13 : decode cJ0_coder_7d493 13 = .ok (.iconst 1, 1) := by decide +kernel
theorem dJ0_coder_7d493_14 : decode cJ0_coder_7d493 14 = .ok (.ireturn, 1) := by decide +kernel
theorem dJ0_isLatin1_aae02_0 : decode cJ0_isLatin1_aae02 0 = .ok (.getstatic 38, 3) := by decide +kernel
theorem dJ0_isLatin1_aae02_3 : decode cJ0_isLatin1_aae02 3 = .ok (.ifCond .eq 14, 3) := by decide +kernel
theorem dJ0_isLatin1_aae02_6 : decode cJ0_isLatin1_aae02 6 = .ok (.aload_n 0, 1) := by decide +kernel
theorem dJ0_isLatin1_aae02_7 : decode cJ0_isLatin1_aae02 7 = .ok (.getfield 15, 3) := by decide +kernel
theorem dJ0_isLatin1_aae02_10 : decode cJ0_isLatin1_aae02 10 = .ok (.ifCond .ne 7, 3) := by decide +kernel
theorem dJ0_isLatin1_aae02_13 : decode cJ0_isLatin1_aae02 13 = .ok (.iconst 1, 1) := by decide +kernel
theorem dJ0_isLatin1_aae02_14 : decode cJ0_isLatin1_aae02 14 = .ok (.goto 4, 3) := by decide +kernel
theorem dJ0_isLatin1_aae02_17 : decode cJ0_isLatin1_aae02 17 = .ok (.iconst 0, 1) := by decide +kernel
theorem dJ0_isLatin1_aae02_18 : decode cJ0_isLatin1_aae02 18 = .ok (.ireturn, 1) := by decide +kernel
set_option maxRecDepth 20000 in
theorem ggJ0_checkIndex_df160_J3_checkIndex_8e157 : GoodIn wsJ0_checkIndex_df160 wsJ3_checkIndex_8e157 := goodIn_r _ [5] (by decide +kernel) (by decide +kernel)
set_option maxRecDepth 20000 in
theorem gJ0_checkIndex_df160_J3_checkIndex_8e157 : GoodIn wsJ0_checkIndex_df160 (va_wsS RJ0 1059 yJ3_checkIndex_8e157 wsJ3_checkIndex_8e157) := goodIn_app (goodIn_of _ (by decide +kernel)) ggJ0_checkIndex_df160_J3_checkIndex_8e157
theorem dJ0_checkIndex_df160_0 : decode cJ0_checkIndex_df160 0 = .ok (.iload_n 0, 1) := by decide +kernel
theorem dJ0_checkIndex_df160_1 : decode cJ0_checkIndex_df160 1 = .ok (.iload_n 1, 1) := by decide +kernel
theorem dJ0_checkIndex_df160_2 : decode cJ0_checkIndex_df160 2 = .ok (.getstatic 1053, 3) := by decide +kernel
theorem dJ0_checkIndex_df160_5 : decode cJ0_checkIndex_df160 5 = .ok (.invokestatic 1059, 3) := by decide +kernel
theorem dJ0_checkIndex_df160_8 : decode cJ0_checkIndex_df160 8 = .ok (.pop, 1) := by decide +kernel
theorem dJ0_checkIndex_df160_9 : decode cJ0_checkIndex_df160 9 = .ok (.return_, 1) := by decide +kernel
set_option maxRecDepth 20000 in
theorem ggJ0_checkBoundsBeginEnd_23922_J3_checkFromToIndex_8c36e : GoodIn wsJ0_checkBoundsBeginEnd_23922 wsJ3_checkFromToIndex_8c36e := goodIn_r _ [5] (by decide +kernel) (by decide +kernel)
set_option maxRecDepth 20000 in
theorem gJ0_checkBoundsBeginEnd_23922_J3_checkFromToIndex_8c36e : GoodIn wsJ0_checkBoundsBeginEnd_23922 (va_wsS RJ0 1062 yJ3_checkFromToIndex_8c36e wsJ3_checkFromToIndex_8c36e) := goodIn_app (goodIn_of _ (by decide +kernel)) ggJ0_checkBoundsBeginEnd_23922_J3_checkFromToIndex_8c36e
theorem dJ0_checkBoundsBeginEnd_23922_0 : decode cJ0_checkBoundsBeginEnd_23922 0 = .ok (.iload_n 0, 1) := by decide +kernel
theorem dJ0_checkBoundsBeginEnd_23922_1 : decode cJ0_checkBoundsBeginEnd_23922 1 = .ok (.iload_n 1, 1) := by decide +kernel
theorem dJ0_checkBoundsBeginEnd_23922_2 : decode cJ0_checkBoundsBeginEnd_23922 2 = .ok (.iload_n 2, 1) := by decide +kernel
theorem dJ0_checkBoundsBeginEnd_23922_3 : decode cJ0_checkBoundsBeginEnd_23922 3 = .ok (.getstatic 1053, 3) := by decide +kernel
theorem dJ0_checkBoundsBeginEnd_23922_6 : decode cJ0_checkBoundsBeginEnd_23922 6 = .ok (.invokestatic 1062, 3) := by decide +kernel
theorem dJ0_checkBoundsBeginEnd_23922_9 : decode cJ0_checkBoundsBeginEnd_23922 9 = .ok (.pop, 1) := by decide +kernel
theorem dJ0_checkBoundsBeginEnd_23922_10 : decode cJ0_checkBoundsBeginEnd_23922 10 = .ok (.return_, 1) := by decide +kernel
set_option maxRecDepth 20000 in
theorem ggJ1_charAt_3b067_J0_checkIndex_df160 : GoodIn wsJ1_charAt_3b067 wsJ0_checkIndex_df160 := goodIn_r _ [4, 5, 6, 7, 8, 9] (by decide +kernel) (by decide +kernel)
set_option maxRecDepth 20000 in
theorem gJ1_charAt_3b067_J0_checkIndex_df160 : GoodIn wsJ1_charAt_3b067 (va_wsS RJ1 9 yJ0_checkIndex_df160 wsJ0_checkIndex_df160) := goodIn_app (goodIn_of _ (by decide +kernel)) ggJ1_charAt_3b067_J0_checkIndex_df160
theorem dJ1_charAt_3b067_0 : decode cJ1_charAt_3b067 0 = .ok (.iload_n 1, 1) := by decide +kernel
theorem dJ1_charAt_3b067_1 : decode cJ1_charAt_3b067 1 = .ok (.aload_n 0, 1) := by decide +kernel
theorem dJ1_charAt_3b067_2 : decode cJ1_charAt_3b067 2 = .ok (.arraylength, 1) := by decide +kernel
theorem dJ1_charAt_3b067_3 : decode cJ1_charAt_3b067 3 = .ok (.invokestatic 9, 3) := by decide +kernel
theorem dJ1_charAt_3b067_6 : decode cJ1_charAt_3b067 6 = .ok (.aload_n 0, 1) := by decide +kernel
theorem dJ1_charAt_3b067_7 : decode cJ1_charAt_3b067 7 = .ok (.iload_n 1, 1) := by decide +kernel
theorem dJ1_charAt_3b067_8 : decode cJ1_charAt_3b067 8 = .ok (.baload, 1) := by decide +kernel
theorem dJ1_charAt_3b067_9 : decode cJ1_charAt_3b067 9 = .ok (.sipush 255, 3) := by decide +kernel
theorem dJ1_charAt_3b067_12 : decode cJ1_charAt_3b067 12 = .ok (.iand, 1) := by decide +kernel
theorem dJ1_charAt_3b067_13 : decode cJ1_charAt_3b067 13 = .ok (.i2c, 1) := by decide +kernel
theorem dJ1_charAt_3b067_14 : decode cJ1_charAt_3b067 14 = .ok (.ireturn, 1) := by decide +kernel
theorem dJ1_canEncode_9a6ad_0 : decode cJ1_canEncode_9a6ad 0 = .ok (.iload_n 0, 1) := by decide +kernel
theorem dJ1_canEncode_9a6ad_1 : decode cJ1_canEncode_9a6ad 1 = .ok (.ifCond .lt 14, 3) := by decide +kernel
theorem dJ1_canEncode_9a6ad_4 : decode cJ1_canEncode_9a6ad 4 = .ok (.iload_n 0, 1) := by decide +kernel
theorem dJ1_canEncode_9a6ad_5 : decode cJ1_canEncode_9a6ad 5 = .ok (.sipush 255, 3) := by decide +kernel
theorem dJ1_canEncode_9a6ad_8 : decode cJ1_canEncode_9a6ad 8 = .ok (.if_icmp .gt 7, 3) := by decide +kernel
theorem dJ1_canEncode_9a6ad_11 : decode cJ1_canEncode_9a6ad 11 = .ok (.iconst 1, 1) := by decide +kernel
theorem dJ1_canEncode_9a6ad_12 : decode cJ1_canEncode_9a6ad 12 = .ok (.goto 4, 3) := by decide +kernel
theorem dJ1_canEncode_9a6ad_15 : decode cJ1_canEncode_9a6ad 15 = .ok (.iconst 0, 1) := by decide +kernel
theorem dJ1_canEncode_9a6ad_16 : decode cJ1_canEncode_9a6ad 16 = .ok (.ireturn, 1) := by decide +kernel
set_option maxRecDepth 20000 in
theorem ggJ1_indexOf_4cfef_J1_canEncode_9a6ad : GoodIn wsJ1_indexOf_4cfef wsJ1_canEncode_9a6ad := goodIn_r _ [11] (by decide +kernel) (by decide +kernel)
set_option maxRecDepth 20000 in
theorem gJ1_indexOf_4cfef_J1_canEncode_9a6ad : GoodIn wsJ1_indexOf_4cfef (va_wsS RJ1 88 yJ1_canEncode_9a6ad wsJ1_canEncode_9a6ad) := goodIn_app (goodIn_of _ (by decide +kernel)) ggJ1_indexOf_4cfef_J1_canEncode_9a6ad
set_option maxRecDepth 20000 in
theorem ggJ1_indexOf_4cfef_J1_indexOfChar_4cfef : GoodIn wsJ1_indexOf_4cfef wsJ1_indexOfChar_4cfef := goodIn_r _ [14] (by decide +kernel) (by decide +kernel)
set_option maxRecDepth 20000 in
theorem gJ1_indexOf_4cfef_J1_indexOfChar_4cfef : GoodIn wsJ1_indexOf_4cfef (va_wsS RJ1 95 yJ1_indexOfChar_4cfef wsJ1_indexOfChar_4cfef) := goodIn_app (goodIn_of _ (by decide +kernel)) ggJ1_indexOf_4cfef_J1_indexOfChar_4cfef
theorem dJ1_indexOf_4cfef_0 : decode cJ1_indexOf_4cfef 0 = .ok (.iload_n 1, 1) := by decide +kernel
theorem dJ1_indexOf_4cfef_1 : decode cJ1_indexOf_4cfef 1 = .ok (.invokestatic 88, 3) := by decide +kernel
theorem dJ1_indexOf_4cfef_4 : decode cJ1_indexOf_4cfef 4 = .ok (.ifCond .ne 5, 3) := by decide +kernel
theorem dJ1_indexOf_4cfef_7 : decode cJ1_indexOf_4cfef 7 = .ok (.iconst (-1), 1) := by decide +kernel
theorem dJ1_indexOf_4cfef_8 : decode cJ1_indexOf_4cfef 8 = .ok (.ireturn, 1) := by decide +kernel
theorem dJ1_indexOf_4cfef_9 : decode cJ1_indexOf_4cfef 9 = .ok (.iload_n 2, 1) := by decide +kernel
theorem dJ1_indexOf_4cfef_10 : decode cJ1_indexOf_4cfef 10 = .ok (.iconst 0, 1) := by decide +kernel
theorem dJ1_indexOf_4cfef_11 : decode cJ1_indexOf_4cfef 11 = .ok (.invokestatic 92, 3) := by decide +kernel
theorem dJ1_indexOf_4cfef_14 : decode cJ1_indexOf_4cfef 14 = .ok (.istore_n 2, 1) := by decide +kernel
theorem dJ1_indexOf_4cfef_15 : decode cJ1_indexOf_4cfef 15 = .ok (.iload_n 3, 1) := by decide +kernel
theorem dJ1_indexOf_4cfef_16 : decode cJ1_indexOf_4cfef 16 = .ok (.aload_n 0, 1) := by decide +kernel
theorem dJ1_indexOf_4cfef_17 : decode cJ1_indexOf_4cfef 17 = .ok (.arraylength, 1) := by decide +kernel
theorem dJ1_indexOf_4cfef_18 : decode cJ1_indexOf_4cfef 18 = .ok (.invokestatic 38, 3) := by decide +kernel
theorem dJ1_indexOf_4cfef_21 : decode cJ1_indexOf_4cfef 21 = .ok (.istore_n 3, 1) := by decide +kernel
theorem dJ1_indexOf_4cfef_22 : decode cJ1_indexOf_4cfef 22 = .ok (.iload_n 2, 1) := by decide +kernel
theorem dJ1_indexOf_4cfef_23 : decode cJ1_indexOf_4cfef 23 = .ok (.iload_n 3, 1) := by decide +kernel
theorem dJ1_indexOf_4cfef_24 : decode cJ1_indexOf_4cfef 24 = .ok (.if_icmp .lt 5, 3) := by decide +kernel
theorem dJ1_indexOf_4cfef_27 : decode cJ1_indexOf_4cfef 27 = .ok (.iconst (-1), 1) := by decide +kernel
theorem dJ1_indexOf_4cfef_28 : decode cJ1_indexOf_4cfef 28 = .ok (.ireturn, 1) := by decide +kernel
theorem dJ1_indexOf_4cfef_29 : decode cJ1_indexOf_4cfef 29 = .ok (.aload_n 0, 1) := by decide +kernel
theorem dJ1_indexOf_4cfef_30 : decode cJ1_indexOf_4cfef 30 = .ok (.iload_n 1, 1) := by decide +kernel
theorem dJ1_indexOf_4cfef_31 : decode cJ1_indexOf_4cfef 31 = .ok (.iload_n 2, 1) := by decide +kernel
theorem dJ1_indexOf_4cfef_32 : decode cJ1_indexOf_4cfef 32 = .ok (.iload_n 3, 1) := by decide +kernel
theorem dJ1_indexOf_4cfef_33 : decode cJ1_indexOf_4cfef 33 = .ok (.invokestatic 95, 3) := by decide +kernel
theorem dJ1_indexOf_4cfef_36 : decode cJ1_indexOf_4cfef 36 = .ok (.ireturn, 1) := by decide +kernel
theorem dJ1_indexOfChar_4cfef_0 : decode cJ1_indexOfChar_4cfef 0 = .ok (.iload_n 1, 1) := by decide +kernel
theorem dJ1_indexOfChar_4cfef_1 : decode cJ1_indexOfChar_4cfef 1 = .ok (.i2b, 1) := by decide +kernel
theorem dJ1_indexOfChar_4cfef_2 : decode cJ1_indexOfChar_4cfef 2 = .ok (.istore 4, 2) := by decide +kernel
theorem dJ1_indexOfChar_4cfef_4 : decode cJ1_indexOfChar_4cfef 4 = .ok (.iload_n 2, 1) := by decide +kernel
theorem dJ1_indexOfChar_4cfef_5 : decode cJ1_indexOfChar_4cfef 5 = .ok (.istore 5, 2) := by decide +kernel
theorem dJ1_indexOfChar_4cfef_7 : decode cJ1_indexOfChar_4cfef 7 = .ok (.iload 5, 2) := by decide +kernel
theorem dJ1_indexOfChar_4cfef_9 : decode cJ1_indexOfChar_4cfef 9 = .ok (.iload_n 3, 1) := by decide +kernel
theorem dJ1_indexOfChar_4cfef_10 : decode cJ1_indexOfChar_4cfef 10 = .ok (.if_icmp .ge 21, 3) := by decide +kernel
theorem dJ1_indexOfChar_4cfef_13 : decode cJ1_indexOfChar_4cfef 13 = .ok (.aload_n 0, 1) := by decide +kernel
theorem dJ1_indexOfChar_4cfef_14 : decode cJ1_indexOfChar_4cfef 14 = .ok (.iload 5, 2) := by decide +kernel
theorem dJ1_indexOfChar_4cfef_16 : decode cJ1_indexOfChar_4cfef 16 = .ok (.baload, 1) := by decide +kernel
theorem dJ1_indexOfChar_4cfef_17 : decode cJ1_indexOfChar_4cfef 17 = .ok (.iload 4, 2) := by decide +kernel
theorem dJ1_indexOfChar_4cfef_19 : decode cJ1_indexOfChar_4cfef 19 = .ok (.if_icmp .ne 6, 3) := by decide +kernel
theorem dJ1_indexOfChar_4cfef_22 : decode cJ1_indexOfChar_4cfef 22 = .ok (.iload 5, 2) := by decide +kernel
theorem dJ1_indexOfChar_4cfef_24 : decode cJ1_indexOfChar_4cfef 24 = .ok (.ireturn, 1) := by decide +kernel
theorem dJ1_indexOfChar_4cfef_25 : decode cJ1_indexOfChar_4cfef 25 = .ok (.iinc 5 1, 3) := by decide +kernel
theorem dJ1_indexOfChar_4cfef_28 : decode cJ1_indexOfChar_4cfef 28 = .ok (.goto (-21), 3) := by decide +kernel
theorem dJ1_indexOfChar_4cfef_31 : decode cJ1_indexOfChar_4cfef 31 = .ok (.iconst (-1), 1) := by decide +kernel
theorem dJ1_indexOfChar_4cfef_32 : decode cJ1_indexOfChar_4cfef 32 = .ok (.ireturn, 1) := by decide +kernel
set_option maxRecDepth 20000 in
theorem ggJ2_getChar_3b067_J2_length_9d52b : GoodIn wsJ2_getChar_3b067 wsJ2_length_9d52b := goodIn_r _ [7] (by decide +kernel) (by decide +kernel)
set_option maxRecDepth 20000 in
theorem gJ2_getChar_3b067_J2_length_9d52b : GoodIn wsJ2_getChar_3b067 (va_wsS RJ2 48 yJ2_length_9d52b wsJ2_length_9d52b) := goodIn_app (goodIn_of _ (by decide +kernel)) ggJ2_getChar_3b067_J2_length_9d52b
theorem dJ2_getChar_3b067_0 : decode cJ2_getChar_3b067 0 = .ok (.getstatic 44, 3) := by decide +kernel
theorem dJ2_getChar_3b067_3 : decode cJ2_getChar_3b067 3 = .ok (.ifCond .ne 25, 3) := by decide +kernel
theorem dJ2_getChar_3b067_6 : decode cJ2_getChar_3b067 6 = .ok (.iload_n 1, 1) := by decide +kernel
theorem dJ2_getChar_3b067_7 : decode cJ2_getChar_3b067 7 = .ok (.ifCond .lt 11, 3) := by decide +kernel
theorem dJ2_getChar_3b067_10 : decode cJ2_getChar_3b067 10 = .ok (.iload_n 1, 1) := by decide +kernel
theorem dJ2_getChar_3b067_11 : decode cJ2_getChar_3b067 11 = .ok (.aload_n 0, 1) := by decide +kernel
theorem dJ2_getChar_3b067_12 : decode cJ2_getChar_3b067 12 = .ok (.invokestatic 48, 3) := by decide +kernel
theorem dJ2_getChar_3b067_15 : decode cJ2_getChar_3b067 15 = .ok (.if_icmp .lt 13, 3) := by decide +kernel
theorem dJ2_getChar_3b067_18 : decode cJ2_getChar_3b067 18 = .ok (.new 52, 3) := by decide +kernel
theorem dJ2_getChar_3b067_21 : decode cJ2_getChar_3b067 21 = .ok (.dup, 1) := by decide +kernel
theorem dJ2_getChar_3b067_22 : decode cJ2_getChar_3b067 22 = .ok (.ldc 54, 2) := by decide +kernel
theorem dJ2_getChar_3b067_24 : decode cJ2_getChar_3b067 24 = .ok (.invokespecial 56, 3) := by decide +kernel
theorem dJ2_getChar_3b067_27 : decode cJ2_getChar_3b067 27 = .ok (.athrow, 1) := by decide +kernel
theorem dJ2_getChar_3b067_28 : decode cJ2_getChar_3b067 28 = .ok (.iload_n 1, 1) := by decide +kernel
theorem dJ2_getChar_3b067_29 : decode cJ2_getChar_3b067 29 = .ok (.iconst 1, 1) := by decide +kernel
theorem dJ2_getChar_3b067_30 : decode cJ2_getChar_3b067 30 = .ok (.ishl, 1) := by decide +kernel
theorem dJ2_getChar_3b067_31 : decode cJ2_getChar_3b067 31 = .ok (.istore_n 1, 1) := by decide +kernel
theorem dJ2_getChar_3b067_32 : decode cJ2_getChar_3b067 32 = .ok (.aload_n 0, 1) := by decide +kernel
theorem dJ2_getChar_3b067_33 : decode cJ2_getChar_3b067 33 = .ok (.iload_n 1, 1) := by decide +kernel
theorem dJ2_getChar_3b067_34 : decode cJ2_getChar_3b067 34 = .ok (.iinc 1 1, 3) := by decide +kernel
theorem dJ2_getChar_3b067_37 : decode cJ2_getChar_3b067 37 = .ok (.baload, 1) := by decide +kernel
theorem dJ2_getChar_3b067_38 : decode cJ2_getChar_3b067 38 = .ok (.sipush 255, 3) := by decide +kernel
theorem dJ2_getChar_3b067_41 : decode cJ2_getChar_3b067 41 = .ok (.iand, 1) := by decide +kernel
theorem dJ2_getChar_3b067_42 : decode cJ2_getChar_3b067 42 = .ok (.getstatic 59, 3) := by decide +kernel
theorem dJ2_getChar_3b067_45 : decode cJ2_getChar_3b067 45 = .ok (.ishl, 1) := by decide +kernel
theorem dJ2_getChar_3b067_46 : decode cJ2_getChar_3b067 46 = .ok (.aload_n 0, 1) := by decide +kernel
theorem dJ2_getChar_3b067_47 : decode cJ2_getChar_3b067 47 = .ok (.iload_n 1, 1) := by decide +kernel
theorem dJ2_getChar_3b067_48 : decode cJ2_getChar_3b067 48 = .ok (.baload, 1) := by decide +kernel
theorem dJ2_getChar_3b067_49 : decode cJ2_getChar_3b067 49 = .ok (.sipush 255, 3) := by decide +kernel
theorem dJ2_getChar_3b067_52 : decode cJ2_getChar_3b067 52 = .ok (.iand, 1) := by decide +kernel
theorem dJ2_getChar_3b067_53 : decode cJ2_getChar_3b067 53 = .ok (.getstatic 63, 3) := by decide +kernel
theorem dJ2_getChar_3b067_56 : decode cJ2_getChar_3b067 56 = .ok (.ishl, 1) := by decide +kernel
theorem dJ2_getChar_3b067_57 : decode cJ2_getChar_3b067 57 = .ok (.ior, 1) := by decide +kernel
theorem dJ2_getChar_3b067_58 : decode cJ2_getChar_3b067 58 = .ok (.i2c, 1) := by decide +kernel
theorem dJ2_getChar_3b067_59 : decode cJ2_getChar_3b067 59 = .ok (.ireturn, 1) := by decide +kernel
theorem dJ2_length_9d52b_0 : decode cJ2_length_9d52b 0 = .ok (.aload_n 0, 1) := by decide +kernel
theorem dJ2_length_9d52b_1 : decode cJ2_length_9d52b 1 = .ok (.arraylength, 1) := by decide +kernel
theorem dJ2_length_9d52b_2 : decode cJ2_length_9d52b 2 = .ok (.iconst 1, 1) := by decide +kernel
theorem dJ2_length_9d52b_3 : decode cJ2_length_9d52b 3 = .ok (.ishr, 1) := by decide +kernel
theorem dJ2_length_9d52b_4 : decode cJ2_length_9d52b 4 = .ok (.ireturn, 1) := by decide +kernel
set_option maxRecDepth 20000 in
theorem ggJ2_indexOf_4cfef_J2_indexOfChar_4cfef : GoodIn wsJ2_indexOf_4cfef wsJ2_indexOfChar_4cfef := goodIn_r _ [12, 13, 14, 11, 15, 16, 17, 18, 19, 20, 21, 22, 23, 24, 25, 26, 27, 28, 29, 30, 31, 32, 33, 34, 35, 36] (by decide +kernel) (by decide +kernel)
set_option maxRecDepth 20000 in
theorem gJ2_indexOf_4cfef_J2_indexOfChar_4cfef : GoodIn wsJ2_indexOf_4cfef (va_wsS RJ2 228 yJ2_indexOfChar_4cfef wsJ2_indexOfChar_4cfef) := goodIn_app (goodIn_of _ (by decide +kernel)) ggJ2_indexOf_4cfef_J2_indexOfChar_4cfef
set_option maxRecDepth 20000 in
theorem ggJ2_indexOf_4cfef_J2_indexOfSupplementary_4cfef : GoodIn wsJ2_indexOf_4cfef wsJ2_indexOfSupplementary_4cfef := goodIn_r _ [39, 40, 41, 42, 43, 44, 45, 46, 47, 48, 49, 50, 51, 13, 14, 11, 15, 16, 17, 18, 19, 20, 21, 22, 23, 24, 25, 26, 27, 31, 32, 33, 34, 35, 36] (by decide +kernel) (by decide +kernel)
set_option maxRecDepth 20000 in
theorem gJ2_indexOf_4cfef_J2_indexOfSupplementary_4cfef : GoodIn wsJ2_indexOf_4cfef (va_wsS RJ2 232 yJ2_indexOfSupplementary_4cfef wsJ2_indexOfSupplementary_4cfef) := goodIn_app (goodIn_of _ (by decide +kernel)) ggJ2_indexOf_4cfef_J2_indexOfSupplementary_4cfef
theorem dJ2_indexOf_4cfef_0 : decode cJ2_indexOf_4cfef 0 = .ok (.iload_n 2, 1) := by decide +kernel
theorem dJ2_indexOf_4cfef_1 : decode cJ2_indexOf_4cfef 1 = .ok (.iconst 0, 1) := by decide +kernel
theorem dJ2_indexOf_4cfef_2 : decode cJ2_indexOf_4cfef 2 = .ok (.invokestatic 224, 3) := by decide +kernel
theorem dJ2_indexOf_4cfef_5 : decode cJ2_indexOf_4cfef 5 = .ok (.istore_n 2, 1) := by decide +kernel
theorem dJ2_indexOf_4cfef_6 : decode cJ2_indexOf_4cfef 6 = .ok (.iload_n 3, 1) := by decide +kernel
theorem dJ2_indexOf_4cfef_7 : decode cJ2_indexOf_4cfef 7 = .ok (.aload_n 0, 1) := by decide +kernel
theorem dJ2_indexOf_4cfef_8 : decode cJ2_indexOf_4cfef 8 = .ok (.arraylength, 1) := by decide +kernel
theorem dJ2_indexOf_4cfef_9 : decode cJ2_indexOf_4cfef 9 = .ok (.iconst 1, 1) := by decide +kernel
theorem dJ2_indexOf_4cfef_10 : decode cJ2_indexOf_4cfef 10 = .ok (.ishr, 1) := by decide +kernel
theorem dJ2_indexOf_4cfef_11 : decode cJ2_indexOf_4cfef 11 = .ok (.invokestatic 183, 3) := by decide +kernel
theorem dJ2_indexOf_4cfef_14 : decode cJ2_indexOf_4cfef 14 = .ok (.istore_n 3, 1) := by decide +kernel
theorem dJ2_indexOf_4cfef_15 : decode cJ2_indexOf_4cfef 15 = .ok (.iload_n 2, 1) := by decide +kernel
theorem dJ2_indexOf_4cfef_16 : decode cJ2_indexOf_4cfef 16 = .ok (.iload_n 3, 1) := by decide +kernel
theorem dJ2_indexOf_4cfef_17 : decode cJ2_indexOf_4cfef 17 = .ok (.if_icmp .lt 5, 3) := by decide +kernel
theorem dJ2_indexOf_4cfef_20 : decode cJ2_indexOf_4cfef 20 = .ok (.iconst (-1), 1) := by decide +kernel
theorem dJ2_indexOf_4cfef_21 : decode cJ2_indexOf_4cfef 21 = .ok (.ireturn, 1) := by decide +kernel
theorem dJ2_indexOf_4cfef_22 : decode cJ2_indexOf_4cfef 22 = .ok (.iload_n 1, 1) := by decide +kernel
theorem dJ2_indexOf_4cfef_23 : decode cJ2_indexOf_4cfef 23 = .ok (.ldc 227, 2) := by decide +kernel
theorem dJ2_indexOf_4cfef_25 : decode cJ2_indexOf_4cfef 25 = .ok (.if_icmp .ge 11, 3) := by decide +kernel
theorem dJ2_indexOf_4cfef_28 : decode cJ2_indexOf_4cfef 28 = .ok (.aload_n 0, 1) := by decide +kernel
theorem dJ2_indexOf_4cfef_29 : decode cJ2_indexOf_4cfef 29 = .ok (.iload_n 1, 1) := by decide +kernel
theorem dJ2_indexOf_4cfef_30 : decode cJ2_indexOf_4cfef 30 = .ok (.iload_n 2, 1) := by decide +kernel
theorem dJ2_indexOf_4cfef_31 : decode cJ2_indexOf_4cfef 31 = .ok (.iload_n 3, 1) := by decide +kernel
theorem dJ2_indexOf_4cfef_32 : decode cJ2_indexOf_4cfef 32 = .ok (.invokestatic 228, 3) := by decide +kernel
theorem dJ2_indexOf_4cfef_35 : decode cJ2_indexOf_4cfef 35 = .ok (.ireturn, 1) := by decide +kernel
theorem dJ2_indexOf_4cfef_36 : decode cJ2_indexOf_4cfef 36 = .ok (.aload_n 0, 1) := by decide +kernel
theorem dJ2_indexOf_4cfef_37 : decode cJ2_indexOf_4cfef 37 = .ok (.iload_n 1, 1) := by decide +kernel
theorem dJ2_indexOf_4cfef_38 : decode cJ2_indexOf_4cfef 38 = .ok (.iload_n 2, 1) := by decide +kernel
theorem dJ2_indexOf_4cfef_39 : decode cJ2_indexOf_4cfef 39 = .ok (.iload_n 3, 1) := by decide +kernel
theorem dJ2_indexOf_4cfef_40 : decode cJ2_indexOf_4cfef 40 = .ok (.invokestatic 232, 3) := by decide +kernel
theorem dJ2_indexOf_4cfef_43 : decode cJ2_indexOf_4cfef 43 = .ok (.ireturn, 1) := by decide +kernel
set_option maxRecDepth 20000 in
theorem ggJ2_indexOfChar_4cfef_J2_checkBoundsBeginEnd_d044e : GoodIn wsJ2_indexOfChar_4cfef wsJ2_checkBoundsBeginEnd_d044e := goodIn_r _ [4, 5, 6, 3, 7, 8, 9, 10, 11, 12, 13, 14, 15, 16] (by decide +kernel) (by decide +kernel)
set_option maxRecDepth 20000 in
theorem gJ2_indexOfChar_4cfef_J2_checkBoundsBeginEnd_d044e : GoodIn wsJ2_indexOfChar_4cfef (va_wsS RJ2 96 yJ2_checkBoundsBeginEnd_d044e wsJ2_checkBoundsBeginEnd_d044e) := goodIn_app (goodIn_of _ (by decide +kernel)) ggJ2_indexOfChar_4cfef_J2_checkBoundsBeginEnd_d044e
set_option maxRecDepth 20000 in
theorem ggJ2_indexOfChar_4cfef_J2_indexOfCharUnsafe_4cfef : GoodIn wsJ2_indexOfChar_4cfef wsJ2_indexOfCharUnsafe_4cfef := goodIn_r _ [19, 20, 21, 3, 22, 23, 24, 25, 5, 6, 7] (by decide +kernel) (by decide +kernel)
set_option maxRecDepth 20000 in
theorem gJ2_indexOfChar_4cfef_J2_indexOfCharUnsafe_4cfef : GoodIn wsJ2_indexOfChar_4cfef (va_wsS RJ2 244 yJ2_indexOfCharUnsafe_4cfef wsJ2_indexOfCharUnsafe_4cfef) := goodIn_app (goodIn_of _ (by decide +kernel)) ggJ2_indexOfChar_4cfef_J2_indexOfCharUnsafe_4cfef
theorem dJ2_indexOfChar_4cfef_0 : decode cJ2_indexOfChar_4cfef 0 = .ok (.iload_n 2, 1) := by decide +kernel
theorem dJ2_indexOfChar_4cfef_1 : decode cJ2_indexOfChar_4cfef 1 = .ok (.iload_n 3, 1) := by decide +kernel
theorem dJ2_indexOfChar_4cfef_2 : decode cJ2_indexOfChar_4cfef 2 = .ok (.aload_n 0, 1) := by decide +kernel
theorem dJ2_indexOfChar_4cfef_3 : decode cJ2_indexOfChar_4cfef 3 = .ok (.invokestatic 96, 3) := by decide +kernel
theorem dJ2_indexOfChar_4cfef_6 : decode cJ2_indexOfChar_4cfef 6 = .ok (.aload_n 0, 1) := by decide +kernel
theorem dJ2_indexOfChar_4cfef_7 : decode cJ2_indexOfChar_4cfef 7 = .ok (.iload_n 1, 1) := by decide +kernel
theorem dJ2_indexOfChar_4cfef_8 : decode cJ2_indexOfChar_4cfef 8 = .ok (.iload_n 2, 1) := by decide +kernel
theorem dJ2_indexOfChar_4cfef_9 : decode cJ2_indexOfChar_4cfef 9 = .ok (.iload_n 3, 1) := by decide +kernel
theorem dJ2_indexOfChar_4cfef_10 : decode cJ2_indexOfChar_4cfef 10 = .ok (.invokestatic 244, 3) := by decide +kernel
theorem dJ2_indexOfChar_4cfef_13 : decode cJ2_indexOfChar_4cfef 13 = .ok (.ireturn, 1) := by decide +kernel
set_option maxRecDepth 20000 in
theorem ggJ2_indexOfCharUnsafe_4cfef_J2_getChar_3b067 : GoodIn wsJ2_indexOfCharUnsafe_4cfef wsJ2_getChar_3b067 := goodIn_r _ [4, 5, 6, 7, 8, 9, 3, 10] (by decide +kernel) (by decide +kernel)
set_option maxRecDepth 20000 in
theorem gJ2_indexOfCharUnsafe_4cfef_J2_getChar_3b067 : GoodIn wsJ2_indexOfCharUnsafe_4cfef (va_wsS RJ2 71 yJ2_getChar_3b067 wsJ2_getChar_3b067) := goodIn_app (goodIn_of _ (by decide +kernel)) ggJ2_indexOfCharUnsafe_4cfef_J2_getChar_3b067
theorem dJ2_indexOfCharUnsafe_4cfef_0 : decode cJ2_indexOfCharUnsafe_4cfef 0 = .ok (.iload_n 2, 1) := by decide +kernel
theorem dJ2_indexOfCharUnsafe_4cfef_1 : decode cJ2_indexOfCharUnsafe_4cfef 1 = .ok (.istore 4, 2) := by decide +kernel
theorem dJ2_indexOfCharUnsafe_4cfef_3 : decode cJ2_indexOfCharUnsafe_4cfef 3 = .ok (.iload 4, 2) := by decide +kernel
theorem dJ2_indexOfCharUnsafe_4cfef_5 : decode cJ2_indexOfCharUnsafe_4cfef 5 = .ok (.iload_n 3, 1) := by decide +kernel
theorem dJ2_indexOfCharUnsafe_4cfef_6 : decode cJ2_indexOfCharUnsafe_4cfef 6 = .ok (.if_icmp .ge 22, 3) := by decide +kernel
theorem dJ2_indexOfCharUnsafe_4cfef_9 : decode cJ2_indexOfCharUnsafe_4cfef 9 = .ok (.aload_n 0, 1) := by decide +kernel
theorem dJ2_indexOfCharUnsafe_4cfef_10 : decode cJ2_indexOfCharUnsafe_4cfef 10 = .ok (.iload 4, 2) := by decide +kernel
theorem dJ2_indexOfCharUnsafe_4cfef_12 : decode cJ2_indexOfCharUnsafe_4cfef 12 = .ok (.invokestatic 71, 3) := by decide +kernel
theorem dJ2_indexOfCharUnsafe_4cfef_15 : decode cJ2_indexOfCharUnsafe_4cfef 15 = .ok (.iload_n 1, 1) := by decide +kernel
theorem dJ2_indexOfCharUnsafe_4cfef_16 : decode cJ2_indexOfCharUnsafe_4cfef 16 = .ok (.if_icmp .ne 6, 3) := by decide +kernel
theorem dJ2_indexOfCharUnsafe_4cfef_19 : decode cJ2_indexOfCharUnsafe_4cfef 19 = .ok (.iload 4, 2) := by decide +kernel
theorem dJ2_indexOfCharUnsafe_4cfef_21 : decode cJ2_indexOfCharUnsafe_4cfef 21 = .ok (.ireturn, 1) := by decide +kernel
theorem dJ2_indexOfCharUnsafe_4cfef_22 : decode cJ2_indexOfCharUnsafe_4cfef 22 = .ok (.iinc 4 1, 3) := by decide +kernel
theorem dJ2_indexOfCharUnsafe_4cfef_25 : decode cJ2_indexOfCharUnsafe_4cfef 25 = .ok (.goto (-22), 3) := by decide +kernel
theorem dJ2_indexOfCharUnsafe_4cfef_28 : decode cJ2_indexOfCharUnsafe_4cfef 28 = .ok (.iconst (-1), 1) := by decide +kernel
theorem dJ2_indexOfCharUnsafe_4cfef_29 : decode cJ2_indexOfCharUnsafe_4cfef 29 = .ok (.ireturn, 1) := by decide +kernel
set_option maxRecDepth 20000 in
theorem ggJ2_indexOfSupplementary_4cfef_J11_isValidCodePoint_9a6ad : GoodIn wsJ2_indexOfSupplementary_4cfef wsJ11_isValidCodePoint_9a6ad := goodIn_r _ [4] (by decide +kernel) (by decide +kernel)
set_option maxRecDepth 20000 in
theorem gJ2_indexOfSupplementary_4cfef_J11_isValidCodePoint_9a6ad : GoodIn wsJ2_indexOfSupplementary_4cfef (va_wsS RJ2 164 yJ11_isValidCodePoint_9a6ad wsJ11_isValidCodePoint_9a6ad) := goodIn_app (goodIn_of _ (by decide +kernel)) ggJ2_indexOfSupplementary_4cfef_J11_isValidCodePoint_9a6ad
set_option maxRecDepth 20000 in
theorem ggJ2_indexOfSupplementary_4cfef_J11_highSurrogate_5068e : GoodIn wsJ2_indexOfSupplementary_4cfef wsJ11_highSurrogate_5068e := goodIn_r _ [7, 8] (by decide +kernel) (by decide +kernel)
set_option maxRecDepth 20000 in
theorem gJ2_indexOfSupplementary_4cfef_J11_highSurrogate_5068e : GoodIn wsJ2_indexOfSupplementary_4cfef (va_wsS RJ2 157 yJ11_highSurrogate_5068e wsJ11_highSurrogate_5068e) := goodIn_app (goodIn_of _ (by decide +kernel)) ggJ2_indexOfSupplementary_4cfef_J11_highSurrogate_5068e
set_option maxRecDepth 20000 in
theorem ggJ2_indexOfSupplementary_4cfef_J11_lowSurrogate_5068e : GoodIn wsJ2_indexOfSupplementary_4cfef wsJ11_lowSurrogate_5068e := goodIn_r _ [11, 12] (by decide +kernel) (by decide +kernel)
set_option maxRecDepth 20000 in
theorem gJ2_indexOfSupplementary_4cfef_J11_lowSurrogate_5068e : GoodIn wsJ2_indexOfSupplementary_4cfef (va_wsS RJ2 161 yJ11_lowSurrogate_5068e wsJ11_lowSurrogate_5068e) := goodIn_app (goodIn_of _ (by decide +kernel)) ggJ2_indexOfSupplementary_4cfef_J11_lowSurrogate_5068e
set_option maxRecDepth 20000 in
theorem ggJ2_indexOfSupplementary_4cfef_J2_checkBoundsBeginEnd_d044e : GoodIn wsJ2_indexOfSupplementary_4cfef wsJ2_checkBoundsBeginEnd_d044e := goodIn_r _ [16, 17, 18, 15, 19, 20, 21, 22, 23, 24, 25, 26, 27, 28] (by decide +kernel) (by decide +kernel)
set_option maxRecDepth 20000 in
theorem gJ2_indexOfSupplementary_4cfef_J2_checkBoundsBeginEnd_d044e : GoodIn wsJ2_indexOfSupplementary_4cfef (va_wsS RJ2 96 yJ2_checkBoundsBeginEnd_d044e wsJ2_checkBoundsBeginEnd_d044e) := goodIn_app (goodIn_of _ (by decide +kernel)) ggJ2_indexOfSupplementary_4cfef_J2_checkBoundsBeginEnd_d044e
set_option maxRecDepth 20000 in
theorem ggJ2_indexOfSupplementary_4cfef_J2_getChar_3b067 : GoodIn wsJ2_indexOfSupplementary_4cfef wsJ2_getChar_3b067 := goodIn_r _ [31, 32, 33, 34, 17, 18, 15, 19] (by decide +kernel) (by decide +kernel)
set_option maxRecDepth 20000 in
theorem gJ2_indexOfSupplementary_4cfef_J2_getChar_3b067 : GoodIn wsJ2_indexOfSupplementary_4cfef (va_wsS RJ2 71 yJ2_getChar_3b067 wsJ2_getChar_3b067) := goodIn_app (goodIn_of _ (by decide +kernel)) ggJ2_indexOfSupplementary_4cfef_J2_getChar_3b067
theorem dJ2_indexOfSupplementary_4cfef_0 : decode cJ2_indexOfSupplementary_4cfef 0 = .ok (.iload_n 1, 1) := by decide +kernel
theorem dJ2_indexOfSupplementary_4cfef_1 : decode cJ2_indexOfSupplementary_4cfef 1 = .ok (.invokestatic 164, 3) := by decide +kernel
theorem dJ2_indexOfSupplementary_4cfef_4 : decode cJ2_indexOfSupplementary_4cfef 4 = .ok (.ifCond .eq 65, 3) := by decide +kernel
theorem dJ2_indexOfSupplementary_4cfef_7 : decode cJ2_indexOfSupplementary_4cfef 7 = .ok (.iload_n 1, 1) := by decide +kernel
theorem dJ2_indexOfSupplementary_4cfef_8 : decode cJ2_indexOfSupplementary_4cfef 8 = .ok (.invokestatic 157, 3) := by decide +kernel
theorem dJ2_indexOfSupplementary_4cfef_11 : decode cJ2_indexOfSupplementary_4cfef 11 = .ok (.istore 4, 2) := by decide +kernel
theorem dJ2_indexOfSupplementary_4cfef_13 : decode cJ2_indexOfSupplementary_4cfef 13 = .ok (.iload_n 1, 1) := by decide +kernel
theorem dJ2_indexOfSupplementary_4cfef_14 : decode cJ2_indexOfSupplementary_4cfef 14 = .ok (.invokestatic 161, 3) := by decide +kernel
theorem dJ2_indexOfSupplementary_4cfef_17 : decode cJ2_indexOfSupplementary_4cfef 17 = .ok (.istore 5, 2) := by decide +kernel
theorem dJ2_indexOfSupplementary_4cfef_19 : decode cJ2_indexOfSupplementary_4cfef 19 = .ok (.iload_n 2, 1) := by decide +kernel
theorem dJ2_indexOfSupplementary_4cfef_20 : decode cJ2_indexOfSupplementary_4cfef 20 = .ok (.iload_n 3, 1) := by decide +kernel
theorem dJ2_indexOfSupplementary_4cfef_21 : decode cJ2_indexOfSupplementary_4cfef 21 = .ok (.aload_n 0, 1) := by decide +kernel
theorem dJ2_indexOfSupplementary_4cfef_22 : decode cJ2_indexOfSupplementary_4cfef 22 = .ok (.invokestatic 96, 3) := by decide +kernel
theorem dJ2_indexOfSupplementary_4cfef_25 : decode cJ2_indexOfSupplementary_4cfef 25 = .ok (.iload_n 2, 1) := by decide +kernel
theorem dJ2_indexOfSupplementary_4cfef_26 : decode cJ2_indexOfSupplementary_4cfef 26 = .ok (.istore 6, 2) := by decide +kernel
theorem dJ2_indexOfSupplementary_4cfef_28 : decode cJ2_indexOfSupplementary_4cfef 28 = .ok (.iload 6, 2) := by decide +kernel
theorem dJ2_indexOfSupplementary_4cfef_30 : decode cJ2_indexOfSupplementary_4cfef 30 = .ok (.iload_n 3, 1) := by decide +kernel
theorem dJ2_indexOfSupplementary_4cfef_31 : decode cJ2_indexOfSupplementary_4cfef 31 = .ok (.iconst 1, 1) := by decide +kernel
theorem dJ2_indexOfSupplementary_4cfef_32 : decode cJ2_indexOfSupplementary_4cfef 32 = .ok (.isub, 1) := by decide +kernel
theorem dJ2_indexOfSupplementary_4cfef_33 : decode cJ2_indexOfSupplementary_4cfef 33 = .ok (.if_icmp .ge 36, 3) := by decide +kernel
theorem dJ2_indexOfSupplementary_4cfef_36 : decode cJ2_indexOfSupplementary_4cfef 36 = .ok (.aload_n 0, 1) := by decide +kernel
theorem dJ2_indexOfSupplementary_4cfef_37 : decode cJ2_indexOfSupplementary_4cfef 37 = .ok (.iload 6, 2) := by decide +kernel
theorem dJ2_indexOfSupplementary_4cfef_39 : decode cJ2_indexOfSupplementary_4cfef 39 = .ok (.invokestatic 71, 3) := by decide +kernel
theorem dJ2_indexOfSupplementary_4cfef_42 : decode cJ2_indexOfSupplementary_4cfef 42 = .ok (.iload 4, 2) := by decide +kernel
theorem dJ2_indexOfSupplementary_4cfef_44 : decode cJ2_indexOfSupplementary_4cfef 44 = .ok (.if_icmp .ne 19, 3) := by decide +kernel
theorem dJ2_indexOfSupplementary_4cfef_47 : decode cJ2_indexOfSupplementary_4cfef 47 = .ok (.aload_n 0, 1) := by decide +kernel
theorem dJ2_indexOfSupplementary_4cfef_48 : decode cJ2_indexOfSupplementary_4cfef 48 = .ok (.iload 6, 2) := by decide +kernel
theorem dJ2_indexOfSupplementary_4cfef_50 : decode cJ2_indexOfSupplementary_4cfef 50 = .ok (.iconst 1, 1) := by decide +kernel
theorem dJ2_indexOfSupplementary_4cfef_51 : decode cJ2_indexOfSupplementary_4cfef 51 = .ok (.iadd, 1) := by decide +kernel
theorem dJ2_indexOfSupplementary_4cfef_52 : decode cJ2_indexOfSupplementary_4cfef 52 = .ok (.invokestatic 71, 3) := by decide +kernel
theorem dJ2_indexOfSupplementary_4cfef_55 : decode cJ2_indexOfSupplementary_4cfef 55 = .ok (.iload 5, 2) := by decide +kernel
theorem dJ2_indexOfSupplementary_4cfef_57 : decode cJ2_indexOfSupplementary_4cfef 57 = .ok (.if_icmp .ne 6, 3) := by decide +kernel
theorem dJ2_indexOfSupplementary_4cfef_60 : decode cJ2_indexOfSupplementary_4cfef 60 = .ok (.iload 6, 2) := by decide +kernel
theorem dJ2_indexOfSupplementary_4cfef_62 : decode cJ2_indexOfSupplementary_4cfef 62 = .ok (.ireturn, 1) := by decide +kernel
theorem dJ2_indexOfSupplementary_4cfef_63 : decode cJ2_indexOfSupplementary_4cfef 63 = .ok (.iinc 6 1, 3) := by decide +kernel
theorem dJ2_indexOfSupplementary_4cfef_66 : decode cJ2_indexOfSupplementary_4cfef 66 = .ok (.goto (-38), 3) := by decide +kernel
theorem dJ2_indexOfSupplementary_4cfef_69 : decode cJ2_indexOfSupplementary_4cfef 69 = .ok (.iconst (-1), 1) := by decide +kernel
theorem dJ2_indexOfSupplementary_4cfef_70 : decode cJ2_indexOfSupplementary_4cfef 70 = .ok (.ireturn, 1) := by decide +kernel
set_option maxRecDepth 20000 in
theorem ggJ2_charAt_3b067_J2_checkIndex_2214a : GoodIn wsJ2_charAt_3b067 wsJ2_checkIndex_2214a := goodIn_r _ [4, 5, 6, 3, 7, 8, 9, 10, 11, 12, 13, 14, 15, 16] (by decide +kernel) (by decide +kernel)
set_option maxRecDepth 20000 in
theorem gJ2_charAt_3b067_J2_checkIndex_2214a : GoodIn wsJ2_charAt_3b067 (va_wsS RJ2 67 yJ2_checkIndex_2214a wsJ2_checkIndex_2214a) := goodIn_app (goodIn_of _ (by decide +kernel)) ggJ2_charAt_3b067_J2_checkIndex_2214a
set_option maxRecDepth 20000 in
theorem ggJ2_charAt_3b067_J2_getChar_3b067 : GoodIn wsJ2_charAt_3b067 wsJ2_getChar_3b067 := goodIn_r _ [19, 20, 21, 22, 5, 6, 3, 7] (by decide +kernel) (by decide +kernel)
set_option maxRecDepth 20000 in
theorem gJ2_charAt_3b067_J2_getChar_3b067 : GoodIn wsJ2_charAt_3b067 (va_wsS RJ2 71 yJ2_getChar_3b067 wsJ2_getChar_3b067) := goodIn_app (goodIn_of _ (by decide +kernel)) ggJ2_charAt_3b067_J2_getChar_3b067
theorem dJ2_charAt_3b067_0 : decode cJ2_charAt_3b067 0 = .ok (.iload_n 1, 1) := by decide +kernel
theorem dJ2_charAt_3b067_1 : decode cJ2_charAt_3b067 1 = .ok (.aload_n 0, 1) := by decide +kernel
theorem dJ2_charAt_3b067_2 : decode cJ2_charAt_3b067 2 = .ok (.invokestatic 67, 3) := by decide +kernel
theorem dJ2_charAt_3b067_5 : decode cJ2_charAt_3b067 5 = .ok (.aload_n 0, 1) := by decide +kernel
theorem dJ2_charAt_3b067_6 : decode cJ2_charAt_3b067 6 = .ok (.iload_n 1, 1) := by decide +kernel
theorem dJ2_charAt_3b067_7 : decode cJ2_charAt_3b067 7 = .ok (.invokestatic 71, 3) := by decide +kernel
theorem dJ2_charAt_3b067_10 : decode cJ2_charAt_3b067 10 = .ok (.ireturn, 1) := by decide +kernel
set_option maxRecDepth 20000 in
theorem ggJ2_checkIndex_2214a_J2_length_9d52b : GoodIn wsJ2_checkIndex_2214a wsJ2_length_9d52b := goodIn_r _ [4] (by decide +kernel) (by decide +kernel)
set_option maxRecDepth 20000 in
theorem gJ2_checkIndex_2214a_J2_length_9d52b : GoodIn wsJ2_checkIndex_2214a (va_wsS RJ2 48 yJ2_length_9d52b wsJ2_length_9d52b) := goodIn_app (goodIn_of _ (by decide +kernel)) ggJ2_checkIndex_2214a_J2_length_9d52b
set_option maxRecDepth 20000 in
theorem ggJ2_checkIndex_2214a_J0_checkIndex_df160 : GoodIn wsJ2_checkIndex_2214a wsJ0_checkIndex_df160 := goodIn_r _ [8, 9, 10, 11, 12, 13] (by decide +kernel) (by decide +kernel)
set_option maxRecDepth 20000 in
theorem gJ2_checkIndex_2214a_J0_checkIndex_df160 : GoodIn wsJ2_checkIndex_2214a (va_wsS RJ2 414 yJ0_checkIndex_df160 wsJ0_checkIndex_df160) := goodIn_app (goodIn_of _ (by decide +kernel)) ggJ2_checkIndex_2214a_J0_checkIndex_df160
theorem dJ2_checkIndex_2214a_0 : decode cJ2_checkIndex_2214a 0 = .ok (.iload_n 0, 1) := by decide +kernel
theorem dJ2_checkIndex_2214a_1 : decode cJ2_checkIndex_2214a 1 = .ok (.aload_n 1, 1) := by decide +kernel
theorem dJ2_checkIndex_2214a_2 : decode cJ2_checkIndex_2214a 2 = .ok (.invokestatic 48, 3) := by decide +kernel
theorem dJ2_checkIndex_2214a_5 : decode cJ2_checkIndex_2214a 5 = .ok (.invokestatic 414, 3) := by decide +kernel
theorem dJ2_checkIndex_2214a_8 : decode cJ2_checkIndex_2214a 8 = .ok (.return_, 1) := by decide +kernel
set_option maxRecDepth 20000 in
theorem ggJ2_checkBoundsBeginEnd_d044e_J2_length_9d52b : GoodIn wsJ2_checkBoundsBeginEnd_d044e wsJ2_length_9d52b := goodIn_r _ [4] (by decide +kernel) (by decide +kernel)
set_option maxRecDepth 20000 in
theorem gJ2_checkBoundsBeginEnd_d044e_J2_length_9d52b : GoodIn wsJ2_checkBoundsBeginEnd_d044e (va_wsS RJ2 48 yJ2_length_9d52b wsJ2_length_9d52b) := goodIn_app (goodIn_of _ (by decide +kernel)) ggJ2_checkBoundsBeginEnd_d044e_J2_length_9d52b
set_option maxRecDepth 20000 in
theorem ggJ2_checkBoundsBeginEnd_d044e_J0_checkBoundsBeginEnd_23922 : GoodIn wsJ2_checkBoundsBeginEnd_d044e wsJ0_checkBoundsBeginEnd_23922 := goodIn_r _ [8, 9, 10, 11, 12, 13] (by decide +kernel) (by decide +kernel)
set_option maxRecDepth 20000 in
theorem gJ2_checkBoundsBeginEnd_d044e_J0_checkBoundsBeginEnd_23922 : GoodIn wsJ2_checkBoundsBeginEnd_d044e (va_wsS RJ2 241 yJ0_checkBoundsBeginEnd_23922 wsJ0_checkBoundsBeginEnd_23922) := goodIn_app (goodIn_of _ (by decide +kernel)) ggJ2_checkBoundsBeginEnd_d044e_J0_checkBoundsBeginEnd_23922
theorem dJ2_checkBoundsBeginEnd_d044e_0 : decode cJ2_checkBoundsBeginEnd_d044e 0 = .ok (.iload_n 0, 1) := by decide +kernel
theorem dJ2_checkBoundsBeginEnd_d044e_1 : decode cJ2_checkBoundsBeginEnd_d044e 1 = .ok (.iload_n 1, 1) := by decide +kernel
theorem dJ2_checkBoundsBeginEnd_d044e_2 : decode cJ2_checkBoundsBeginEnd_d044e 2 = .ok (.aload_n 2, 1) := by decide +kernel
theorem dJ2_checkBoundsBeginEnd_d044e_3 : decode cJ2_checkBoundsBeginEnd_d044e 3 = .ok (.invokestatic 48, 3) := by decide +kernel
theorem dJ2_checkBoundsBeginEnd_d044e_6 : decode cJ2_checkBoundsBeginEnd_d044e 6 = .ok (.invokestatic 241, 3) := by decide +kernel
theorem dJ2_checkBoundsBeginEnd_d044e_9 : decode cJ2_checkBoundsBeginEnd_d044e 9 = .ok (.return_, 1) := by decide +kernel
theorem dJ3_checkIndex_8e157_0 : decode cJ3_checkIndex_8e157 0 = .ok (.iload_n 0, 1) := by decide +kernel
theorem dJ3_checkIndex_8e157_1 : decode cJ3_checkIndex_8e157 1 = .ok (.ifCond .lt 8, 3) := by decide +kernel
theorem dJ3_checkIndex_8e157_4 : decode cJ3_checkIndex_8e157 4 = .ok (.iload_n 0, 1) := by decide +kernel
theorem dJ3_checkIndex_8e157_5 : decode cJ3_checkIndex_8e157 5 = .ok (.iload_n 1, 1) := by decide +kernel
theorem dJ3_checkIndex_8e157_6 : decode cJ3_checkIndex_8e157 6 = .ok (.if_icmp .lt 10, 3) := by decide +kernel
theorem dJ3_checkIndex_8e157_9 : decode cJ3_checkIndex_8e157 9 = .ok (.aload_n 2, 1) := by decide +kernel
theorem dJ3_checkIndex_8e157_10 : decode cJ3_checkIndex_8e157 10 = .ok (.iload_n 0, 1) := by decide +kernel
theorem dJ3_checkIndex_8e157_11 : decode cJ3_checkIndex_8e157 11 = .ok (.iload_n 1, 1) := by decide +kernel
theorem dJ3_checkIndex_8e157_12 : decode cJ3_checkIndex_8e157 12 = .ok (.invokestatic 95, 3) := by decide +kernel
theorem dJ3_checkIndex_8e157_15 : decode cJ3_checkIndex_8e157 15 = .ok (.athrow, 1) := by decide +kernel
theorem dJ3_checkIndex_8e157_16 : decode cJ3_checkIndex_8e157 16 = .ok (.iload_n 0, 1) := by decide +kernel
theorem dJ3_checkIndex_8e157_17 : decode cJ3_checkIndex_8e157 17 = .ok (.ireturn, 1) := by decide +kernel
theorem dJ3_checkFromToIndex_8c36e_0 : decode cJ3_checkFromToIndex_8c36e 0 = .ok (.iload_n 0, 1) := by decide +kernel
theorem dJ3_checkFromToIndex_8c36e_1 : decode cJ3_checkFromToIndex_8c36e 1 = .ok (.ifCond .lt 13, 3) := by decide +kernel
theorem dJ3_checkFromToIndex_8c36e_4 : decode cJ3_checkFromToIndex_8c36e 4 = .ok (.iload_n 0, 1) := by decide +kernel
theorem dJ3_checkFromToIndex_8c36e_5 : decode cJ3_checkFromToIndex_8c36e 5 = .ok (.iload_n 1, 1) := by decide +kernel
theorem dJ3_checkFromToIndex_8c36e_6 : decode cJ3_checkFromToIndex_8c36e 6 = .ok (.if_icmp .gt 8, 3) := by decide +kernel
theorem dJ3_checkFromToIndex_8c36e_9 : decode cJ3_checkFromToIndex_8c36e 9 = .ok (.iload_n 1, 1) := by decide +kernel
theorem dJ3_checkFromToIndex_8c36e_10 : decode cJ3_checkFromToIndex_8c36e 10 = .ok (.iload_n 2, 1) := by decide +kernel
theorem dJ3_checkFromToIndex_8c36e_11 : decode cJ3_checkFromToIndex_8c36e 11 = .ok (.if_icmp .le 11, 3) := by decide +kernel
theorem dJ3_checkFromToIndex_8c36e_14 : decode cJ3_checkFromToIndex_8c36e 14 = .ok (.aload_n 3, 1) := by decide +kernel
theorem dJ3_checkFromToIndex_8c36e_15 : decode cJ3_checkFromToIndex_8c36e 15 = .ok (.iload_n 0, 1) := by decide +kernel
theorem dJ3_checkFromToIndex_8c36e_16 : decode cJ3_checkFromToIndex_8c36e 16 = .ok (.iload_n 1, 1) := by decide +kernel
theorem dJ3_checkFromToIndex_8c36e_17 : decode cJ3_checkFromToIndex_8c36e 17 = .ok (.iload_n 2, 1) := by decide +kernel
theorem dJ3_checkFromToIndex_8c36e_18 : decode cJ3_checkFromToIndex_8c36e 18 = .ok (.invokestatic 99, 3) := by decide +kernel
theorem dJ3_checkFromToIndex_8c36e_21 : decode cJ3_checkFromToIndex_8c36e 21 = .ok (.athrow, 1) := by decide +kernel
theorem dJ3_checkFromToIndex_8c36e_22 : decode cJ3_checkFromToIndex_8c36e 22 = .ok (.iload_n 0, 1) := by decide +kernel
theorem dJ3_checkFromToIndex_8c36e_23 : decode cJ3_checkFromToIndex_8c36e 23 = .ok (.ireturn, 1) := by decide +kernel
