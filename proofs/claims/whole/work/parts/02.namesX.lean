theorem dX0_init_0 : decode cX0_init 0 = .ok (.aload_n 0, 1) := by decide +kernel
theorem dX0_init_1 : decode cX0_init 1 = .ok (.invokespecial 3, 3) := by decide +kernel
theorem dX0_init_4 : decode cX0_init 4 = .ok (.aload_n 0, 1) := by decide +kernel
theorem dX0_init_5 : decode cX0_init 5 = .ok (.iconst 5, 1) := by decide +kernel
theorem dX0_init_6 : decode cX0_init 6 = .ok (.newarray .int, 2) := by decide +kernel
theorem dX0_init_8 : decode cX0_init 8 = .ok (.putfield 11, 3) := by decide +kernel
theorem dX0_init_11 : decode cX0_init 11 = .ok (.aload_n 0, 1) := by decide +kernel
theorem dX0_init_12 : decode cX0_init 12 = .ok (.iconst 5, 1) := by decide +kernel
theorem dX0_init_13 : decode cX0_init 13 = .ok (.newarray .int, 2) := by decide +kernel
theorem dX0_init_15 : decode cX0_init 15 = .ok (.putfield 15, 3) := by decide +kernel
theorem dX0_init_18 : decode cX0_init 18 = .ok (.aload_n 0, 1) := by decide +kernel
theorem dX0_init_19 : decode cX0_init 19 = .ok (.iconst 5, 1) := by decide +kernel
theorem dX0_init_20 : decode cX0_init 20 = .ok (.newarray .int, 2) := by decide +kernel
theorem dX0_init_22 : decode cX0_init 22 = .ok (.putfield 18, 3) := by decide +kernel
theorem dX0_init_25 : decode cX0_init 25 = .ok (.aload_n 0, 1) := by decide +kernel
theorem dX0_init_26 : decode cX0_init 26 = .ok (.bipush 8, 2) := by decide +kernel
theorem dX0_init_28 : decode cX0_init 28 = .ok (.newarray .int, 2) := by decide +kernel
theorem dX0_init_30 : decode cX0_init 30 = .ok (.putfield 21, 3) := by decide +kernel
theorem dX0_init_33 : decode cX0_init 33 = .ok (.aload_n 0, 1) := by decide +kernel
theorem dX0_init_34 : decode cX0_init 34 = .ok (.bipush 8, 2) := by decide +kernel
theorem dX0_init_36 : decode cX0_init 36 = .ok (.newarray .int, 2) := by decide +kernel
theorem dX0_init_38 : decode cX0_init 38 = .ok (.putfield 24, 3) := by decide +kernel
theorem dX0_init_41 : decode cX0_init 41 = .ok (.aload_n 0, 1) := by decide +kernel
theorem dX0_init_42 : decode cX0_init 42 = .ok (.bipush 8, 2) := by decide +kernel
theorem dX0_init_44 : decode cX0_init 44 = .ok (.newarray .int, 2) := by decide +kernel
theorem dX0_init_46 : decode cX0_init 46 = .ok (.putfield 27, 3) := by decide +kernel
theorem dX0_init_49 : decode cX0_init 49 = .ok (.aload_n 0, 1) := by decide +kernel
theorem dX0_init_50 : decode cX0_init 50 = .ok (.bipush 8, 2) := by decide +kernel
theorem dX0_init_52 : decode cX0_init 52 = .ok (.newarray .int, 2) := by decide +kernel
theorem dX0_init_54 : decode cX0_init 54 = .ok (.putfield 30, 3) := by decide +kernel
theorem dX0_init_57 : decode cX0_init 57 = .ok (.aload_n 0, 1) := by decide +kernel
theorem dX0_init_58 : decode cX0_init 58 = .ok (.bipush 8, 2) := by decide +kernel
theorem dX0_init_60 : decode cX0_init 60 = .ok (.newarray .int, 2) := by decide +kernel
theorem dX0_init_62 : decode cX0_init 62 = .ok (.putfield 33, 3) := by decide +kernel
theorem dX0_init_65 : decode cX0_init 65 = .ok (.return_, 1) := by decide +kernel
theorem dX0_copyFrom_0 : decode cX0_copyFrom 0 = .ok (.aload_n 0, 1) := by decide +kernel
theorem dX0_copyFrom_1 : decode cX0_copyFrom 1 = .ok (.aload_n 1, 1) := by decide +kernel
theorem dX0_copyFrom_2 : decode cX0_copyFrom 2 = .ok (.getfield 36, 3) := by decide +kernel
theorem dX0_copyFrom_5 : decode cX0_copyFrom 5 = .ok (.putfield 36, 3) := by decide +kernel
theorem dX0_copyFrom_8 : decode cX0_copyFrom 8 = .ok (.aload_n 0, 1) := by decide +kernel
theorem dX0_copyFrom_9 : decode cX0_copyFrom 9 = .ok (.aload_n 1, 1) := by decide +kernel
theorem dX0_copyFrom_10 : decode cX0_copyFrom 10 = .ok (.getfield 40, 3) := by decide +kernel
theorem dX0_copyFrom_13 : decode cX0_copyFrom 13 = .ok (.putfield 40, 3) := by decide +kernel
theorem dX0_copyFrom_16 : decode cX0_copyFrom 16 = .ok (.aload_n 0, 1) := by decide +kernel
theorem dX0_copyFrom_17 : decode cX0_copyFrom 17 = .ok (.aload_n 1, 1) := by decide +kernel
theorem dX0_copyFrom_18 : decode cX0_copyFrom 18 = .ok (.getfield 43, 3) := by decide +kernel
theorem dX0_copyFrom_21 : decode cX0_copyFrom 21 = .ok (.putfield 43, 3) := by decide +kernel
theorem dX0_copyFrom_24 : decode cX0_copyFrom 24 = .ok (.aload_n 0, 1) := by decide +kernel
theorem dX0_copyFrom_25 : decode cX0_copyFrom 25 = .ok (.aload_n 1, 1) := by decide +kernel
theorem dX0_copyFrom_26 : decode cX0_copyFrom 26 = .ok (.getfield 46, 3) := by decide +kernel
theorem dX0_copyFrom_29 : decode cX0_copyFrom 29 = .ok (.putfield 46, 3) := by decide +kernel
theorem dX0_copyFrom_32 : decode cX0_copyFrom 32 = .ok (.iconst 0, 1) := by decide +kernel
theorem dX0_copyFrom_33 : decode cX0_copyFrom 33 = .ok (.istore_n 2, 1) := by decide +kernel
theorem dX0_copyFrom_34 : decode cX0_copyFrom 34 = .ok (.iload_n 2, 1) := by decide +kernel
theorem dX0_copyFrom_35 : decode cX0_copyFrom 35 = .ok (.iconst 5, 1) := by decide +kernel
theorem dX0_copyFrom_36 : decode cX0_copyFrom 36 = .ok (.if_icmp .ge 45, 3) := by decide +kernel
theorem dX0_copyFrom_39 : decode cX0_copyFrom 39 = .ok (.aload_n 0, 1) := by decide +kernel
theorem dX0_copyFrom_40 : decode cX0_copyFrom 40 = .ok (.getfield 11, 3) := by decide +kernel
theorem dX0_copyFrom_43 : decode cX0_copyFrom 43 = .ok (.iload_n 2, 1) := by decide +kernel
theorem dX0_copyFrom_44 : decode cX0_copyFrom 44 = .ok (.aload_n 1, 1) := by decide +kernel
theorem dX0_copyFrom_45 : decode cX0_copyFrom 45 = .ok (.getfield 11, 3) := by decide +kernel
theorem dX0_copyFrom_48 : decode cX0_copyFrom 48 = .ok (.iload_n 2, 1) := by decide +kernel
theorem dX0_copyFrom_49 : decode cX0_copyFrom 49 = .ok (.iaload, 1) := by decide +kernel
theorem dX0_copyFrom_50 : decode cX0_copyFrom 50 = .ok (.iastore, 1) := by decide +kernel
theorem dX0_copyFrom_51 : decode cX0_copyFrom 51 = .ok (.aload_n 0, 1) := by decide +kernel
theorem dX0_copyFrom_52 : decode cX0_copyFrom 52 = .ok (.getfield 15, 3) := by decide +kernel
theorem dX0_copyFrom_55 : decode cX0_copyFrom 55 = .ok (.iload_n 2, 1) := by decide +kernel
theorem dX0_copyFrom_56 : decode cX0_copyFrom 56 = .ok (.aload_n 1, 1) := by decide +kernel
theorem dX0_copyFrom_57 : decode cX0_copyFrom 57 = .ok (.getfield 15, 3) := by decide +kernel
theorem dX0_copyFrom_60 : decode cX0_copyFrom 60 = .ok (.iload_n 2, 1) := by decide +kernel
theorem dX0_copyFrom_61 : decode cX0_copyFrom 61 = .ok (.iaload, 1) := by decide +kernel
theorem dX0_copyFrom_62 : decode cX0_copyFrom 62 = .ok (.iastore, 1) := by decide +kernel
theorem dX0_copyFrom_63 : decode cX0_copyFrom 63 = .ok (.aload_n 0, 1) := by decide +kernel
theorem dX0_copyFrom_64 : decode cX0_copyFrom 64 = .ok (.getfield 18, 3) := by decide +kernel
theorem dX0_copyFrom_67 : decode cX0_copyFrom 67 = .ok (.iload_n 2, 1) := by decide +kernel
theorem dX0_copyFrom_68 : decode cX0_copyFrom 68 = .ok (.aload_n 1, 1) := by decide +kernel
theorem dX0_copyFrom_69 : decode cX0_copyFrom 69 = .ok (.getfield 18, 3) := by decide +kernel
theorem dX0_copyFrom_72 : decode cX0_copyFrom 72 = .ok (.iload_n 2, 1) := by decide +kernel
theorem dX0_copyFrom_73 : decode cX0_copyFrom 73 = .ok (.iaload, 1) := by decide +kernel
theorem dX0_copyFrom_74 : decode cX0_copyFrom 74 = .ok (.iastore, 1) := by decide +kernel
theorem dX0_copyFrom_75 : decode cX0_copyFrom 75 = .ok (.iinc 2 1, 3) := by decide +kernel
theorem dX0_copyFrom_78 : decode cX0_copyFrom 78 = .ok (.goto (-44), 3) := by decide +kernel
theorem dX0_copyFrom_81 : decode cX0_copyFrom 81 = .ok (.iconst 0, 1) := by decide +kernel
theorem dX0_copyFrom_82 : decode cX0_copyFrom 82 = .ok (.istore_n 2, 1) := by decide +kernel
theorem dX0_copyFrom_83 : decode cX0_copyFrom 83 = .ok (.iload_n 2, 1) := by decide +kernel
theorem dX0_copyFrom_84 : decode cX0_copyFrom 84 = .ok (.bipush 8, 2) := by decide +kernel
theorem dX0_copyFrom_86 : decode cX0_copyFrom 86 = .ok (.if_icmp .ge 57, 3) := by decide +kernel
theorem dX0_copyFrom_89 : decode cX0_copyFrom 89 = .ok (.aload_n 0, 1) := by decide +kernel
theorem dX0_copyFrom_90 : decode cX0_copyFrom 90 = .ok (.getfield 21, 3) := by decide +kernel
theorem dX0_copyFrom_93 : decode cX0_copyFrom 93 = .ok (.iload_n 2, 1) := by decide +kernel
theorem dX0_copyFrom_94 : decode cX0_copyFrom 94 = .ok (.aload_n 1, 1) := by decide +kernel
theorem dX0_copyFrom_95 : decode cX0_copyFrom 95 = .ok (.getfield 21, 3) := by decide +kernel
theorem dX0_copyFrom_98 : decode cX0_copyFrom 98 = .ok (.iload_n 2, 1) := by decide +kernel
theorem dX0_copyFrom_99 : decode cX0_copyFrom 99 = .ok (.iaload, 1) := by decide +kernel
theorem dX0_copyFrom_100 : decode cX0_copyFrom 100 = .ok (.iastore, 1) := by decide +kernel
theorem dX0_copyFrom_101 : decode cX0_copyFrom 101 = .ok (.aload_n 0, 1) := by decide +kernel
theorem dX0_copyFrom_102 : decode cX0_copyFrom 102 = .ok (.getfield 24, 3) := by decide +kernel
theorem dX0_copyFrom_105 : decode cX0_copyFrom 105 = .ok (.iload_n 2, 1) := by decide +kernel
theorem dX0_copyFrom_106 : decode cX0_copyFrom 106 = .ok (.aload_n 1, 1) := by decide +kernel
theorem dX0_copyFrom_107 : decode cX0_copyFrom 107 = .ok (.getfield 24, 3) := by decide +kernel
theorem dX0_copyFrom_110 : decode cX0_copyFrom 110 = .ok (.iload_n 2, 1) := by decide +kernel
theorem dX0_copyFrom_111 : decode cX0_copyFrom 111 = .ok (.iaload, 1) := by decide +kernel
theorem dX0_copyFrom_112 : decode cX0_copyFrom 112 = .ok (.iastore, 1) := by decide +kernel
theorem dX0_copyFrom_113 : decode cX0_copyFrom 113 = .ok (.aload_n 0, 1) := by decide +kernel
theorem dX0_copyFrom_114 : decode cX0_copyFrom 114 = .ok (.getfield 27, 3) := by decide +kernel
theorem dX0_copyFrom_117 : decode cX0_copyFrom 117 = .ok (.iload_n 2, 1) := by decide +kernel
theorem dX0_copyFrom_118 : decode cX0_copyFrom 118 = .ok (.aload_n 1, 1) := by decide +kernel
theorem dX0_copyFrom_119 : decode cX0_copyFrom 119 = .ok (.getfield 27, 3) := by decide +kernel
theorem dX0_copyFrom_122 : decode cX0_copyFrom 122 = .ok (.iload_n 2, 1) := by decide +kernel
theorem dX0_copyFrom_123 : decode cX0_copyFrom 123 = .ok (.iaload, 1) := by decide +kernel
theorem dX0_copyFrom_124 : decode cX0_copyFrom 124 = .ok (.iastore, 1) := by decide +kernel
theorem dX0_copyFrom_125 : decode cX0_copyFrom 125 = .ok (.aload_n 0, 1) := by decide +kernel
theorem dX0_copyFrom_126 : decode cX0_copyFrom 126 = .ok (.getfield 30, 3) := by decide +kernel
theorem dX0_copyFrom_129 : decode cX0_copyFrom 129 = .ok (.iload_n 2, 1) := by decide +kernel
theorem dX0_copyFrom_130 : decode cX0_copyFrom 130 = .ok (.aload_n 1, 1) := by decide +kernel
theorem dX0_copyFrom_131 : decode cX0_copyFrom 131 = .ok (.getfield 30, 3) := by decide +kernel
theorem dX0_copyFrom_134 : decode cX0_copyFrom 134 = .ok (.iload_n 2, 1) := by decide +kernel
theorem dX0_copyFrom_135 : decode cX0_copyFrom 135 = .ok (.iaload, 1) := by decide +kernel
theorem dX0_copyFrom_136 : decode cX0_copyFrom 136 = .ok (.iastore, 1) := by decide +kernel
theorem dX0_copyFrom_137 : decode cX0_copyFrom 137 = .ok (.iinc 2 1, 3) := by decide +kernel
theorem dX0_copyFrom_140 : decode cX0_copyFrom 140 = .ok (.goto (-57), 3) := by decide +kernel
theorem dX0_copyFrom_143 : decode cX0_copyFrom 143 = .ok (.return_, 1) := by decide +kernel
theorem dX0_hasShip_0 : decode cX0_hasShip 0 = .ok (.iload_n 1, 1) := by decide +kernel
theorem dX0_hasShip_1 : decode cX0_hasShip 1 = .ok (.ifCond .lt 15, 3) := by decide +kernel
theorem dX0_hasShip_4 : decode cX0_hasShip 4 = .ok (.iload_n 1, 1) := by decide +kernel
theorem dX0_hasShip_5 : decode cX0_hasShip 5 = .ok (.aload_n 0, 1) := by decide +kernel
theorem dX0_hasShip_6 : decode cX0_hasShip 6 = .ok (.getfield 36, 3) := by decide +kernel
theorem dX0_hasShip_9 : decode cX0_hasShip 9 = .ok (.if_icmp .ge 7, 3) := by decide +kernel
theorem dX0_hasShip_12 : decode cX0_hasShip 12 = .ok (.iconst 1, 1) := by decide +kernel
theorem dX0_hasShip_13 : decode cX0_hasShip 13 = .ok (.goto 4, 3) := by decide +kernel
theorem dX0_hasShip_16 : decode cX0_hasShip 16 = .ok (.iconst 0, 1) := by decide +kernel
theorem dX0_hasShip_17 : decode cX0_hasShip 17 = .ok (.ireturn, 1) := by decide +kernel
theorem dX0_hasMan_0 : decode cX0_hasMan 0 = .ok (.iload_n 1, 1) := by decide +kernel
theorem dX0_hasMan_1 : decode cX0_hasMan 1 = .ok (.ifCond .lt 15, 3) := by decide +kernel
theorem dX0_hasMan_4 : decode cX0_hasMan 4 = .ok (.iload_n 1, 1) := by decide +kernel
theorem dX0_hasMan_5 : decode cX0_hasMan 5 = .ok (.aload_n 0, 1) := by decide +kernel
theorem dX0_hasMan_6 : decode cX0_hasMan 6 = .ok (.getfield 40, 3) := by decide +kernel
theorem dX0_hasMan_9 : decode cX0_hasMan 9 = .ok (.if_icmp .ge 7, 3) := by decide +kernel
theorem dX0_hasMan_12 : decode cX0_hasMan 12 = .ok (.iconst 1, 1) := by decide +kernel
theorem dX0_hasMan_13 : decode cX0_hasMan 13 = .ok (.goto 4, 3) := by decide +kernel
theorem dX0_hasMan_16 : decode cX0_hasMan 16 = .ok (.iconst 0, 1) := by decide +kernel
theorem dX0_hasMan_17 : decode cX0_hasMan 17 = .ok (.ireturn, 1) := by decide +kernel
theorem dX0_addShip_0 : decode cX0_addShip 0 = .ok (.aload_n 0, 1) := by decide +kernel
theorem dX0_addShip_1 : decode cX0_addShip 1 = .ok (.getfield 36, 3) := by decide +kernel
theorem dX0_addShip_4 : decode cX0_addShip 4 = .ok (.iconst 5, 1) := by decide +kernel
theorem dX0_addShip_5 : decode cX0_addShip 5 = .ok (.if_icmp .lt 5, 3) := by decide +kernel
theorem dX0_addShip_8 : decode cX0_addShip 8 = .ok (.iconst 0, 1) := by decide +kernel
theorem dX0_addShip_9 : decode cX0_addShip 9 = .ok (.ireturn, 1) := by decide +kernel
theorem dX0_addShip_10 : decode cX0_addShip 10 = .ok (.aload_n 0, 1) := by decide +kernel
theorem dX0_addShip_11 : decode cX0_addShip 11 = .ok (.getfield 11, 3) := by decide +kernel
theorem dX0_addShip_14 : decode cX0_addShip 14 = .ok (.aload_n 0, 1) := by decide +kernel
theorem dX0_addShip_15 : decode cX0_addShip 15 = .ok (.getfield 36, 3) := by decide +kernel
theorem dX0_addShip_18 : decode cX0_addShip 18 = .ok (.iload_n 1, 1) := by decide +kernel
theorem dX0_addShip_19 : decode cX0_addShip 19 = .ok (.iastore, 1) := by decide +kernel
theorem dX0_addShip_20 : decode cX0_addShip 20 = .ok (.aload_n 0, 1) := by decide +kernel
theorem dX0_addShip_21 : decode cX0_addShip 21 = .ok (.getfield 15, 3) := by decide +kernel
theorem dX0_addShip_24 : decode cX0_addShip 24 = .ok (.aload_n 0, 1) := by decide +kernel
theorem dX0_addShip_25 : decode cX0_addShip 25 = .ok (.getfield 36, 3) := by decide +kernel
theorem dX0_addShip_28 : decode cX0_addShip 28 = .ok (.iconst 0, 1) := by decide +kernel
theorem dX0_addShip_29 : decode cX0_addShip 29 = .ok (.iastore, 1) := by decide +kernel
theorem dX0_addShip_30 : decode cX0_addShip 30 = .ok (.aload_n 0, 1) := by decide +kernel
theorem dX0_addShip_31 : decode cX0_addShip 31 = .ok (.getfield 18, 3) := by decide +kernel
theorem dX0_addShip_34 : decode cX0_addShip 34 = .ok (.aload_n 0, 1) := by decide +kernel
theorem dX0_addShip_35 : decode cX0_addShip 35 = .ok (.getfield 36, 3) := by decide +kernel
theorem dX0_addShip_38 : decode cX0_addShip 38 = .ok (.iconst 0, 1) := by decide +kernel
theorem dX0_addShip_39 : decode cX0_addShip 39 = .ok (.iastore, 1) := by decide +kernel
theorem dX0_addShip_40 : decode cX0_addShip 40 = .ok (.aload_n 0, 1) := by decide +kernel
theorem dX0_addShip_41 : decode cX0_addShip 41 = .ok (.dup, 1) := by decide +kernel
theorem dX0_addShip_42 : decode cX0_addShip 42 = .ok (.getfield 36, 3) := by decide +kernel
theorem dX0_addShip_45 : decode cX0_addShip 45 = .ok (.iconst 1, 1) := by decide +kernel
theorem dX0_addShip_46 : decode cX0_addShip 46 = .ok (.iadd, 1) := by decide +kernel
theorem dX0_addShip_47 : decode cX0_addShip 47 = .ok (.putfield 36, 3) := by decide +kernel
theorem dX0_addShip_50 : decode cX0_addShip 50 = .ok (.iconst 1, 1) := by decide +kernel
theorem dX0_addShip_51 : decode cX0_addShip 51 = .ok (.ireturn, 1) := by decide +kernel
set_option maxRecDepth 20000 in
theorem ggX0_addMan_X0_hasShip : GoodIn wsX0_addMan wsX0_hasShip := goodIn_r _ [10, 11, 12, 13, 14, 15, 16, 17, 18, 19, 20, 21, 22, 23] (by decide +kernel) (by decide +kernel)
set_option maxRecDepth 20000 in
theorem gX0_addMan_X0_hasShip : GoodIn wsX0_addMan (wsV RX0 49 RX0 yX0_hasShip wsX0_hasShip) := goodIn_app (goodIn_of _ (by decide +kernel)) ggX0_addMan_X0_hasShip
theorem dX0_addMan_0 : decode cX0_addMan 0 = .ok (.aload_n 0, 1) := by decide +kernel
theorem dX0_addMan_1 : decode cX0_addMan 1 = .ok (.getfield 40, 3) := by decide +kernel
theorem dX0_addMan_4 : decode cX0_addMan 4 = .ok (.bipush 8, 2) := by decide +kernel
theorem dX0_addMan_6 : decode cX0_addMan 6 = .ok (.if_icmp .ge 12, 3) := by decide +kernel
theorem dX0_addMan_9 : decode cX0_addMan 9 = .ok (.aload_n 0, 1) := by decide +kernel
theorem dX0_addMan_10 : decode cX0_addMan 10 = .ok (.iload 4, 2) := by decide +kernel
theorem dX0_addMan_12 : decode cX0_addMan 12 = .ok (.invokevirtual 49, 3) := by decide +kernel
theorem dX0_addMan_15 : decode cX0_addMan 15 = .ok (.ifCond .ne 5, 3) := by decide +kernel
theorem dX0_addMan_18 : decode cX0_addMan 18 = .ok (.iconst 0, 1) := by decide +kernel
theorem dX0_addMan_19 : decode cX0_addMan 19 = .ok (.ireturn, 1) := by decide +kernel
theorem dX0_addMan_20 : decode cX0_addMan 20 = .ok (.aload_n 0, 1) := by decide +kernel
theorem dX0_addMan_21 : decode cX0_addMan 21 = .ok (.getfield 21, 3) := by decide +kernel
theorem dX0_addMan_24 : decode cX0_addMan 24 = .ok (.aload_n 0, 1) := by decide +kernel
theorem dX0_addMan_25 : decode cX0_addMan 25 = .ok (.getfield 40, 3) := by decide +kernel
theorem dX0_addMan_28 : decode cX0_addMan 28 = .ok (.iload_n 1, 1) := by decide +kernel
theorem dX0_addMan_29 : decode cX0_addMan 29 = .ok (.iastore, 1) := by decide +kernel
theorem dX0_addMan_30 : decode cX0_addMan 30 = .ok (.aload_n 0, 1) := by decide +kernel
theorem dX0_addMan_31 : decode cX0_addMan 31 = .ok (.getfield 24, 3) := by decide +kernel
theorem dX0_addMan_34 : decode cX0_addMan 34 = .ok (.aload_n 0, 1) := by decide +kernel
theorem dX0_addMan_35 : decode cX0_addMan 35 = .ok (.getfield 40, 3) := by decide +kernel
theorem dX0_addMan_38 : decode cX0_addMan 38 = .ok (.iload_n 2, 1) := by decide +kernel
theorem dX0_addMan_39 : decode cX0_addMan 39 = .ok (.iastore, 1) := by decide +kernel
theorem dX0_addMan_40 : decode cX0_addMan 40 = .ok (.aload_n 0, 1) := by decide +kernel
theorem dX0_addMan_41 : decode cX0_addMan 41 = .ok (.getfield 27, 3) := by decide +kernel
theorem dX0_addMan_44 : decode cX0_addMan 44 = .ok (.aload_n 0, 1) := by decide +kernel
theorem dX0_addMan_45 : decode cX0_addMan 45 = .ok (.getfield 40, 3) := by decide +kernel
theorem dX0_addMan_48 : decode cX0_addMan 48 = .ok (.iload_n 3, 1) := by decide +kernel
theorem dX0_addMan_49 : decode cX0_addMan 49 = .ok (.iastore, 1) := by decide +kernel
theorem dX0_addMan_50 : decode cX0_addMan 50 = .ok (.aload_n 0, 1) := by decide +kernel
theorem dX0_addMan_51 : decode cX0_addMan 51 = .ok (.getfield 30, 3) := by decide +kernel
theorem dX0_addMan_54 : decode cX0_addMan 54 = .ok (.aload_n 0, 1) := by decide +kernel
theorem dX0_addMan_55 : decode cX0_addMan 55 = .ok (.getfield 40, 3) := by decide +kernel
theorem dX0_addMan_58 : decode cX0_addMan 58 = .ok (.iload 4, 2) := by decide +kernel
theorem dX0_addMan_60 : decode cX0_addMan 60 = .ok (.iastore, 1) := by decide +kernel
theorem dX0_addMan_61 : decode cX0_addMan 61 = .ok (.aload_n 0, 1) := by decide +kernel
theorem dX0_addMan_62 : decode cX0_addMan 62 = .ok (.dup, 1) := by decide +kernel
theorem dX0_addMan_63 : decode cX0_addMan 63 = .ok (.getfield 40, 3) := by decide +kernel
theorem dX0_addMan_66 : decode cX0_addMan 66 = .ok (.iconst 1, 1) := by decide +kernel
theorem dX0_addMan_67 : decode cX0_addMan 67 = .ok (.iadd, 1) := by decide +kernel
theorem dX0_addMan_68 : decode cX0_addMan 68 = .ok (.putfield 40, 3) := by decide +kernel
theorem dX0_addMan_71 : decode cX0_addMan 71 = .ok (.iconst 1, 1) := by decide +kernel
theorem dX0_addMan_72 : decode cX0_addMan 72 = .ok (.ireturn, 1) := by decide +kernel
theorem dX0_isIn_0 : decode cX0_isIn 0 = .ok (.aload_n 0, 1) := by decide +kernel
theorem dX0_isIn_1 : decode cX0_isIn 1 = .ok (.getfield 18, 3) := by decide +kernel
theorem dX0_isIn_4 : decode cX0_isIn 4 = .ok (.iload_n 1, 1) := by decide +kernel
theorem dX0_isIn_5 : decode cX0_isIn 5 = .ok (.iaload, 1) := by decide +kernel
theorem dX0_isIn_6 : decode cX0_isIn 6 = .ok (.ifCond .ne 7, 3) := by decide +kernel
theorem dX0_isIn_9 : decode cX0_isIn 9 = .ok (.iconst 1, 1) := by decide +kernel
theorem dX0_isIn_10 : decode cX0_isIn 10 = .ok (.goto 4, 3) := by decide +kernel
theorem dX0_isIn_13 : decode cX0_isIn 13 = .ok (.iconst 0, 1) := by decide +kernel
theorem dX0_isIn_14 : decode cX0_isIn 14 = .ok (.ireturn, 1) := by decide +kernel
theorem dX0_isEbb_0 : decode cX0_isEbb 0 = .ok (.aload_n 0, 1) := by decide +kernel
theorem dX0_isEbb_1 : decode cX0_isEbb 1 = .ok (.getfield 46, 3) := by decide +kernel
theorem dX0_isEbb_4 : decode cX0_isEbb 4 = .ok (.iconst 2, 1) := by decide +kernel
theorem dX0_isEbb_5 : decode cX0_isEbb 5 = .ok (.irem, 1) := by decide +kernel
theorem dX0_isEbb_6 : decode cX0_isEbb 6 = .ok (.ifCond .eq 7, 3) := by decide +kernel
theorem dX0_isEbb_9 : decode cX0_isEbb 9 = .ok (.iconst 1, 1) := by decide +kernel
theorem dX0_isEbb_10 : decode cX0_isEbb 10 = .ok (.goto 4, 3) := by decide +kernel
theorem dX0_isEbb_13 : decode cX0_isEbb 13 = .ok (.iconst 0, 1) := by decide +kernel
theorem dX0_isEbb_14 : decode cX0_isEbb 14 = .ok (.ireturn, 1) := by decide +kernel
set_option maxRecDepth 20000 in
theorem ggX0_holds_X0_isEbb : GoodIn wsX0_holds wsX0_isEbb := goodIn_r _ [7, 8, 9, 10, 11, 12, 13, 14, 15, 16, 17, 18, 19, 20] (by decide +kernel) (by decide +kernel)
set_option maxRecDepth 20000 in
theorem gX0_holds_X0_isEbb : GoodIn wsX0_holds (wsV RX0 53 RX0 yX0_isEbb wsX0_isEbb) := goodIn_app (goodIn_of _ (by decide +kernel)) ggX0_holds_X0_isEbb
theorem dX0_holds_0 : decode cX0_holds 0 = .ok (.aload_n 0, 1) := by decide +kernel
theorem dX0_holds_1 : decode cX0_holds 1 = .ok (.invokevirtual 53, 3) := by decide +kernel
theorem dX0_holds_4 : decode cX0_holds 4 = .ok (.ifCond .eq 7, 3) := by decide +kernel
theorem dX0_holds_7 : decode cX0_holds 7 = .ok (.iconst 0, 1) := by decide +kernel
theorem dX0_holds_8 : decode cX0_holds 8 = .ok (.goto 4, 3) := by decide +kernel
theorem dX0_holds_11 : decode cX0_holds 11 = .ok (.iconst 2, 1) := by decide +kernel
theorem dX0_holds_12 : decode cX0_holds 12 = .ok (.istore_n 2, 1) := by decide +kernel
theorem dX0_holds_13 : decode cX0_holds 13 = .ok (.iconst 3, 1) := by decide +kernel
theorem dX0_holds_14 : decode cX0_holds 14 = .ok (.aload_n 0, 1) := by decide +kernel
theorem dX0_holds_15 : decode cX0_holds 15 = .ok (.getfield 11, 3) := by decide +kernel
theorem dX0_holds_18 : decode cX0_holds 18 = .ok (.iload_n 1, 1) := by decide +kernel
theorem dX0_holds_19 : decode cX0_holds 19 = .ok (.iaload, 1) := by decide +kernel
theorem dX0_holds_20 : decode cX0_holds 20 = .ok (.imul, 1) := by decide +kernel
theorem dX0_holds_21 : decode cX0_holds 21 = .ok (.iconst 2, 1) := by decide +kernel
theorem dX0_holds_22 : decode cX0_holds 22 = .ok (.iadd, 1) := by decide +kernel
theorem dX0_holds_23 : decode cX0_holds 23 = .ok (.iload_n 2, 1) := by decide +kernel
theorem dX0_holds_24 : decode cX0_holds 24 = .ok (.iadd, 1) := by decide +kernel
theorem dX0_holds_25 : decode cX0_holds 25 = .ok (.aload_n 0, 1) := by decide +kernel
theorem dX0_holds_26 : decode cX0_holds 26 = .ok (.getfield 43, 3) := by decide +kernel
theorem dX0_holds_29 : decode cX0_holds 29 = .ok (.bipush 10, 2) := by decide +kernel
theorem dX0_holds_31 : decode cX0_holds 31 = .ok (.idiv, 1) := by decide +kernel
theorem dX0_holds_32 : decode cX0_holds 32 = .ok (.iadd, 1) := by decide +kernel
theorem dX0_holds_33 : decode cX0_holds 33 = .ok (.ireturn, 1) := by decide +kernel
set_option maxRecDepth 20000 in
theorem ggX0_lacks_X0_isIn : GoodIn wsX0_lacks wsX0_isIn := goodIn_r _ [10, 11, 23, 24, 25, 26, 27, 28, 29, 30, 31, 32, 33, 34] (by decide +kernel) (by decide +kernel)
set_option maxRecDepth 20000 in
theorem gX0_lacks_X0_isIn : GoodIn wsX0_lacks (wsV RX0 57 RX0 yX0_isIn wsX0_isIn) := goodIn_app (goodIn_of _ (by decide +kernel)) ggX0_lacks_X0_isIn
set_option maxRecDepth 20000 in
theorem ggX0_lacks_X0_holds : GoodIn wsX0_lacks wsX0_holds := goodIn_r _ [15, 16, 17, 18, 19, 20, 9, 21, 22, 23, 24, 25, 26, 27, 28, 29, 30, 31, 32, 33, 34] (by decide +kernel) (by decide +kernel)
set_option maxRecDepth 20000 in
theorem gX0_lacks_X0_holds : GoodIn wsX0_lacks (wsV RX0 60 RX0 yX0_holds wsX0_holds) := goodIn_app (goodIn_of _ (by decide +kernel)) ggX0_lacks_X0_holds
theorem dX0_lacks_0 : decode cX0_lacks 0 = .ok (.aload_n 0, 1) := by decide +kernel
theorem dX0_lacks_1 : decode cX0_lacks 1 = .ok (.iload_n 1, 1) := by decide +kernel
theorem dX0_lacks_2 : decode cX0_lacks 2 = .ok (.invokevirtual 57, 3) := by decide +kernel
theorem dX0_lacks_5 : decode cX0_lacks 5 = .ok (.ifCond .eq 22, 3) := by decide +kernel
theorem dX0_lacks_8 : decode cX0_lacks 8 = .ok (.iconst 0, 1) := by decide +kernel
theorem dX0_lacks_9 : decode cX0_lacks 9 = .ok (.aload_n 0, 1) := by decide +kernel
theorem dX0_lacks_10 : decode cX0_lacks 10 = .ok (.iload_n 1, 1) := by decide +kernel
theorem dX0_lacks_11 : decode cX0_lacks 11 = .ok (.invokevirtual 60, 3) := by decide +kernel
theorem dX0_lacks_14 : decode cX0_lacks 14 = .ok (.aload_n 0, 1) := by decide +kernel
theorem dX0_lacks_15 : decode cX0_lacks 15 = .ok (.getfield 15, 3) := by decide +kernel
theorem dX0_lacks_18 : decode cX0_lacks 18 = .ok (.iload_n 1, 1) := by decide +kernel
theorem dX0_lacks_19 : decode cX0_lacks 19 = .ok (.iaload, 1) := by decide +kernel
theorem dX0_lacks_20 : decode cX0_lacks 20 = .ok (.isub, 1) := by decide +kernel
theorem dX0_lacks_21 : decode cX0_lacks 21 = .ok (.invokestatic 64, 3) := by decide +kernel
theorem dX0_lacks_24 : decode cX0_lacks 24 = .ok (.goto 4, 3) := by decide +kernel
theorem dX0_lacks_27 : decode cX0_lacks 27 = .ok (.iconst 0, 1) := by decide +kernel
theorem dX0_lacks_28 : decode cX0_lacks 28 = .ok (.ireturn, 1) := by decide +kernel
set_option maxRecDepth 20000 in
theorem ggX0_pool_X0_worth : GoodIn wsX0_pool wsX0_worth := goodIn_r _ [8, 9, 10, 11, 12, 13, 14, 15, 16, 17, 7, 18, 19, 20, 21, 22, 23, 24, 25, 26, 27, 28, 29, 30, 31] (by decide +kernel) (by decide +kernel)
set_option maxRecDepth 20000 in
theorem gX0_pool_X0_worth : GoodIn wsX0_pool (wsV RX0 70 RX0 yX0_worth wsX0_worth) := goodIn_app (goodIn_of _ (by decide +kernel)) ggX0_pool_X0_worth
theorem dX0_pool_0 : decode cX0_pool 0 = .ok (.iconst 0, 1) := by decide +kernel
theorem dX0_pool_1 : decode cX0_pool 1 = .ok (.istore_n 2, 1) := by decide +kernel
theorem dX0_pool_2 : decode cX0_pool 2 = .ok (.iconst 0, 1) := by decide +kernel
theorem dX0_pool_3 : decode cX0_pool 3 = .ok (.istore_n 3, 1) := by decide +kernel
theorem dX0_pool_4 : decode cX0_pool 4 = .ok (.iload_n 3, 1) := by decide +kernel
theorem dX0_pool_5 : decode cX0_pool 5 = .ok (.aload_n 0, 1) := by decide +kernel
theorem dX0_pool_6 : decode cX0_pool 6 = .ok (.getfield 40, 3) := by decide +kernel
theorem dX0_pool_9 : decode cX0_pool 9 = .ok (.if_icmp .ge 34, 3) := by decide +kernel
theorem dX0_pool_12 : decode cX0_pool 12 = .ok (.aload_n 0, 1) := by decide +kernel
theorem dX0_pool_13 : decode cX0_pool 13 = .ok (.getfield 30, 3) := by decide +kernel
theorem dX0_pool_16 : decode cX0_pool 16 = .ok (.iload_n 3, 1) := by decide +kernel
theorem dX0_pool_17 : decode cX0_pool 17 = .ok (.iaload, 1) := by decide +kernel
theorem dX0_pool_18 : decode cX0_pool 18 = .ok (.iload_n 1, 1) := by decide +kernel
theorem dX0_pool_19 : decode cX0_pool 19 = .ok (.if_icmp .ne 18, 3) := by decide +kernel
theorem dX0_pool_22 : decode cX0_pool 22 = .ok (.iload_n 2, 1) := by decide +kernel
theorem dX0_pool_23 : decode cX0_pool 23 = .ok (.aload_n 0, 1) := by decide +kernel
theorem dX0_pool_24 : decode cX0_pool 24 = .ok (.getfield 27, 3) := by decide +kernel
theorem dX0_pool_27 : decode cX0_pool 27 = .ok (.iload_n 3, 1) := by decide +kernel
theorem dX0_pool_28 : decode cX0_pool 28 = .ok (.iaload, 1) := by decide +kernel
theorem dX0_pool_29 : decode cX0_pool 29 = .ok (.aload_n 0, 1) := by decide +kernel
theorem dX0_pool_30 : decode cX0_pool 30 = .ok (.iload_n 3, 1) := by decide +kernel
theorem dX0_pool_31 : decode cX0_pool 31 = .ok (.invokevirtual 70, 3) := by decide +kernel
theorem dX0_pool_34 : decode cX0_pool 34 = .ok (.imul, 1) := by decide +kernel
theorem dX0_pool_35 : decode cX0_pool 35 = .ok (.iadd, 1) := by decide +kernel
theorem dX0_pool_36 : decode cX0_pool 36 = .ok (.istore_n 2, 1) := by decide +kernel
theorem dX0_pool_37 : decode cX0_pool 37 = .ok (.iinc 3 1, 3) := by decide +kernel
theorem dX0_pool_40 : decode cX0_pool 40 = .ok (.goto (-36), 3) := by decide +kernel
theorem dX0_pool_43 : decode cX0_pool 43 = .ok (.iload_n 2, 1) := by decide +kernel
theorem dX0_pool_44 : decode cX0_pool 44 = .ok (.ireturn, 1) := by decide +kernel
theorem dX0_crew_0 : decode cX0_crew 0 = .ok (.iconst 0, 1) := by decide +kernel
theorem dX0_crew_1 : decode cX0_crew 1 = .ok (.istore_n 2, 1) := by decide +kernel
theorem dX0_crew_2 : decode cX0_crew 2 = .ok (.iconst 0, 1) := by decide +kernel
theorem dX0_crew_3 : decode cX0_crew 3 = .ok (.istore_n 3, 1) := by decide +kernel
theorem dX0_crew_4 : decode cX0_crew 4 = .ok (.iload_n 3, 1) := by decide +kernel
theorem dX0_crew_5 : decode cX0_crew 5 = .ok (.aload_n 0, 1) := by decide +kernel
theorem dX0_crew_6 : decode cX0_crew 6 = .ok (.getfield 40, 3) := by decide +kernel
theorem dX0_crew_9 : decode cX0_crew 9 = .ok (.if_icmp .ge 25, 3) := by decide +kernel
theorem dX0_crew_12 : decode cX0_crew 12 = .ok (.aload_n 0, 1) := by decide +kernel
theorem dX0_crew_13 : decode cX0_crew 13 = .ok (.getfield 30, 3) := by decide +kernel
theorem dX0_crew_16 : decode cX0_crew 16 = .ok (.iload_n 3, 1) := by decide +kernel
theorem dX0_crew_17 : decode cX0_crew 17 = .ok (.iaload, 1) := by decide +kernel
theorem dX0_crew_18 : decode cX0_crew 18 = .ok (.iload_n 1, 1) := by decide +kernel
theorem dX0_crew_19 : decode cX0_crew 19 = .ok (.if_icmp .ne 9, 3) := by decide +kernel
theorem dX0_crew_22 : decode cX0_crew 22 = .ok (.iload_n 2, 1) := by decide +kernel
theorem dX0_crew_23 : decode cX0_crew 23 = .ok (.iconst 1, 1) := by decide +kernel
theorem dX0_crew_24 : decode cX0_crew 24 = .ok (.iload_n 3, 1) := by decide +kernel
theorem dX0_crew_25 : decode cX0_crew 25 = .ok (.ishl, 1) := by decide +kernel
theorem dX0_crew_26 : decode cX0_crew 26 = .ok (.ior, 1) := by decide +kernel
theorem dX0_crew_27 : decode cX0_crew 27 = .ok (.istore_n 2, 1) := by decide +kernel
theorem dX0_crew_28 : decode cX0_crew 28 = .ok (.iinc 3 1, 3) := by decide +kernel
theorem dX0_crew_31 : decode cX0_crew 31 = .ok (.goto (-27), 3) := by decide +kernel
theorem dX0_crew_34 : decode cX0_crew 34 = .ok (.iload_n 2, 1) := by decide +kernel
theorem dX0_crew_35 : decode cX0_crew 35 = .ok (.ireturn, 1) := by decide +kernel
theorem dX0_sinsAboard_0 : decode cX0_sinsAboard 0 = .ok (.iconst 0, 1) := by decide +kernel
theorem dX0_sinsAboard_1 : decode cX0_sinsAboard 1 = .ok (.istore_n 2, 1) := by decide +kernel
theorem dX0_sinsAboard_2 : decode cX0_sinsAboard 2 = .ok (.iconst 0, 1) := by decide +kernel
theorem dX0_sinsAboard_3 : decode cX0_sinsAboard 3 = .ok (.istore_n 3, 1) := by decide +kernel
theorem dX0_sinsAboard_4 : decode cX0_sinsAboard 4 = .ok (.iload_n 3, 1) := by decide +kernel
theorem dX0_sinsAboard_5 : decode cX0_sinsAboard 5 = .ok (.aload_n 0, 1) := by decide +kernel
theorem dX0_sinsAboard_6 : decode cX0_sinsAboard 6 = .ok (.getfield 40, 3) := by decide +kernel
theorem dX0_sinsAboard_9 : decode cX0_sinsAboard 9 = .ok (.if_icmp .ge 28, 3) := by decide +kernel
theorem dX0_sinsAboard_12 : decode cX0_sinsAboard 12 = .ok (.aload_n 0, 1) := by decide +kernel
theorem dX0_sinsAboard_13 : decode cX0_sinsAboard 13 = .ok (.getfield 30, 3) := by decide +kernel
theorem dX0_sinsAboard_16 : decode cX0_sinsAboard 16 = .ok (.iload_n 3, 1) := by decide +kernel
theorem dX0_sinsAboard_17 : decode cX0_sinsAboard 17 = .ok (.iaload, 1) := by decide +kernel
theorem dX0_sinsAboard_18 : decode cX0_sinsAboard 18 = .ok (.iload_n 1, 1) := by decide +kernel
theorem dX0_sinsAboard_19 : decode cX0_sinsAboard 19 = .ok (.if_icmp .ne 12, 3) := by decide +kernel
theorem dX0_sinsAboard_22 : decode cX0_sinsAboard 22 = .ok (.iload_n 2, 1) := by decide +kernel
theorem dX0_sinsAboard_23 : decode cX0_sinsAboard 23 = .ok (.aload_n 0, 1) := by decide +kernel
theorem dX0_sinsAboard_24 : decode cX0_sinsAboard 24 = .ok (.getfield 27, 3) := by decide +kernel
theorem dX0_sinsAboard_27 : decode cX0_sinsAboard 27 = .ok (.iload_n 3, 1) := by decide +kernel
theorem dX0_sinsAboard_28 : decode cX0_sinsAboard 28 = .ok (.iaload, 1) := by decide +kernel
theorem dX0_sinsAboard_29 : decode cX0_sinsAboard 29 = .ok (.iadd, 1) := by decide +kernel
theorem dX0_sinsAboard_30 : decode cX0_sinsAboard 30 = .ok (.istore_n 2, 1) := by decide +kernel
theorem dX0_sinsAboard_31 : decode cX0_sinsAboard 31 = .ok (.iinc 3 1, 3) := by decide +kernel
theorem dX0_sinsAboard_34 : decode cX0_sinsAboard 34 = .ok (.goto (-30), 3) := by decide +kernel
theorem dX0_sinsAboard_37 : decode cX0_sinsAboard 37 = .ok (.iload_n 2, 1) := by decide +kernel
theorem dX0_sinsAboard_38 : decode cX0_sinsAboard 38 = .ok (.ireturn, 1) := by decide +kernel
theorem dX0_allSins_0 : decode cX0_allSins 0 = .ok (.iconst 0, 1) := by decide +kernel
theorem dX0_allSins_1 : decode cX0_allSins 1 = .ok (.istore_n 1, 1) := by decide +kernel
theorem dX0_allSins_2 : decode cX0_allSins 2 = .ok (.iconst 0, 1) := by decide +kernel
theorem dX0_allSins_3 : decode cX0_allSins 3 = .ok (.istore_n 2, 1) := by decide +kernel
theorem dX0_allSins_4 : decode cX0_allSins 4 = .ok (.iload_n 2, 1) := by decide +kernel
theorem dX0_allSins_5 : decode cX0_allSins 5 = .ok (.aload_n 0, 1) := by decide +kernel
theorem dX0_allSins_6 : decode cX0_allSins 6 = .ok (.getfield 40, 3) := by decide +kernel
theorem dX0_allSins_9 : decode cX0_allSins 9 = .ok (.if_icmp .ge 18, 3) := by decide +kernel
theorem dX0_allSins_12 : decode cX0_allSins 12 = .ok (.iload_n 1, 1) := by decide +kernel
theorem dX0_allSins_13 : decode cX0_allSins 13 = .ok (.aload_n 0, 1) := by decide +kernel
theorem dX0_allSins_14 : decode cX0_allSins 14 = .ok (.getfield 27, 3) := by decide +kernel
theorem dX0_allSins_17 : decode cX0_allSins 17 = .ok (.iload_n 2, 1) := by decide +kernel
theorem dX0_allSins_18 : decode cX0_allSins 18 = .ok (.iaload, 1) := by decide +kernel
theorem dX0_allSins_19 : decode cX0_allSins 19 = .ok (.iadd, 1) := by decide +kernel
theorem dX0_allSins_20 : decode cX0_allSins 20 = .ok (.istore_n 1, 1) := by decide +kernel
theorem dX0_allSins_21 : decode cX0_allSins 21 = .ok (.iinc 2 1, 3) := by decide +kernel
theorem dX0_allSins_24 : decode cX0_allSins 24 = .ok (.goto (-20), 3) := by decide +kernel
theorem dX0_allSins_27 : decode cX0_allSins 27 = .ok (.iload_n 1, 1) := by decide +kernel
theorem dX0_allSins_28 : decode cX0_allSins 28 = .ok (.ireturn, 1) := by decide +kernel
set_option maxRecDepth 20000 in
theorem ggX0_outBits_X0_isIn : GoodIn wsX0_outBits wsX0_isIn := goodIn_r _ [6, 7, 8, 9, 10, 11, 12, 13, 14, 15, 16, 17, 18, 19] (by decide +kernel) (by decide +kernel)
set_option maxRecDepth 20000 in
theorem gX0_outBits_X0_isIn : GoodIn wsX0_outBits (wsV RX0 57 RX0 yX0_isIn wsX0_isIn) := goodIn_app (goodIn_of _ (by decide +kernel)) ggX0_outBits_X0_isIn
theorem dX0_outBits_0 : decode cX0_outBits 0 = .ok (.iconst 0, 1) := by decide +kernel
theorem dX0_outBits_1 : decode cX0_outBits 1 = .ok (.istore_n 1, 1) := by decide +kernel
theorem dX0_outBits_2 : decode cX0_outBits 2 = .ok (.iconst 0, 1) := by decide +kernel
theorem dX0_outBits_3 : decode cX0_outBits 3 = .ok (.istore_n 2, 1) := by decide +kernel
theorem dX0_outBits_4 : decode cX0_outBits 4 = .ok (.iload_n 2, 1) := by decide +kernel
theorem dX0_outBits_5 : decode cX0_outBits 5 = .ok (.aload_n 0, 1) := by decide +kernel
theorem dX0_outBits_6 : decode cX0_outBits 6 = .ok (.getfield 36, 3) := by decide +kernel
theorem dX0_outBits_9 : decode cX0_outBits 9 = .ok (.if_icmp .ge 23, 3) := by decide +kernel
theorem dX0_outBits_12 : decode cX0_outBits 12 = .ok (.aload_n 0, 1) := by decide +kernel
theorem dX0_outBits_13 : decode cX0_outBits 13 = .ok (.iload_n 2, 1) := by decide +kernel
theorem dX0_outBits_14 : decode cX0_outBits 14 = .ok (.invokevirtual 57, 3) := by decide +kernel
theorem dX0_outBits_17 : decode cX0_outBits 17 = .ok (.ifCond .ne 9, 3) := by decide +kernel
theorem dX0_outBits_20 : decode cX0_outBits 20 = .ok (.iload_n 1, 1) := by decide +kernel
theorem dX0_outBits_21 : decode cX0_outBits 21 = .ok (.iconst 1, 1) := by decide +kernel
theorem dX0_outBits_22 : decode cX0_outBits 22 = .ok (.iload_n 2, 1) := by decide +kernel
theorem dX0_outBits_23 : decode cX0_outBits 23 = .ok (.ishl, 1) := by decide +kernel
theorem dX0_outBits_24 : decode cX0_outBits 24 = .ok (.ior, 1) := by decide +kernel
theorem dX0_outBits_25 : decode cX0_outBits 25 = .ok (.istore_n 1, 1) := by decide +kernel
theorem dX0_outBits_26 : decode cX0_outBits 26 = .ok (.iinc 2 1, 3) := by decide +kernel
theorem dX0_outBits_29 : decode cX0_outBits 29 = .ok (.goto (-25), 3) := by decide +kernel
theorem dX0_outBits_32 : decode cX0_outBits 32 = .ok (.iload_n 1, 1) := by decide +kernel
theorem dX0_outBits_33 : decode cX0_outBits 33 = .ok (.ireturn, 1) := by decide +kernel
set_option maxRecDepth 20000 in
theorem ggX0_canRise_X0_isIn : GoodIn wsX0_canRise wsX0_isIn := goodIn_r _ [5, 6, 40, 41, 42, 43, 44, 45, 46, 47, 48, 49, 50, 51] (by decide +kernel) (by decide +kernel)
set_option maxRecDepth 20000 in
theorem gX0_canRise_X0_isIn : GoodIn wsX0_canRise (wsV RX0 57 RX0 yX0_isIn wsX0_isIn) := goodIn_app (goodIn_of _ (by decide +kernel)) ggX0_canRise_X0_isIn
set_option maxRecDepth 20000 in
theorem ggX0_canRise_X0_pool : GoodIn wsX0_canRise wsX0_pool := goodIn_r _ [10, 11, 12, 13, 14, 15, 16, 4, 17, 18, 19, 20, 21, 22, 23, 24, 25, 26, 27, 28, 40, 41, 42, 43, 44, 45, 46, 47, 48, 49, 50, 51] (by decide +kernel) (by decide +kernel)
set_option maxRecDepth 20000 in
theorem gX0_canRise_X0_pool : GoodIn wsX0_canRise (wsV RX0 73 RX0 yX0_pool wsX0_pool) := goodIn_app (goodIn_of _ (by decide +kernel)) ggX0_canRise_X0_pool
set_option maxRecDepth 20000 in
theorem ggX0_canRise_X0_lacks : GoodIn wsX0_canRise wsX0_lacks := goodIn_r _ [32, 33, 20, 21, 22, 23, 1, 2, 3, 4, 5, 6, 34, 35, 36, 37, 38, 39, 24, 25, 26, 27, 28, 40, 41, 42, 43, 44, 45, 46, 47, 48, 49, 50, 51] (by decide +kernel) (by decide +kernel)
set_option maxRecDepth 20000 in
theorem gX0_canRise_X0_lacks : GoodIn wsX0_canRise (wsV RX0 76 RX0 yX0_lacks wsX0_lacks) := goodIn_app (goodIn_of _ (by decide +kernel)) ggX0_canRise_X0_lacks
theorem dX0_canRise_0 : decode cX0_canRise 0 = .ok (.aload_n 0, 1) := by decide +kernel
theorem dX0_canRise_1 : decode cX0_canRise 1 = .ok (.iload_n 1, 1) := by decide +kernel
theorem dX0_canRise_2 : decode cX0_canRise 2 = .ok (.invokevirtual 57, 3) := by decide +kernel
theorem dX0_canRise_5 : decode cX0_canRise 5 = .ok (.ifCond .eq 20, 3) := by decide +kernel
theorem dX0_canRise_8 : decode cX0_canRise 8 = .ok (.aload_n 0, 1) := by decide +kernel
theorem dX0_canRise_9 : decode cX0_canRise 9 = .ok (.iload_n 1, 1) := by decide +kernel
theorem dX0_canRise_10 : decode cX0_canRise 10 = .ok (.invokevirtual 73, 3) := by decide +kernel
theorem dX0_canRise_13 : decode cX0_canRise 13 = .ok (.aload_n 0, 1) := by decide +kernel
theorem dX0_canRise_14 : decode cX0_canRise 14 = .ok (.iload_n 1, 1) := by decide +kernel
theorem dX0_canRise_15 : decode cX0_canRise 15 = .ok (.invokevirtual 76, 3) := by decide +kernel
theorem dX0_canRise_18 : decode cX0_canRise 18 = .ok (.if_icmp .lt 7, 3) := by decide +kernel
theorem dX0_canRise_21 : decode cX0_canRise 21 = .ok (.iconst 1, 1) := by decide +kernel
theorem dX0_canRise_22 : decode cX0_canRise 22 = .ok (.goto 4, 3) := by decide +kernel
theorem dX0_canRise_25 : decode cX0_canRise 25 = .ok (.iconst 0, 1) := by decide +kernel
theorem dX0_canRise_26 : decode cX0_canRise 26 = .ok (.ireturn, 1) := by decide +kernel
set_option maxRecDepth 20000 in
theorem ggX0_countRisable_X0_canRise : GoodIn wsX0_countRisable wsX0_canRise := goodIn_r _ [6, 7, 8, 9, 5, 10, 11, 12, 13, 14, 15, 16, 17, 18, 19, 20, 21, 22, 23, 24, 25, 26, 27, 28, 29, 30, 31, 32, 33, 34, 35, 36, 37, 38, 39, 40, 41, 42, 43, 44, 45, 46, 47, 48, 49, 50, 51, 52, 53, 54, 55, 56] (by decide +kernel) (by decide +kernel)
set_option maxRecDepth 20000 in
theorem gX0_countRisable_X0_canRise : GoodIn wsX0_countRisable (wsV RX0 79 RX0 yX0_canRise wsX0_canRise) := goodIn_app (goodIn_of _ (by decide +kernel)) ggX0_countRisable_X0_canRise
theorem dX0_countRisable_0 : decode cX0_countRisable 0 = .ok (.iconst 0, 1) := by decide +kernel
theorem dX0_countRisable_1 : decode cX0_countRisable 1 = .ok (.istore_n 1, 1) := by decide +kernel
theorem dX0_countRisable_2 : decode cX0_countRisable 2 = .ok (.iconst 0, 1) := by decide +kernel
theorem dX0_countRisable_3 : decode cX0_countRisable 3 = .ok (.istore_n 2, 1) := by decide +kernel
theorem dX0_countRisable_4 : decode cX0_countRisable 4 = .ok (.iload_n 2, 1) := by decide +kernel
theorem dX0_countRisable_5 : decode cX0_countRisable 5 = .ok (.aload_n 0, 1) := by decide +kernel
theorem dX0_countRisable_6 : decode cX0_countRisable 6 = .ok (.getfield 36, 3) := by decide +kernel
theorem dX0_countRisable_9 : decode cX0_countRisable 9 = .ok (.if_icmp .ge 20, 3) := by decide +kernel
theorem dX0_countRisable_12 : decode cX0_countRisable 12 = .ok (.aload_n 0, 1) := by decide +kernel
theorem dX0_countRisable_13 : decode cX0_countRisable 13 = .ok (.iload_n 2, 1) := by decide +kernel
theorem dX0_countRisable_14 : decode cX0_countRisable 14 = .ok (.invokevirtual 79, 3) := by decide +kernel
theorem dX0_countRisable_17 : decode cX0_countRisable 17 = .ok (.ifCond .eq 6, 3) := by decide +kernel
theorem dX0_countRisable_20 : decode cX0_countRisable 20 = .ok (.iinc 1 1, 3) := by decide +kernel
theorem dX0_countRisable_23 : decode cX0_countRisable 23 = .ok (.iinc 2 1, 3) := by decide +kernel
theorem dX0_countRisable_26 : decode cX0_countRisable 26 = .ok (.goto (-22), 3) := by decide +kernel
theorem dX0_countRisable_29 : decode cX0_countRisable 29 = .ok (.iload_n 1, 1) := by decide +kernel
theorem dX0_countRisable_30 : decode cX0_countRisable 30 = .ok (.ireturn, 1) := by decide +kernel
set_option maxRecDepth 20000 in
theorem ggX0_worth_X0_isEbb : GoodIn wsX0_worth wsX0_isEbb := goodIn_r _ [11, 12, 13, 14, 15, 16, 17, 18, 19, 20, 21, 22, 23, 24] (by decide +kernel) (by decide +kernel)
set_option maxRecDepth 20000 in
theorem gX0_worth_X0_isEbb : GoodIn wsX0_worth (wsV RX0 53 RX0 yX0_isEbb wsX0_isEbb) := goodIn_app (goodIn_of _ (by decide +kernel)) ggX0_worth_X0_isEbb
theorem dX0_worth_0 : decode cX0_worth 0 = .ok (.aload_n 0, 1) := by decide +kernel
theorem dX0_worth_1 : decode cX0_worth 1 = .ok (.getfield 24, 3) := by decide +kernel
theorem dX0_worth_4 : decode cX0_worth 4 = .ok (.iload_n 1, 1) := by decide +kernel
theorem dX0_worth_5 : decode cX0_worth 5 = .ok (.iaload, 1) := by decide +kernel
theorem dX0_worth_6 : decode cX0_worth 6 = .ok (.iconst 1, 1) := by decide +kernel
theorem dX0_worth_7 : decode cX0_worth 7 = .ok (.iadd, 1) := by decide +kernel
theorem dX0_worth_8 : decode cX0_worth 8 = .ok (.istore_n 2, 1) := by decide +kernel
theorem dX0_worth_9 : decode cX0_worth 9 = .ok (.aload_n 0, 1) := by decide +kernel
theorem dX0_worth_10 : decode cX0_worth 10 = .ok (.invokevirtual 53, 3) := by decide +kernel
theorem dX0_worth_13 : decode cX0_worth 13 = .ok (.ifCond .eq 9, 3) := by decide +kernel
theorem dX0_worth_16 : decode cX0_worth 16 = .ok (.iconst 2, 1) := by decide +kernel
theorem dX0_worth_17 : decode cX0_worth 17 = .ok (.iload_n 2, 1) := by decide +kernel
theorem dX0_worth_18 : decode cX0_worth 18 = .ok (.imul, 1) := by decide +kernel
theorem dX0_worth_19 : decode cX0_worth 19 = .ok (.goto 4, 3) := by decide +kernel
theorem dX0_worth_22 : decode cX0_worth 22 = .ok (.iload_n 2, 1) := by decide +kernel
theorem dX0_worth_23 : decode cX0_worth 23 = .ok (.istore_n 3, 1) := by decide +kernel
theorem dX0_worth_24 : decode cX0_worth 24 = .ok (.aload_n 0, 1) := by decide +kernel
theorem dX0_worth_25 : decode cX0_worth 25 = .ok (.getfield 21, 3) := by decide +kernel
theorem dX0_worth_28 : decode cX0_worth 28 = .ok (.iload_n 1, 1) := by decide +kernel
theorem dX0_worth_29 : decode cX0_worth 29 = .ok (.iaload, 1) := by decide +kernel
theorem dX0_worth_30 : decode cX0_worth 30 = .ok (.tableswitch 50 0 4 #[34, 50, 36, 38, 46], 34) := by decide +kernel
theorem dX0_worth_64 : decode cX0_worth 64 = .ok (.iload_n 2, 1) := by decide +kernel
theorem dX0_worth_65 : decode cX0_worth 65 = .ok (.ireturn, 1) := by decide +kernel
theorem dX0_worth_66 : decode cX0_worth 66 = .ok (.iload_n 3, 1) := by decide +kernel
theorem dX0_worth_67 : decode cX0_worth 67 = .ok (.ireturn, 1) := by decide +kernel
theorem dX0_worth_68 : decode cX0_worth 68 = .ok (.iconst 1, 1) := by decide +kernel
theorem dX0_worth_69 : decode cX0_worth 69 = .ok (.iload_n 2, 1) := by decide +kernel
theorem dX0_worth_70 : decode cX0_worth 70 = .ok (.iconst 2, 1) := by decide +kernel
theorem dX0_worth_71 : decode cX0_worth 71 = .ok (.idiv, 1) := by decide +kernel
theorem dX0_worth_72 : decode cX0_worth 72 = .ok (.invokestatic 64, 3) := by decide +kernel
theorem dX0_worth_75 : decode cX0_worth 75 = .ok (.ireturn, 1) := by decide +kernel
theorem dX0_worth_76 : decode cX0_worth 76 = .ok (.iload_n 3, 1) := by decide +kernel
theorem dX0_worth_77 : decode cX0_worth 77 = .ok (.iconst 3, 1) := by decide +kernel
theorem dX0_worth_78 : decode cX0_worth 78 = .ok (.iadd, 1) := by decide +kernel
theorem dX0_worth_79 : decode cX0_worth 79 = .ok (.ireturn, 1) := by decide +kernel
theorem dX0_worth_80 : decode cX0_worth 80 = .ok (.iconst 0, 1) := by decide +kernel
theorem dX0_worth_81 : decode cX0_worth 81 = .ok (.ireturn, 1) := by decide +kernel
set_option maxRecDepth 20000 in
theorem ggX0_carried_X0_worth : GoodIn wsX0_carried wsX0_worth := goodIn_r _ [6, 7, 1, 8, 9, 10, 11, 12, 13, 14, 5, 15, 16, 17, 18, 19, 20, 21, 22, 23, 24, 25, 26, 27, 28] (by decide +kernel) (by decide +kernel)
set_option maxRecDepth 20000 in
theorem gX0_carried_X0_worth : GoodIn wsX0_carried (wsV RX0 70 RX0 yX0_worth wsX0_worth) := goodIn_app (goodIn_of _ (by decide +kernel)) ggX0_carried_X0_worth
theorem dX0_carried_0 : decode cX0_carried 0 = .ok (.aload_n 0, 1) := by decide +kernel
theorem dX0_carried_1 : decode cX0_carried 1 = .ok (.getfield 21, 3) := by decide +kernel
theorem dX0_carried_4 : decode cX0_carried 4 = .ok (.iload_n 1, 1) := by decide +kernel
theorem dX0_carried_5 : decode cX0_carried 5 = .ok (.iaload, 1) := by decide +kernel
theorem dX0_carried_6 : decode cX0_carried 6 = .ok (.lookupswitch 36 #[(4, 26), (5, 34)], 26) := by decide +kernel
theorem dX0_carried_32 : decode cX0_carried 32 = .ok (.aload_n 0, 1) := by decide +kernel
theorem dX0_carried_33 : decode cX0_carried 33 = .ok (.iload_n 1, 1) := by decide +kernel
theorem dX0_carried_34 : decode cX0_carried 34 = .ok (.invokevirtual 70, 3) := by decide +kernel
theorem dX0_carried_37 : decode cX0_carried 37 = .ok (.iconst 3, 1) := by decide +kernel
theorem dX0_carried_38 : decode cX0_carried 38 = .ok (.idiv, 1) := by decide +kernel
theorem dX0_carried_39 : decode cX0_carried 39 = .ok (.ireturn, 1) := by decide +kernel
theorem dX0_carried_40 : decode cX0_carried 40 = .ok (.iconst 1, 1) := by decide +kernel
theorem dX0_carried_41 : decode cX0_carried 41 = .ok (.ireturn, 1) := by decide +kernel
theorem dX0_carried_42 : decode cX0_carried 42 = .ok (.iconst 0, 1) := by decide +kernel
theorem dX0_carried_43 : decode cX0_carried 43 = .ok (.ireturn, 1) := by decide +kernel
theorem dX0_sinsMore_0 : decode cX0_sinsMore 0 = .ok (.aload_n 0, 1) := by decide +kernel
theorem dX0_sinsMore_1 : decode cX0_sinsMore 1 = .ok (.getfield 21, 3) := by decide +kernel
theorem dX0_sinsMore_4 : decode cX0_sinsMore 4 = .ok (.iload_n 1, 1) := by decide +kernel
theorem dX0_sinsMore_5 : decode cX0_sinsMore 5 = .ok (.iaload, 1) := by decide +kernel
theorem dX0_sinsMore_6 : decode cX0_sinsMore 6 = .ok (.tableswitch 40 1 5 #[34, 40, 38, 40, 36], 34) := by decide +kernel
theorem dX0_sinsMore_40 : decode cX0_sinsMore 40 = .ok (.iconst 0, 1) := by decide +kernel
theorem dX0_sinsMore_41 : decode cX0_sinsMore 41 = .ok (.ireturn, 1) := by decide +kernel
theorem dX0_sinsMore_42 : decode cX0_sinsMore 42 = .ok (.iconst 0, 1) := by decide +kernel
theorem dX0_sinsMore_43 : decode cX0_sinsMore 43 = .ok (.ireturn, 1) := by decide +kernel
theorem dX0_sinsMore_44 : decode cX0_sinsMore 44 = .ok (.iconst 2, 1) := by decide +kernel
theorem dX0_sinsMore_45 : decode cX0_sinsMore 45 = .ok (.ireturn, 1) := by decide +kernel
theorem dX0_sinsMore_46 : decode cX0_sinsMore 46 = .ok (.iconst 1, 1) := by decide +kernel
theorem dX0_sinsMore_47 : decode cX0_sinsMore 47 = .ok (.ireturn, 1) := by decide +kernel
set_option maxRecDepth 20000 in
theorem ggX0_canTell_X0_hasMan : GoodIn wsX0_canTell wsX0_hasMan := goodIn_r _ [7, 8, 14, 15, 16, 17, 18, 19, 20, 21, 22, 23, 24, 25] (by decide +kernel) (by decide +kernel)
set_option maxRecDepth 20000 in
theorem gX0_canTell_X0_hasMan : GoodIn wsX0_canTell (wsV RX0 82 RX0 yX0_hasMan wsX0_hasMan) := goodIn_app (goodIn_of _ (by decide +kernel)) ggX0_canTell_X0_hasMan
set_option maxRecDepth 20000 in
theorem ggX0_canTell_X0_isIn : GoodIn wsX0_canTell wsX0_isIn := goodIn_r _ [12, 13, 14, 15, 16, 17, 18, 19, 20, 21, 22, 23, 24, 25] (by decide +kernel) (by decide +kernel)
set_option maxRecDepth 20000 in
theorem gX0_canTell_X0_isIn : GoodIn wsX0_canTell (wsV RX0 57 RX0 yX0_isIn wsX0_isIn) := goodIn_app (goodIn_of _ (by decide +kernel)) ggX0_canTell_X0_isIn
theorem dX0_canTell_0 : decode cX0_canTell 0 = .ok (.aload_n 0, 1) := by decide +kernel
theorem dX0_canTell_1 : decode cX0_canTell 1 = .ok (.iload_n 1, 1) := by decide +kernel
theorem dX0_canTell_2 : decode cX0_canTell 2 = .ok (.invokevirtual 82, 3) := by decide +kernel
theorem dX0_canTell_5 : decode cX0_canTell 5 = .ok (.ifCond .eq 29, 3) := by decide +kernel
theorem dX0_canTell_8 : decode cX0_canTell 8 = .ok (.aload_n 0, 1) := by decide +kernel
theorem dX0_canTell_9 : decode cX0_canTell 9 = .ok (.getfield 27, 3) := by decide +kernel
theorem dX0_canTell_12 : decode cX0_canTell 12 = .ok (.iload_n 1, 1) := by decide +kernel
theorem dX0_canTell_13 : decode cX0_canTell 13 = .ok (.iaload, 1) := by decide +kernel
theorem dX0_canTell_14 : decode cX0_canTell 14 = .ok (.ifCond .le 20, 3) := by decide +kernel
theorem dX0_canTell_17 : decode cX0_canTell 17 = .ok (.aload_n 0, 1) := by decide +kernel
theorem dX0_canTell_18 : decode cX0_canTell 18 = .ok (.aload_n 0, 1) := by decide +kernel
theorem dX0_canTell_19 : decode cX0_canTell 19 = .ok (.getfield 30, 3) := by decide +kernel
theorem dX0_canTell_22 : decode cX0_canTell 22 = .ok (.iload_n 1, 1) := by decide +kernel
theorem dX0_canTell_23 : decode cX0_canTell 23 = .ok (.iaload, 1) := by decide +kernel
theorem dX0_canTell_24 : decode cX0_canTell 24 = .ok (.invokevirtual 57, 3) := by decide +kernel
theorem dX0_canTell_27 : decode cX0_canTell 27 = .ok (.ifCond .eq 7, 3) := by decide +kernel
theorem dX0_canTell_30 : decode cX0_canTell 30 = .ok (.iconst 1, 1) := by decide +kernel
theorem dX0_canTell_31 : decode cX0_canTell 31 = .ok (.goto 4, 3) := by decide +kernel
theorem dX0_canTell_34 : decode cX0_canTell 34 = .ok (.iconst 0, 1) := by decide +kernel
theorem dX0_canTell_35 : decode cX0_canTell 35 = .ok (.ireturn, 1) := by decide +kernel
set_option maxRecDepth 20000 in
theorem ggX0_word_X0_canTell : GoodIn wsX0_word wsX0_canTell := goodIn_r _ [13, 1, 8, 14, 15, 16, 12, 17, 18, 19, 20, 21, 22, 23, 56, 57, 58, 59, 60, 61, 62, 63, 64, 65, 66, 67] (by decide +kernel) (by decide +kernel)
set_option maxRecDepth 20000 in
theorem gX0_word_X0_canTell : GoodIn wsX0_word (wsV RX0 85 RX0 yX0_canTell wsX0_canTell) := goodIn_app (goodIn_of _ (by decide +kernel)) ggX0_word_X0_canTell
set_option maxRecDepth 20000 in
theorem ggX0_word_X0_worth : GoodIn wsX0_word wsX0_worth := goodIn_r _ [27, 28, 29, 30, 31, 5, 32, 33, 34, 35, 12, 36, 37, 56, 57, 58, 59, 60, 61, 62, 63, 64, 65, 66, 67] (by decide +kernel) (by decide +kernel)
set_option maxRecDepth 20000 in
theorem gX0_word_X0_worth : GoodIn wsX0_word (wsV RX0 70 RX0 yX0_worth wsX0_worth) := goodIn_app (goodIn_of _ (by decide +kernel)) ggX0_word_X0_worth
set_option maxRecDepth 20000 in
theorem ggX0_word_X0_carried : GoodIn wsX0_word wsX0_carried := goodIn_r _ [41, 29, 24, 25, 26, 12, 27, 28, 30, 31, 5, 32, 33, 34, 35, 36, 37, 56, 57, 58, 59, 60, 61, 62, 63, 64, 65, 66, 67] (by decide +kernel) (by decide +kernel)
set_option maxRecDepth 20000 in
theorem gX0_word_X0_carried : GoodIn wsX0_word (wsV RX0 88 RX0 yX0_carried wsX0_carried) := goodIn_app (goodIn_of _ (by decide +kernel)) ggX0_word_X0_carried
set_option maxRecDepth 20000 in
theorem ggX0_word_X0_loosen : GoodIn wsX0_word wsX0_loosen := goodIn_r _ [45, 46, 3, 4, 5, 6, 19, 20, 21, 12, 22, 23, 56, 57, 58, 59, 60, 61, 62, 63, 64, 65, 66, 67] (by decide +kernel) (by decide +kernel)
set_option maxRecDepth 20000 in
theorem gX0_word_X0_loosen : GoodIn wsX0_word (wsV RX0 94 RX0 yX0_loosen wsX0_loosen) := goodIn_app (goodIn_of _ (by decide +kernel)) ggX0_word_X0_loosen
set_option maxRecDepth 20000 in
theorem ggX0_word_X0_riseAll : GoodIn wsX0_word wsX0_riseAll := goodIn_r _ [50, 7, 46, 23, 19, 20, 21, 12, 22, 51, 52, 53, 54, 55, 2, 33, 34, 35, 36, 37, 56, 57, 58, 59, 60, 61, 62, 63, 64, 65, 66, 67] (by decide +kernel) (by decide +kernel)
set_option maxRecDepth 20000 in
theorem gX0_word_X0_riseAll : GoodIn wsX0_word (wsV RX0 98 RX0 yX0_riseAll wsX0_riseAll) := goodIn_app (goodIn_of _ (by decide +kernel)) ggX0_word_X0_riseAll
theorem dX0_word_0 : decode cX0_word 0 = .ok (.aload_n 0, 1) := by decide +kernel
theorem dX0_word_1 : decode cX0_word 1 = .ok (.iload_n 1, 1) := by decide +kernel
theorem dX0_word_2 : decode cX0_word 2 = .ok (.invokevirtual 85, 3) := by decide +kernel
theorem dX0_word_5 : decode cX0_word 5 = .ok (.ifCond .ne 5, 3) := by decide +kernel
theorem dX0_word_8 : decode cX0_word 8 = .ok (.iconst 0, 1) := by decide +kernel
theorem dX0_word_9 : decode cX0_word 9 = .ok (.ireturn, 1) := by decide +kernel
theorem dX0_word_10 : decode cX0_word 10 = .ok (.aload_n 0, 1) := by decide +kernel
theorem dX0_word_11 : decode cX0_word 11 = .ok (.iload_n 1, 1) := by decide +kernel
theorem dX0_word_12 : decode cX0_word 12 = .ok (.invokevirtual 70, 3) := by decide +kernel
theorem dX0_word_15 : decode cX0_word 15 = .ok (.istore_n 2, 1) := by decide +kernel
theorem dX0_word_16 : decode cX0_word 16 = .ok (.aload_n 0, 1) := by decide +kernel
theorem dX0_word_17 : decode cX0_word 17 = .ok (.iload_n 1, 1) := by decide +kernel
theorem dX0_word_18 : decode cX0_word 18 = .ok (.invokevirtual 88, 3) := by decide +kernel
theorem dX0_word_21 : decode cX0_word 21 = .ok (.istore_n 3, 1) := by decide +kernel
theorem dX0_word_22 : decode cX0_word 22 = .ok (.aload_n 0, 1) := by decide +kernel
theorem dX0_word_23 : decode cX0_word 23 = .ok (.getfield 27, 3) := by decide +kernel
theorem dX0_word_26 : decode cX0_word 26 = .ok (.iload_n 1, 1) := by decide +kernel
theorem dX0_word_27 : decode cX0_word 27 = .ok (.dup2, 1) := by decide +kernel
theorem dX0_word_28 : decode cX0_word 28 = .ok (.iaload, 1) := by decide +kernel
theorem dX0_word_29 : decode cX0_word 29 = .ok (.iconst 1, 1) := by decide +kernel
theorem dX0_word_30 : decode cX0_word 30 = .ok (.isub, 1) := by decide +kernel
theorem dX0_word_31 : decode cX0_word 31 = .ok (.iastore, 1) := by decide +kernel
theorem dX0_word_32 : decode cX0_word 32 = .ok (.aload_n 0, 1) := by decide +kernel
theorem dX0_word_33 : decode cX0_word 33 = .ok (.sipush 999, 3) := by decide +kernel
theorem dX0_word_36 : decode cX0_word 36 = .ok (.aload_n 0, 1) := by decide +kernel
theorem dX0_word_37 : decode cX0_word 37 = .ok (.getfield 43, 3) := by decide +kernel
theorem dX0_word_40 : decode cX0_word 40 = .ok (.iconst 1, 1) := by decide +kernel
theorem dX0_word_41 : decode cX0_word 41 = .ok (.iadd, 1) := by decide +kernel
theorem dX0_word_42 : decode cX0_word 42 = .ok (.invokestatic 91, 3) := by decide +kernel
theorem dX0_word_45 : decode cX0_word 45 = .ok (.putfield 43, 3) := by decide +kernel
theorem dX0_word_48 : decode cX0_word 48 = .ok (.iconst 0, 1) := by decide +kernel
theorem dX0_word_49 : decode cX0_word 49 = .ok (.istore 4, 2) := by decide +kernel
theorem dX0_word_51 : decode cX0_word 51 = .ok (.iload 4, 2) := by decide +kernel
theorem dX0_word_53 : decode cX0_word 53 = .ok (.aload_n 0, 1) := by decide +kernel
theorem dX0_word_54 : decode cX0_word 54 = .ok (.getfield 36, 3) := by decide +kernel
theorem dX0_word_57 : decode cX0_word 57 = .ok (.if_icmp .ge 31, 3) := by decide +kernel
theorem dX0_word_60 : decode cX0_word 60 = .ok (.aload_n 0, 1) := by decide +kernel
theorem dX0_word_61 : decode cX0_word 61 = .ok (.iload 4, 2) := by decide +kernel
theorem dX0_word_63 : decode cX0_word 63 = .ok (.iload 4, 2) := by decide +kernel
theorem dX0_word_65 : decode cX0_word 65 = .ok (.aload_n 0, 1) := by decide +kernel
theorem dX0_word_66 : decode cX0_word 66 = .ok (.getfield 30, 3) := by decide +kernel
theorem dX0_word_69 : decode cX0_word 69 = .ok (.iload_n 1, 1) := by decide +kernel
theorem dX0_word_70 : decode cX0_word 70 = .ok (.iaload, 1) := by decide +kernel
theorem dX0_word_71 : decode cX0_word 71 = .ok (.if_icmp .ne 7, 3) := by decide +kernel
theorem dX0_word_74 : decode cX0_word 74 = .ok (.iload_n 2, 1) := by decide +kernel
theorem dX0_word_75 : decode cX0_word 75 = .ok (.goto 4, 3) := by decide +kernel
theorem dX0_word_78 : decode cX0_word 78 = .ok (.iload_n 3, 1) := by decide +kernel
theorem dX0_word_79 : decode cX0_word 79 = .ok (.invokevirtual 94, 3) := by decide +kernel
theorem dX0_word_82 : decode cX0_word 82 = .ok (.iinc 4 1, 3) := by decide +kernel
theorem dX0_word_85 : decode cX0_word 85 = .ok (.goto (-34), 3) := by decide +kernel
theorem dX0_word_88 : decode cX0_word 88 = .ok (.aload_n 0, 1) := by decide +kernel
theorem dX0_word_89 : decode cX0_word 89 = .ok (.invokevirtual 98, 3) := by decide +kernel
theorem dX0_word_92 : decode cX0_word 92 = .ok (.ireturn, 1) := by decide +kernel
set_option maxRecDepth 20000 in
theorem ggX0_loosen_X0_isIn : GoodIn wsX0_loosen wsX0_isIn := goodIn_r _ [10, 11, 12, 13, 14, 15, 16, 17, 18, 19, 20, 21, 22, 23] (by decide +kernel) (by decide +kernel)
set_option maxRecDepth 20000 in
theorem gX0_loosen_X0_isIn : GoodIn wsX0_loosen (wsV RX0 57 RX0 yX0_isIn wsX0_isIn) := goodIn_app (goodIn_of _ (by decide +kernel)) ggX0_loosen_X0_isIn
theorem dX0_loosen_0 : decode cX0_loosen 0 = .ok (.aload_n 0, 1) := by decide +kernel
theorem dX0_loosen_1 : decode cX0_loosen 1 = .ok (.iload_n 1, 1) := by decide +kernel
theorem dX0_loosen_2 : decode cX0_loosen 2 = .ok (.invokevirtual 57, 3) := by decide +kernel
theorem dX0_loosen_5 : decode cX0_loosen 5 = .ok (.ifCond .eq 22, 3) := by decide +kernel
theorem dX0_loosen_8 : decode cX0_loosen 8 = .ok (.aload_n 0, 1) := by decide +kernel
theorem dX0_loosen_9 : decode cX0_loosen 9 = .ok (.getfield 15, 3) := by decide +kernel
theorem dX0_loosen_12 : decode cX0_loosen 12 = .ok (.iload_n 1, 1) := by decide +kernel
theorem dX0_loosen_13 : decode cX0_loosen 13 = .ok (.bipush 99, 2) := by decide +kernel
theorem dX0_loosen_15 : decode cX0_loosen 15 = .ok (.aload_n 0, 1) := by decide +kernel
theorem dX0_loosen_16 : decode cX0_loosen 16 = .ok (.getfield 15, 3) := by decide +kernel
theorem dX0_loosen_19 : decode cX0_loosen 19 = .ok (.iload_n 1, 1) := by decide +kernel
theorem dX0_loosen_20 : decode cX0_loosen 20 = .ok (.iaload, 1) := by decide +kernel
theorem dX0_loosen_21 : decode cX0_loosen 21 = .ok (.iload_n 2, 1) := by decide +kernel
theorem dX0_loosen_22 : decode cX0_loosen 22 = .ok (.iadd, 1) := by decide +kernel
theorem dX0_loosen_23 : decode cX0_loosen 23 = .ok (.invokestatic 91, 3) := by decide +kernel
theorem dX0_loosen_26 : decode cX0_loosen 26 = .ok (.iastore, 1) := by decide +kernel
theorem dX0_loosen_27 : decode cX0_loosen 27 = .ok (.return_, 1) := by decide +kernel
set_option maxRecDepth 20000 in
theorem ggX0_riseAll_X0_isIn : GoodIn wsX0_riseAll wsX0_isIn := goodIn_r _ [8, 3, 20, 21, 22, 23, 24, 25, 26, 27, 28, 29, 30, 31] (by decide +kernel) (by decide +kernel)
set_option maxRecDepth 20000 in
theorem gX0_riseAll_X0_isIn : GoodIn wsX0_riseAll (wsV RX0 57 RX0 yX0_isIn wsX0_isIn) := goodIn_app (goodIn_of _ (by decide +kernel)) ggX0_riseAll_X0_isIn
set_option maxRecDepth 20000 in
theorem ggX0_riseAll_X0_holds : GoodIn wsX0_riseAll wsX0_holds := goodIn_r _ [12, 13, 14, 15, 16, 17, 7, 18, 19, 20, 21, 22, 23, 24, 25, 26, 27, 28, 29, 30, 31] (by decide +kernel) (by decide +kernel)
set_option maxRecDepth 20000 in
theorem gX0_riseAll_X0_holds : GoodIn wsX0_riseAll (wsV RX0 60 RX0 yX0_holds wsX0_holds) := goodIn_app (goodIn_of _ (by decide +kernel)) ggX0_riseAll_X0_holds
theorem dX0_riseAll_0 : decode cX0_riseAll 0 = .ok (.iconst 0, 1) := by decide +kernel
theorem dX0_riseAll_1 : decode cX0_riseAll 1 = .ok (.istore_n 1, 1) := by decide +kernel
theorem dX0_riseAll_2 : decode cX0_riseAll 2 = .ok (.iconst 0, 1) := by decide +kernel
theorem dX0_riseAll_3 : decode cX0_riseAll 3 = .ok (.istore_n 2, 1) := by decide +kernel
theorem dX0_riseAll_4 : decode cX0_riseAll 4 = .ok (.iload_n 2, 1) := by decide +kernel
theorem dX0_riseAll_5 : decode cX0_riseAll 5 = .ok (.aload_n 0, 1) := by decide +kernel
theorem dX0_riseAll_6 : decode cX0_riseAll 6 = .ok (.getfield 36, 3) := by decide +kernel
theorem dX0_riseAll_9 : decode cX0_riseAll 9 = .ok (.if_icmp .ge 48, 3) := by decide +kernel
theorem dX0_riseAll_12 : decode cX0_riseAll 12 = .ok (.aload_n 0, 1) := by decide +kernel
theorem dX0_riseAll_13 : decode cX0_riseAll 13 = .ok (.iload_n 2, 1) := by decide +kernel
theorem dX0_riseAll_14 : decode cX0_riseAll 14 = .ok (.invokevirtual 57, 3) := by decide +kernel
theorem dX0_riseAll_17 : decode cX0_riseAll 17 = .ok (.ifCond .eq 34, 3) := by decide +kernel
theorem dX0_riseAll_20 : decode cX0_riseAll 20 = .ok (.aload_n 0, 1) := by decide +kernel
theorem dX0_riseAll_21 : decode cX0_riseAll 21 = .ok (.getfield 15, 3) := by decide +kernel
theorem dX0_riseAll_24 : decode cX0_riseAll 24 = .ok (.iload_n 2, 1) := by decide +kernel
theorem dX0_riseAll_25 : decode cX0_riseAll 25 = .ok (.iaload, 1) := by decide +kernel
theorem dX0_riseAll_26 : decode cX0_riseAll 26 = .ok (.aload_n 0, 1) := by decide +kernel
theorem dX0_riseAll_27 : decode cX0_riseAll 27 = .ok (.iload_n 2, 1) := by decide +kernel
theorem dX0_riseAll_28 : decode cX0_riseAll 28 = .ok (.invokevirtual 60, 3) := by decide +kernel
theorem dX0_riseAll_31 : decode cX0_riseAll 31 = .ok (.if_icmp .lt 20, 3) := by decide +kernel
theorem dX0_riseAll_34 : decode cX0_riseAll 34 = .ok (.aload_n 0, 1) := by decide +kernel
theorem dX0_riseAll_35 : decode cX0_riseAll 35 = .ok (.getfield 18, 3) := by decide +kernel
theorem dX0_riseAll_38 : decode cX0_riseAll 38 = .ok (.iload_n 2, 1) := by decide +kernel
theorem dX0_riseAll_39 : decode cX0_riseAll 39 = .ok (.iconst 3, 1) := by decide +kernel
theorem dX0_riseAll_40 : decode cX0_riseAll 40 = .ok (.iastore, 1) := by decide +kernel
theorem dX0_riseAll_41 : decode cX0_riseAll 41 = .ok (.aload_n 0, 1) := by decide +kernel
theorem dX0_riseAll_42 : decode cX0_riseAll 42 = .ok (.getfield 15, 3) := by decide +kernel
theorem dX0_riseAll_45 : decode cX0_riseAll 45 = .ok (.iload_n 2, 1) := by decide +kernel
theorem dX0_riseAll_46 : decode cX0_riseAll 46 = .ok (.iconst 0, 1) := by decide +kernel
theorem dX0_riseAll_47 : decode cX0_riseAll 47 = .ok (.iastore, 1) := by decide +kernel
theorem dX0_riseAll_48 : decode cX0_riseAll 48 = .ok (.iinc 1 1, 3) := by decide +kernel
theorem dX0_riseAll_51 : decode cX0_riseAll 51 = .ok (.iinc 2 1, 3) := by decide +kernel
theorem dX0_riseAll_54 : decode cX0_riseAll 54 = .ok (.goto (-50), 3) := by decide +kernel
theorem dX0_riseAll_57 : decode cX0_riseAll 57 = .ok (.iload_n 1, 1) := by decide +kernel
theorem dX0_riseAll_58 : decode cX0_riseAll 58 = .ok (.ireturn, 1) := by decide +kernel
set_option maxRecDepth 20000 in
theorem ggX0_storms_X0_loosen : GoodIn wsX0_storms wsX0_loosen := goodIn_r _ [6, 7, 8, 9, 10, 11, 12, 13, 14, 5, 15, 16, 32, 33, 34, 35, 36, 37, 38, 39, 40, 41, 42, 43] (by decide +kernel) (by decide +kernel)
set_option maxRecDepth 20000 in
theorem gX0_storms_X0_loosen : GoodIn wsX0_storms (wsV RX0 94 RX0 yX0_loosen wsX0_loosen) := goodIn_app (goodIn_of _ (by decide +kernel)) ggX0_storms_X0_loosen
set_option maxRecDepth 20000 in
theorem ggX0_storms_X0_riseAll : GoodIn wsX0_storms wsX0_riseAll := goodIn_r _ [20, 1, 7, 16, 12, 13, 14, 5, 15, 21, 22, 23, 24, 25, 26, 27, 28, 29, 30, 31, 32, 33, 34, 35, 36, 37, 38, 39, 40, 41, 42, 43] (by decide +kernel) (by decide +kernel)
set_option maxRecDepth 20000 in
theorem gX0_storms_X0_riseAll : GoodIn wsX0_storms (wsV RX0 98 RX0 yX0_riseAll wsX0_riseAll) := goodIn_app (goodIn_of _ (by decide +kernel)) ggX0_storms_X0_riseAll
theorem dX0_storms_0 : decode cX0_storms 0 = .ok (.iconst 0, 1) := by decide +kernel
theorem dX0_storms_1 : decode cX0_storms 1 = .ok (.istore_n 1, 1) := by decide +kernel
theorem dX0_storms_2 : decode cX0_storms 2 = .ok (.iload_n 1, 1) := by decide +kernel
theorem dX0_storms_3 : decode cX0_storms 3 = .ok (.aload_n 0, 1) := by decide +kernel
theorem dX0_storms_4 : decode cX0_storms 4 = .ok (.getfield 36, 3) := by decide +kernel
theorem dX0_storms_7 : decode cX0_storms 7 = .ok (.if_icmp .ge 15, 3) := by decide +kernel
theorem dX0_storms_10 : decode cX0_storms 10 = .ok (.aload_n 0, 1) := by decide +kernel
theorem dX0_storms_11 : decode cX0_storms 11 = .ok (.iload_n 1, 1) := by decide +kernel
theorem dX0_storms_12 : decode cX0_storms 12 = .ok (.iconst 2, 1) := by decide +kernel
theorem dX0_storms_13 : decode cX0_storms 13 = .ok (.invokevirtual 94, 3) := by decide +kernel
theorem dX0_storms_16 : decode cX0_storms 16 = .ok (.iinc 1 1, 3) := by decide +kernel
theorem dX0_storms_19 : decode cX0_storms 19 = .ok (.goto (-17), 3) := by decide +kernel
theorem dX0_storms_22 : decode cX0_storms 22 = .ok (.aload_n 0, 1) := by decide +kernel
theorem dX0_storms_23 : decode cX0_storms 23 = .ok (.invokevirtual 98, 3) := by decide +kernel
theorem dX0_storms_26 : decode cX0_storms 26 = .ok (.pop, 1) := by decide +kernel
theorem dX0_storms_27 : decode cX0_storms 27 = .ok (.return_, 1) := by decide +kernel
theorem dX0_hasTidesLeft_0 : decode cX0_hasTidesLeft 0 = .ok (.iload_n 1, 1) := by decide +kernel
theorem dX0_hasTidesLeft_1 : decode cX0_hasTidesLeft 1 = .ok (.sipush 999, 3) := by decide +kernel
theorem dX0_hasTidesLeft_4 : decode cX0_hasTidesLeft 4 = .ok (.aload_n 0, 1) := by decide +kernel
theorem dX0_hasTidesLeft_5 : decode cX0_hasTidesLeft 5 = .ok (.getfield 46, 3) := by decide +kernel
theorem dX0_hasTidesLeft_8 : decode cX0_hasTidesLeft 8 = .ok (.isub, 1) := by decide +kernel
theorem dX0_hasTidesLeft_9 : decode cX0_hasTidesLeft 9 = .ok (.if_icmp .gt 7, 3) := by decide +kernel
theorem dX0_hasTidesLeft_12 : decode cX0_hasTidesLeft 12 = .ok (.iconst 1, 1) := by decide +kernel
theorem dX0_hasTidesLeft_13 : decode cX0_hasTidesLeft 13 = .ok (.goto 4, 3) := by decide +kernel
theorem dX0_hasTidesLeft_16 : decode cX0_hasTidesLeft 16 = .ok (.iconst 0, 1) := by decide +kernel
theorem dX0_hasTidesLeft_17 : decode cX0_hasTidesLeft 17 = .ok (.ireturn, 1) := by decide +kernel
set_option maxRecDepth 20000 in
theorem ggX0_passTides_X0_passTide : GoodIn wsX0_passTides wsX0_passTide := goodIn_r _ [5, 6, 7, 8, 9, 10, 11, 12, 13, 14, 15, 16, 17, 18, 4, 19, 20, 21, 22, 23, 24, 25, 26, 27, 28, 29, 30, 31, 32, 33, 34, 35, 36] (by decide +kernel) (by decide +kernel)
set_option maxRecDepth 20000 in
theorem gX0_passTides_X0_passTide : GoodIn wsX0_passTides (wsV RX0 102 RX0 yX0_passTide wsX0_passTide) := goodIn_app (goodIn_of _ (by decide +kernel)) ggX0_passTides_X0_passTide
theorem dX0_passTides_0 : decode cX0_passTides 0 = .ok (.iconst 0, 1) := by decide +kernel
theorem dX0_passTides_1 : decode cX0_passTides 1 = .ok (.istore_n 2, 1) := by decide +kernel
theorem dX0_passTides_2 : decode cX0_passTides 2 = .ok (.iload_n 2, 1) := by decide +kernel
theorem dX0_passTides_3 : decode cX0_passTides 3 = .ok (.iload_n 1, 1) := by decide +kernel
theorem dX0_passTides_4 : decode cX0_passTides 4 = .ok (.if_icmp .ge 13, 3) := by decide +kernel
theorem dX0_passTides_7 : decode cX0_passTides 7 = .ok (.aload_n 0, 1) := by decide +kernel
theorem dX0_passTides_8 : decode cX0_passTides 8 = .ok (.invokevirtual 102, 3) := by decide +kernel
theorem dX0_passTides_11 : decode cX0_passTides 11 = .ok (.iinc 2 1, 3) := by decide +kernel
theorem dX0_passTides_14 : decode cX0_passTides 14 = .ok (.goto (-12), 3) := by decide +kernel
theorem dX0_passTides_17 : decode cX0_passTides 17 = .ok (.return_, 1) := by decide +kernel
set_option maxRecDepth 20000 in
theorem ggX0_passTide_X0_isIn : GoodIn wsX0_passTide wsX0_isIn := goodIn_r _ [15, 10, 21, 22, 23, 24, 25, 26, 27, 28, 29, 30, 31, 32] (by decide +kernel) (by decide +kernel)
set_option maxRecDepth 20000 in
theorem gX0_passTide_X0_isIn : GoodIn wsX0_passTide (wsV RX0 57 RX0 yX0_isIn wsX0_isIn) := goodIn_app (goodIn_of _ (by decide +kernel)) ggX0_passTide_X0_isIn
set_option maxRecDepth 20000 in
theorem ggX0_passTide_X0_sinsMore : GoodIn wsX0_passTide wsX0_sinsMore := goodIn_r _ [19, 20, 21, 22, 23, 24, 25, 26, 27, 28, 29, 30, 31, 32] (by decide +kernel) (by decide +kernel)
set_option maxRecDepth 20000 in
theorem gX0_passTide_X0_sinsMore : GoodIn wsX0_passTide (wsV RX0 105 RX0 yX0_sinsMore wsX0_sinsMore) := goodIn_app (goodIn_of _ (by decide +kernel)) ggX0_passTide_X0_sinsMore
theorem dX0_passTide_0 : decode cX0_passTide 0 = .ok (.aload_n 0, 1) := by decide +kernel
theorem dX0_passTide_1 : decode cX0_passTide 1 = .ok (.dup, 1) := by decide +kernel
theorem dX0_passTide_2 : decode cX0_passTide 2 = .ok (.getfield 46, 3) := by decide +kernel
theorem dX0_passTide_5 : decode cX0_passTide 5 = .ok (.iconst 1, 1) := by decide +kernel
theorem dX0_passTide_6 : decode cX0_passTide 6 = .ok (.iadd, 1) := by decide +kernel
theorem dX0_passTide_7 : decode cX0_passTide 7 = .ok (.putfield 46, 3) := by decide +kernel
theorem dX0_passTide_10 : decode cX0_passTide 10 = .ok (.iconst 0, 1) := by decide +kernel
theorem dX0_passTide_11 : decode cX0_passTide 11 = .ok (.istore_n 1, 1) := by decide +kernel
theorem dX0_passTide_12 : decode cX0_passTide 12 = .ok (.iload_n 1, 1) := by decide +kernel
theorem dX0_passTide_13 : decode cX0_passTide 13 = .ok (.aload_n 0, 1) := by decide +kernel
theorem dX0_passTide_14 : decode cX0_passTide 14 = .ok (.getfield 40, 3) := by decide +kernel
theorem dX0_passTide_17 : decode cX0_passTide 17 = .ok (.if_icmp .ge 45, 3) := by decide +kernel
theorem dX0_passTide_20 : decode cX0_passTide 20 = .ok (.aload_n 0, 1) := by decide +kernel
theorem dX0_passTide_21 : decode cX0_passTide 21 = .ok (.aload_n 0, 1) := by decide +kernel
theorem dX0_passTide_22 : decode cX0_passTide 22 = .ok (.getfield 30, 3) := by decide +kernel
theorem dX0_passTide_25 : decode cX0_passTide 25 = .ok (.iload_n 1, 1) := by decide +kernel
theorem dX0_passTide_26 : decode cX0_passTide 26 = .ok (.iaload, 1) := by decide +kernel
theorem dX0_passTide_27 : decode cX0_passTide 27 = .ok (.invokevirtual 57, 3) := by decide +kernel
theorem dX0_passTide_30 : decode cX0_passTide 30 = .ok (.ifCond .ne 26, 3) := by decide +kernel
theorem dX0_passTide_33 : decode cX0_passTide 33 = .ok (.aload_n 0, 1) := by decide +kernel
theorem dX0_passTide_34 : decode cX0_passTide 34 = .ok (.getfield 27, 3) := by decide +kernel
theorem dX0_passTide_37 : decode cX0_passTide 37 = .ok (.iload_n 1, 1) := by decide +kernel
theorem dX0_passTide_38 : decode cX0_passTide 38 = .ok (.bipush 9, 2) := by decide +kernel
theorem dX0_passTide_40 : decode cX0_passTide 40 = .ok (.aload_n 0, 1) := by decide +kernel
theorem dX0_passTide_41 : decode cX0_passTide 41 = .ok (.getfield 27, 3) := by decide +kernel
theorem dX0_passTide_44 : decode cX0_passTide 44 = .ok (.iload_n 1, 1) := by decide +kernel
theorem dX0_passTide_45 : decode cX0_passTide 45 = .ok (.iaload, 1) := by decide +kernel
theorem dX0_passTide_46 : decode cX0_passTide 46 = .ok (.aload_n 0, 1) := by decide +kernel
theorem dX0_passTide_47 : decode cX0_passTide 47 = .ok (.iload_n 1, 1) := by decide +kernel
theorem dX0_passTide_48 : decode cX0_passTide 48 = .ok (.invokevirtual 105, 3) := by decide +kernel
theorem dX0_passTide_51 : decode cX0_passTide 51 = .ok (.iadd, 1) := by decide +kernel
theorem dX0_passTide_52 : decode cX0_passTide 52 = .ok (.invokestatic 91, 3) := by decide +kernel
theorem dX0_passTide_55 : decode cX0_passTide 55 = .ok (.iastore, 1) := by decide +kernel
theorem dX0_passTide_56 : decode cX0_passTide 56 = .ok (.iinc 1 1, 3) := by decide +kernel
theorem dX0_passTide_59 : decode cX0_passTide 59 = .ok (.goto (-47), 3) := by decide +kernel
theorem dX0_passTide_62 : decode cX0_passTide 62 = .ok (.iconst 0, 1) := by decide +kernel
theorem dX0_passTide_63 : decode cX0_passTide 63 = .ok (.istore_n 1, 1) := by decide +kernel
theorem dX0_passTide_64 : decode cX0_passTide 64 = .ok (.iload_n 1, 1) := by decide +kernel
theorem dX0_passTide_65 : decode cX0_passTide 65 = .ok (.aload_n 0, 1) := by decide +kernel
theorem dX0_passTide_66 : decode cX0_passTide 66 = .ok (.getfield 36, 3) := by decide +kernel
theorem dX0_passTide_69 : decode cX0_passTide 69 = .ok (.if_icmp .ge 27, 3) := by decide +kernel
theorem dX0_passTide_72 : decode cX0_passTide 72 = .ok (.aload_n 0, 1) := by decide +kernel
theorem dX0_passTide_73 : decode cX0_passTide 73 = .ok (.iload_n 1, 1) := by decide +kernel
theorem dX0_passTide_74 : decode cX0_passTide 74 = .ok (.invokevirtual 57, 3) := by decide +kernel
theorem dX0_passTide_77 : decode cX0_passTide 77 = .ok (.ifCond .ne 13, 3) := by decide +kernel
theorem dX0_passTide_80 : decode cX0_passTide 80 = .ok (.aload_n 0, 1) := by decide +kernel
theorem dX0_passTide_81 : decode cX0_passTide 81 = .ok (.getfield 18, 3) := by decide +kernel
theorem dX0_passTide_84 : decode cX0_passTide 84 = .ok (.iload_n 1, 1) := by decide +kernel
theorem dX0_passTide_85 : decode cX0_passTide 85 = .ok (.dup2, 1) := by decide +kernel
theorem dX0_passTide_86 : decode cX0_passTide 86 = .ok (.iaload, 1) := by decide +kernel
theorem dX0_passTide_87 : decode cX0_passTide 87 = .ok (.iconst 1, 1) := by decide +kernel
theorem dX0_passTide_88 : decode cX0_passTide 88 = .ok (.isub, 1) := by decide +kernel
theorem dX0_passTide_89 : decode cX0_passTide 89 = .ok (.iastore, 1) := by decide +kernel
theorem dX0_passTide_90 : decode cX0_passTide 90 = .ok (.iinc 1 1, 3) := by decide +kernel
theorem dX0_passTide_93 : decode cX0_passTide 93 = .ok (.goto (-29), 3) := by decide +kernel
theorem dX0_passTide_96 : decode cX0_passTide 96 = .ok (.return_, 1) := by decide +kernel
set_option maxRecDepth 20000 in
theorem ggX0_fewestWords_X0_lacks : GoodIn wsX0_fewestWords wsX0_lacks := goodIn_r _ [6, 7, 8, 9, 10, 11, 12, 13, 14, 5, 15, 16, 17, 18, 19, 20, 21, 22, 23, 24, 25, 26, 27, 41, 42, 43, 44, 45, 46, 47, 48, 49, 50, 51, 52] (by decide +kernel) (by decide +kernel)
set_option maxRecDepth 20000 in
theorem gX0_fewestWords_X0_lacks : GoodIn wsX0_fewestWords (wsV RX0 76 RX0 yX0_lacks wsX0_lacks) := goodIn_app (goodIn_of _ (by decide +kernel)) ggX0_fewestWords_X0_lacks
set_option maxRecDepth 20000 in
theorem ggX0_fewestWords_X0_dearestLeft : GoodIn wsX0_fewestWords wsX0_dearestLeft := goodIn_r _ [31, 32, 33, 1, 34, 35, 36, 37, 5, 38, 39, 40, 8, 9, 10, 11, 23, 24, 25, 26, 27, 41, 42, 43, 44, 45, 46, 47, 48, 49, 50, 51, 52] (by decide +kernel) (by decide +kernel)
set_option maxRecDepth 20000 in
theorem gX0_fewestWords_X0_dearestLeft : GoodIn wsX0_fewestWords (wsV RX0 108 RX0 yX0_dearestLeft wsX0_dearestLeft) := goodIn_app (goodIn_of _ (by decide +kernel)) ggX0_fewestWords_X0_dearestLeft
set_option maxRecDepth 20000 in
theorem ggX0_fewestWords_X0_worth : GoodIn wsX0_fewestWords wsX0_worth := goodIn_r _ [38, 39, 40, 8, 9, 10, 11, 23, 24, 25, 5, 26, 27, 41, 42, 43, 44, 45, 46, 47, 48, 49, 50, 51, 52] (by decide +kernel) (by decide +kernel)
set_option maxRecDepth 20000 in
theorem gX0_fewestWords_X0_worth : GoodIn wsX0_fewestWords (wsV RX0 70 RX0 yX0_worth wsX0_worth) := goodIn_app (goodIn_of _ (by decide +kernel)) ggX0_fewestWords_X0_worth
theorem dX0_fewestWords_0 : decode cX0_fewestWords 0 = .ok (.iconst 0, 1) := by decide +kernel
theorem dX0_fewestWords_1 : decode cX0_fewestWords 1 = .ok (.istore_n 2, 1) := by decide +kernel
theorem dX0_fewestWords_2 : decode cX0_fewestWords 2 = .ok (.iload_n 2, 1) := by decide +kernel
theorem dX0_fewestWords_3 : decode cX0_fewestWords 3 = .ok (.bipush 8, 2) := by decide +kernel
theorem dX0_fewestWords_5 : decode cX0_fewestWords 5 = .ok (.if_icmp .ge 16, 3) := by decide +kernel
theorem dX0_fewestWords_8 : decode cX0_fewestWords 8 = .ok (.aload_n 0, 1) := by decide +kernel
theorem dX0_fewestWords_9 : decode cX0_fewestWords 9 = .ok (.getfield 33, 3) := by decide +kernel
theorem dX0_fewestWords_12 : decode cX0_fewestWords 12 = .ok (.iload_n 2, 1) := by decide +kernel
theorem dX0_fewestWords_13 : decode cX0_fewestWords 13 = .ok (.iconst 0, 1) := by decide +kernel
theorem dX0_fewestWords_14 : decode cX0_fewestWords 14 = .ok (.iastore, 1) := by decide +kernel
theorem dX0_fewestWords_15 : decode cX0_fewestWords 15 = .ok (.iinc 2 1, 3) := by decide +kernel
theorem dX0_fewestWords_18 : decode cX0_fewestWords 18 = .ok (.goto (-16), 3) := by decide +kernel
theorem dX0_fewestWords_21 : decode cX0_fewestWords 21 = .ok (.iconst 0, 1) := by decide +kernel
theorem dX0_fewestWords_22 : decode cX0_fewestWords 22 = .ok (.istore_n 2, 1) := by decide +kernel
theorem dX0_fewestWords_23 : decode cX0_fewestWords 23 = .ok (.aload_n 0, 1) := by decide +kernel
theorem dX0_fewestWords_24 : decode cX0_fewestWords 24 = .ok (.iload_n 1, 1) := by decide +kernel
theorem dX0_fewestWords_25 : decode cX0_fewestWords 25 = .ok (.invokevirtual 76, 3) := by decide +kernel
theorem dX0_fewestWords_28 : decode cX0_fewestWords 28 = .ok (.istore_n 3, 1) := by decide +kernel
theorem dX0_fewestWords_29 : decode cX0_fewestWords 29 = .ok (.iconst 0, 1) := by decide +kernel
theorem dX0_fewestWords_30 : decode cX0_fewestWords 30 = .ok (.istore 4, 2) := by decide +kernel
theorem dX0_fewestWords_32 : decode cX0_fewestWords 32 = .ok (.iload 4, 2) := by decide +kernel
theorem dX0_fewestWords_34 : decode cX0_fewestWords 34 = .ok (.bipush 72, 2) := by decide +kernel
theorem dX0_fewestWords_36 : decode cX0_fewestWords 36 = .ok (.if_icmp .ge 53, 3) := by decide +kernel
theorem dX0_fewestWords_39 : decode cX0_fewestWords 39 = .ok (.iload_n 3, 1) := by decide +kernel
theorem dX0_fewestWords_40 : decode cX0_fewestWords 40 = .ok (.ifCond .le 49, 3) := by decide +kernel
theorem dX0_fewestWords_43 : decode cX0_fewestWords 43 = .ok (.aload_n 0, 1) := by decide +kernel
theorem dX0_fewestWords_44 : decode cX0_fewestWords 44 = .ok (.iload_n 1, 1) := by decide +kernel
theorem dX0_fewestWords_45 : decode cX0_fewestWords 45 = .ok (.invokevirtual 108, 3) := by decide +kernel
theorem dX0_fewestWords_48 : decode cX0_fewestWords 48 = .ok (.istore 5, 2) := by decide +kernel
theorem dX0_fewestWords_50 : decode cX0_fewestWords 50 = .ok (.iload 5, 2) := by decide +kernel
theorem dX0_fewestWords_52 : decode cX0_fewestWords 52 = .ok (.bipush (-9), 2) := by decide +kernel
theorem dX0_fewestWords_54 : decode cX0_fewestWords 54 = .ok (.if_icmp .ne 6, 3) := by decide +kernel
theorem dX0_fewestWords_57 : decode cX0_fewestWords 57 = .ok (.bipush (-9), 2) := by decide +kernel
theorem dX0_fewestWords_59 : decode cX0_fewestWords 59 = .ok (.ireturn, 1) := by decide +kernel
theorem dX0_fewestWords_60 : decode cX0_fewestWords 60 = .ok (.aload_n 0, 1) := by decide +kernel
theorem dX0_fewestWords_61 : decode cX0_fewestWords 61 = .ok (.getfield 33, 3) := by decide +kernel
theorem dX0_fewestWords_64 : decode cX0_fewestWords 64 = .ok (.iload 5, 2) := by decide +kernel
theorem dX0_fewestWords_66 : decode cX0_fewestWords 66 = .ok (.dup2, 1) := by decide +kernel
theorem dX0_fewestWords_67 : decode cX0_fewestWords 67 = .ok (.iaload, 1) := by decide +kernel
theorem dX0_fewestWords_68 : decode cX0_fewestWords 68 = .ok (.iconst 1, 1) := by decide +kernel
theorem dX0_fewestWords_69 : decode cX0_fewestWords 69 = .ok (.iadd, 1) := by decide +kernel
theorem dX0_fewestWords_70 : decode cX0_fewestWords 70 = .ok (.iastore, 1) := by decide +kernel
theorem dX0_fewestWords_71 : decode cX0_fewestWords 71 = .ok (.iload_n 3, 1) := by decide +kernel
theorem dX0_fewestWords_72 : decode cX0_fewestWords 72 = .ok (.aload_n 0, 1) := by decide +kernel
theorem dX0_fewestWords_73 : decode cX0_fewestWords 73 = .ok (.iload 5, 2) := by decide +kernel
theorem dX0_fewestWords_75 : decode cX0_fewestWords 75 = .ok (.invokevirtual 70, 3) := by decide +kernel
theorem dX0_fewestWords_78 : decode cX0_fewestWords 78 = .ok (.isub, 1) := by decide +kernel
theorem dX0_fewestWords_79 : decode cX0_fewestWords 79 = .ok (.istore_n 3, 1) := by decide +kernel
theorem dX0_fewestWords_80 : decode cX0_fewestWords 80 = .ok (.iinc 2 1, 3) := by decide +kernel
theorem dX0_fewestWords_83 : decode cX0_fewestWords 83 = .ok (.iinc 4 1, 3) := by decide +kernel
theorem dX0_fewestWords_86 : decode cX0_fewestWords 86 = .ok (.goto (-54), 3) := by decide +kernel
theorem dX0_fewestWords_89 : decode cX0_fewestWords 89 = .ok (.iload_n 3, 1) := by decide +kernel
theorem dX0_fewestWords_90 : decode cX0_fewestWords 90 = .ok (.ifCond .le 8, 3) := by decide +kernel
theorem dX0_fewestWords_93 : decode cX0_fewestWords 93 = .ok (.bipush (-9), 2) := by decide +kernel
theorem dX0_fewestWords_95 : decode cX0_fewestWords 95 = .ok (.goto 4, 3) := by decide +kernel
theorem dX0_fewestWords_98 : decode cX0_fewestWords 98 = .ok (.iload_n 2, 1) := by decide +kernel
theorem dX0_fewestWords_99 : decode cX0_fewestWords 99 = .ok (.ireturn, 1) := by decide +kernel
set_option maxRecDepth 20000 in
theorem ggX0_dearestLeft_X0_worth : GoodIn wsX0_dearestLeft wsX0_worth := goodIn_r _ [9, 10, 11, 12, 13, 14, 15, 16, 17, 18, 8, 19, 20, 21, 22, 23, 24, 25, 26, 27, 28, 29, 30, 31, 32] (by decide +kernel) (by decide +kernel)
set_option maxRecDepth 20000 in
theorem gX0_dearestLeft_X0_worth : GoodIn wsX0_dearestLeft (wsV RX0 70 RX0 yX0_worth wsX0_worth) := goodIn_app (goodIn_of _ (by decide +kernel)) ggX0_dearestLeft_X0_worth
theorem dX0_dearestLeft_0 : decode cX0_dearestLeft 0 = .ok (.bipush (-9), 2) := by decide +kernel
theorem dX0_dearestLeft_2 : decode cX0_dearestLeft 2 = .ok (.istore_n 2, 1) := by decide +kernel
theorem dX0_dearestLeft_3 : decode cX0_dearestLeft 3 = .ok (.iconst 0, 1) := by decide +kernel
theorem dX0_dearestLeft_4 : decode cX0_dearestLeft 4 = .ok (.istore_n 3, 1) := by decide +kernel
theorem dX0_dearestLeft_5 : decode cX0_dearestLeft 5 = .ok (.iconst 0, 1) := by decide +kernel
theorem dX0_dearestLeft_6 : decode cX0_dearestLeft 6 = .ok (.istore 4, 2) := by decide +kernel
theorem dX0_dearestLeft_8 : decode cX0_dearestLeft 8 = .ok (.iload 4, 2) := by decide +kernel
theorem dX0_dearestLeft_10 : decode cX0_dearestLeft 10 = .ok (.aload_n 0, 1) := by decide +kernel
theorem dX0_dearestLeft_11 : decode cX0_dearestLeft 11 = .ok (.getfield 40, 3) := by decide +kernel
theorem dX0_dearestLeft_14 : decode cX0_dearestLeft 14 = .ok (.if_icmp .ge 57, 3) := by decide +kernel
theorem dX0_dearestLeft_17 : decode cX0_dearestLeft 17 = .ok (.aload_n 0, 1) := by decide +kernel
theorem dX0_dearestLeft_18 : decode cX0_dearestLeft 18 = .ok (.getfield 30, 3) := by decide +kernel
theorem dX0_dearestLeft_21 : decode cX0_dearestLeft 21 = .ok (.iload 4, 2) := by decide +kernel
theorem dX0_dearestLeft_23 : decode cX0_dearestLeft 23 = .ok (.iaload, 1) := by decide +kernel
theorem dX0_dearestLeft_24 : decode cX0_dearestLeft 24 = .ok (.iload_n 1, 1) := by decide +kernel
theorem dX0_dearestLeft_25 : decode cX0_dearestLeft 25 = .ok (.if_icmp .ne 40, 3) := by decide +kernel
theorem dX0_dearestLeft_28 : decode cX0_dearestLeft 28 = .ok (.aload_n 0, 1) := by decide +kernel
theorem dX0_dearestLeft_29 : decode cX0_dearestLeft 29 = .ok (.getfield 33, 3) := by decide +kernel
theorem dX0_dearestLeft_32 : decode cX0_dearestLeft 32 = .ok (.iload 4, 2) := by decide +kernel
theorem dX0_dearestLeft_34 : decode cX0_dearestLeft 34 = .ok (.iaload, 1) := by decide +kernel
theorem dX0_dearestLeft_35 : decode cX0_dearestLeft 35 = .ok (.aload_n 0, 1) := by decide +kernel
theorem dX0_dearestLeft_36 : decode cX0_dearestLeft 36 = .ok (.getfield 27, 3) := by decide +kernel
theorem dX0_dearestLeft_39 : decode cX0_dearestLeft 39 = .ok (.iload 4, 2) := by decide +kernel
theorem dX0_dearestLeft_41 : decode cX0_dearestLeft 41 = .ok (.iaload, 1) := by decide +kernel
theorem dX0_dearestLeft_42 : decode cX0_dearestLeft 42 = .ok (.if_icmp .ge 23, 3) := by decide +kernel
theorem dX0_dearestLeft_45 : decode cX0_dearestLeft 45 = .ok (.aload_n 0, 1) := by decide +kernel
theorem dX0_dearestLeft_46 : decode cX0_dearestLeft 46 = .ok (.iload 4, 2) := by decide +kernel
theorem dX0_dearestLeft_48 : decode cX0_dearestLeft 48 = .ok (.invokevirtual 70, 3) := by decide +kernel
theorem dX0_dearestLeft_51 : decode cX0_dearestLeft 51 = .ok (.iload_n 3, 1) := by decide +kernel
theorem dX0_dearestLeft_52 : decode cX0_dearestLeft 52 = .ok (.if_icmp .le 13, 3) := by decide +kernel
theorem dX0_dearestLeft_55 : decode cX0_dearestLeft 55 = .ok (.aload_n 0, 1) := by decide +kernel
theorem dX0_dearestLeft_56 : decode cX0_dearestLeft 56 = .ok (.iload 4, 2) := by decide +kernel
theorem dX0_dearestLeft_58 : decode cX0_dearestLeft 58 = .ok (.invokevirtual 70, 3) := by decide +kernel
theorem dX0_dearestLeft_61 : decode cX0_dearestLeft 61 = .ok (.istore_n 3, 1) := by decide +kernel
theorem dX0_dearestLeft_62 : decode cX0_dearestLeft 62 = .ok (.iload 4, 2) := by decide +kernel
theorem dX0_dearestLeft_64 : decode cX0_dearestLeft 64 = .ok (.istore_n 2, 1) := by decide +kernel
theorem dX0_dearestLeft_65 : decode cX0_dearestLeft 65 = .ok (.iinc 4 1, 3) := by decide +kernel
theorem dX0_dearestLeft_68 : decode cX0_dearestLeft 68 = .ok (.goto (-60), 3) := by decide +kernel
theorem dX0_dearestLeft_71 : decode cX0_dearestLeft 71 = .ok (.iload_n 2, 1) := by decide +kernel
theorem dX0_dearestLeft_72 : decode cX0_dearestLeft 72 = .ok (.ireturn, 1) := by decide +kernel
theorem dX0_mostAsked_0 : decode cX0_mostAsked 0 = .ok (.bipush (-9), 2) := by decide +kernel
theorem dX0_mostAsked_2 : decode cX0_mostAsked 2 = .ok (.istore_n 1, 1) := by decide +kernel
theorem dX0_mostAsked_3 : decode cX0_mostAsked 3 = .ok (.iconst 0, 1) := by decide +kernel
theorem dX0_mostAsked_4 : decode cX0_mostAsked 4 = .ok (.istore_n 2, 1) := by decide +kernel
theorem dX0_mostAsked_5 : decode cX0_mostAsked 5 = .ok (.iconst 0, 1) := by decide +kernel
theorem dX0_mostAsked_6 : decode cX0_mostAsked 6 = .ok (.istore_n 3, 1) := by decide +kernel
theorem dX0_mostAsked_7 : decode cX0_mostAsked 7 = .ok (.iload_n 3, 1) := by decide +kernel
theorem dX0_mostAsked_8 : decode cX0_mostAsked 8 = .ok (.aload_n 0, 1) := by decide +kernel
theorem dX0_mostAsked_9 : decode cX0_mostAsked 9 = .ok (.getfield 40, 3) := by decide +kernel
theorem dX0_mostAsked_12 : decode cX0_mostAsked 12 = .ok (.if_icmp .ge 28, 3) := by decide +kernel
theorem dX0_mostAsked_15 : decode cX0_mostAsked 15 = .ok (.aload_n 0, 1) := by decide +kernel
theorem dX0_mostAsked_16 : decode cX0_mostAsked 16 = .ok (.getfield 33, 3) := by decide +kernel
theorem dX0_mostAsked_19 : decode cX0_mostAsked 19 = .ok (.iload_n 3, 1) := by decide +kernel
theorem dX0_mostAsked_20 : decode cX0_mostAsked 20 = .ok (.iaload, 1) := by decide +kernel
theorem dX0_mostAsked_21 : decode cX0_mostAsked 21 = .ok (.iload_n 2, 1) := by decide +kernel
theorem dX0_mostAsked_22 : decode cX0_mostAsked 22 = .ok (.if_icmp .le 12, 3) := by decide +kernel
theorem dX0_mostAsked_25 : decode cX0_mostAsked 25 = .ok (.aload_n 0, 1) := by decide +kernel
theorem dX0_mostAsked_26 : decode cX0_mostAsked 26 = .ok (.getfield 33, 3) := by decide +kernel
theorem dX0_mostAsked_29 : decode cX0_mostAsked 29 = .ok (.iload_n 3, 1) := by decide +kernel
theorem dX0_mostAsked_30 : decode cX0_mostAsked 30 = .ok (.iaload, 1) := by decide +kernel
theorem dX0_mostAsked_31 : decode cX0_mostAsked 31 = .ok (.istore_n 2, 1) := by decide +kernel
theorem dX0_mostAsked_32 : decode cX0_mostAsked 32 = .ok (.iload_n 3, 1) := by decide +kernel
theorem dX0_mostAsked_33 : decode cX0_mostAsked 33 = .ok (.istore_n 1, 1) := by decide +kernel
theorem dX0_mostAsked_34 : decode cX0_mostAsked 34 = .ok (.iinc 3 1, 3) := by decide +kernel
theorem dX0_mostAsked_37 : decode cX0_mostAsked 37 = .ok (.goto (-30), 3) := by decide +kernel
theorem dX0_mostAsked_40 : decode cX0_mostAsked 40 = .ok (.iload_n 1, 1) := by decide +kernel
theorem dX0_mostAsked_41 : decode cX0_mostAsked 41 = .ok (.ireturn, 1) := by decide +kernel
theorem dX1_init_0 : decode cX1_init 0 = .ok (.aload_n 0, 1) := by decide +kernel
theorem dX1_init_1 : decode cX1_init 1 = .ok (.invokespecial 3, 3) := by decide +kernel
theorem dX1_init_4 : decode cX1_init 4 = .ok (.aload_n 0, 1) := by decide +kernel
theorem dX1_init_5 : decode cX1_init 5 = .ok (.bipush 96, 2) := by decide +kernel
theorem dX1_init_7 : decode cX1_init 7 = .ok (.newarray .int, 2) := by decide +kernel
theorem dX1_init_9 : decode cX1_init 9 = .ok (.putfield 11, 3) := by decide +kernel
theorem dX1_init_12 : decode cX1_init 12 = .ok (.aload_n 0, 1) := by decide +kernel
theorem dX1_init_13 : decode cX1_init 13 = .ok (.iconst 0, 1) := by decide +kernel
theorem dX1_init_14 : decode cX1_init 14 = .ok (.putfield 15, 3) := by decide +kernel
theorem dX1_init_17 : decode cX1_init 17 = .ok (.return_, 1) := by decide +kernel
theorem dX1_isFull_0 : decode cX1_isFull 0 = .ok (.aload_n 0, 1) := by decide +kernel
theorem dX1_isFull_1 : decode cX1_isFull 1 = .ok (.getfield 15, 3) := by decide +kernel
theorem dX1_isFull_4 : decode cX1_isFull 4 = .ok (.bipush 96, 2) := by decide +kernel
theorem dX1_isFull_6 : decode cX1_isFull 6 = .ok (.if_icmp .lt 7, 3) := by decide +kernel
theorem dX1_isFull_9 : decode cX1_isFull 9 = .ok (.iconst 1, 1) := by decide +kernel
theorem dX1_isFull_10 : decode cX1_isFull 10 = .ok (.goto 4, 3) := by decide +kernel
theorem dX1_isFull_13 : decode cX1_isFull 13 = .ok (.iconst 0, 1) := by decide +kernel
theorem dX1_isFull_14 : decode cX1_isFull 14 = .ok (.ireturn, 1) := by decide +kernel
theorem dX1_add_0 : decode cX1_add 0 = .ok (.aload_n 0, 1) := by decide +kernel
theorem dX1_add_1 : decode cX1_add 1 = .ok (.getfield 15, 3) := by decide +kernel
theorem dX1_add_4 : decode cX1_add 4 = .ok (.bipush 96, 2) := by decide +kernel
theorem dX1_add_6 : decode cX1_add 6 = .ok (.if_icmp .ge 23, 3) := by decide +kernel
theorem dX1_add_9 : decode cX1_add 9 = .ok (.aload_n 0, 1) := by decide +kernel
theorem dX1_add_10 : decode cX1_add 10 = .ok (.getfield 11, 3) := by decide +kernel
theorem dX1_add_13 : decode cX1_add 13 = .ok (.aload_n 0, 1) := by decide +kernel
theorem dX1_add_14 : decode cX1_add 14 = .ok (.getfield 15, 3) := by decide +kernel
theorem dX1_add_17 : decode cX1_add 17 = .ok (.iload_n 1, 1) := by decide +kernel
theorem dX1_add_18 : decode cX1_add 18 = .ok (.iastore, 1) := by decide +kernel
theorem dX1_add_19 : decode cX1_add 19 = .ok (.aload_n 0, 1) := by decide +kernel
theorem dX1_add_20 : decode cX1_add 20 = .ok (.dup, 1) := by decide +kernel
theorem dX1_add_21 : decode cX1_add 21 = .ok (.getfield 15, 3) := by decide +kernel
theorem dX1_add_24 : decode cX1_add 24 = .ok (.iconst 1, 1) := by decide +kernel
theorem dX1_add_25 : decode cX1_add 25 = .ok (.iadd, 1) := by decide +kernel
theorem dX1_add_26 : decode cX1_add 26 = .ok (.putfield 15, 3) := by decide +kernel
theorem dX1_add_29 : decode cX1_add 29 = .ok (.aload_n 0, 1) := by decide +kernel
theorem dX1_add_30 : decode cX1_add 30 = .ok (.getfield 15, 3) := by decide +kernel
theorem dX1_add_33 : decode cX1_add 33 = .ok (.ireturn, 1) := by decide +kernel
theorem dX1_drop_0 : decode cX1_drop 0 = .ok (.aload_n 0, 1) := by decide +kernel
theorem dX1_drop_1 : decode cX1_drop 1 = .ok (.iconst 0, 1) := by decide +kernel
theorem dX1_drop_2 : decode cX1_drop 2 = .ok (.putfield 15, 3) := by decide +kernel
theorem dX1_drop_5 : decode cX1_drop 5 = .ok (.return_, 1) := by decide +kernel
set_option maxRecDepth 20000 in
theorem ggX1_play_X1_firstThatCanNotGoOn : GoodIn wsX1_play wsX1_firstThatCanNotGoOn := goodIn_r _ [7, 1, 2, 8, 9, 10, 11, 12, 13, 14, 15, 16, 17, 18, 19, 20, 21, 22, 23, 24, 25, 26, 27, 28, 29, 30, 31, 32, 33, 34, 35, 36, 37, 38, 39, 40, 41, 42, 43, 44, 45, 46, 47, 48, 49, 50, 51, 52, 53, 54, 55, 56, 57, 58, 6, 59, 60, 61, 62, 63, 64, 65, 66, 67, 68, 69, 70, 71, 72, 73, 74, 75, 76, 77, 78, 79, 80, 81, 82, 83, 84, 85, 86, 87, 88, 89, 90, 91, 92, 93, 94, 95, 96, 97, 98, 99, 100, 101, 102, 103, 104, 105, 106, 107, 108, 109, 110, 111, 112, 113, 114, 115, 116, 117, 118, 119, 120, 121, 122, 123, 124, 125, 126, 127, 128, 129, 130, 239, 240] (by decide +kernel) (by decide +kernel)
set_option maxRecDepth 20000 in
theorem gX1_play_X1_firstThatCanNotGoOn : GoodIn wsX1_play (wsV RX1 19 RX1 yX1_firstThatCanNotGoOn wsX1_firstThatCanNotGoOn) := goodIn_app (goodIn_of _ (by decide +kernel)) ggX1_play_X1_firstThatCanNotGoOn
set_option maxRecDepth 20000 in
theorem ggX1_play_X1_happens : GoodIn wsX1_play wsX1_happens := goodIn_r _ [134, 135, 136, 137, 6, 138, 139, 140, 141, 142, 1, 2, 143, 144, 145, 146, 147, 148, 149, 150, 151, 60, 61, 62, 63, 64, 65, 11, 66, 67, 68, 69, 70, 13, 24, 25, 26, 27, 18, 19, 71, 9, 10, 12, 14, 15, 16, 17, 72, 73, 30, 74, 75, 76, 77, 78, 79, 80, 81, 82, 83, 84, 85, 86, 87, 88, 89, 42, 90, 91, 92, 93, 94, 95, 96, 97, 98, 99, 47, 48, 49, 100, 101, 102, 35, 103, 104, 38, 105, 106, 107, 108, 51, 52, 53, 54, 55, 56, 109, 110, 111, 112, 113, 114, 115, 116, 117, 118, 119, 120, 121, 122, 123, 152, 153, 154, 155, 156, 157, 158, 159, 160, 161, 162, 163, 164, 165, 166, 167, 168, 169, 170, 171, 172, 173, 174, 175, 176, 177, 178, 179, 180, 181, 182, 183, 184, 185, 186, 187, 188, 189, 190, 191, 192, 193, 194, 195, 196, 197, 198, 199, 200, 201, 202, 203, 204, 205, 206, 207, 208, 209, 210, 211, 212, 213, 214, 215, 216, 217, 218, 219, 220, 221, 222, 223, 224, 225, 226, 227, 228, 229, 230, 231, 232, 233, 234, 235, 236, 237, 238, 239, 240, 241, 242, 243, 244, 245, 246, 247, 248, 249, 250, 251, 252] (by decide +kernel) (by decide +kernel)
set_option maxRecDepth 20000 in
theorem gX1_play_X1_happens : GoodIn wsX1_play (wsV RX1 23 RX1 yX1_happens wsX1_happens) := goodIn_app (goodIn_of _ (by decide +kernel)) ggX1_play_X1_happens
set_option maxRecDepth 20000 in
theorem ggX1_play_X1_partsBehind : GoodIn wsX1_play wsX1_partsBehind := goodIn_r _ [126] (by decide +kernel) (by decide +kernel)
set_option maxRecDepth 20000 in
theorem gX1_play_X1_partsBehind : GoodIn wsX1_play (va_wsS RX1 27 yX1_partsBehind wsX1_partsBehind) := goodIn_app (goodIn_of _ (by decide +kernel)) ggX1_play_X1_partsBehind
set_option maxRecDepth 20000 in
theorem ggX1_play_J0_length_8abf5 : GoodIn wsX1_play wsJ0_length_8abf5 := goodIn_r _ [12, 13, 14, 15, 16, 11, 17, 18, 19] (by decide +kernel) (by decide +kernel)
set_option maxRecDepth 20000 in
theorem gX1_play_J0_length_8abf5 : GoodIn wsX1_play (wsV RX1 31 RJ0 yJ0_length_8abf5 wsJ0_length_8abf5) := goodIn_app (goodIn_of _ (by decide +kernel)) ggX1_play_J0_length_8abf5
theorem dX1_play_0 : decode cX1_play 0 = .ok (.aload_n 0, 1) := by decide +kernel
theorem dX1_play_1 : decode cX1_play 1 = .ok (.invokevirtual 19, 3) := by decide +kernel
theorem dX1_play_4 : decode cX1_play 4 = .ok (.istore_n 2, 1) := by decide +kernel
theorem dX1_play_5 : decode cX1_play 5 = .ok (.iload_n 2, 1) := by decide +kernel
theorem dX1_play_6 : decode cX1_play 6 = .ok (.bipush (-9), 2) := by decide +kernel
theorem dX1_play_8 : decode cX1_play 8 = .ok (.if_icmp .eq 9, 3) := by decide +kernel
theorem dX1_play_11 : decode cX1_play 11 = .ok (.sipush (-1000), 3) := by decide +kernel
theorem dX1_play_14 : decode cX1_play 14 = .ok (.iload_n 2, 1) := by decide +kernel
theorem dX1_play_15 : decode cX1_play 15 = .ok (.isub, 1) := by decide +kernel
theorem dX1_play_16 : decode cX1_play 16 = .ok (.ireturn, 1) := by decide +kernel
theorem dX1_play_17 : decode cX1_play 17 = .ok (.iconst 0, 1) := by decide +kernel
theorem dX1_play_18 : decode cX1_play 18 = .ok (.istore_n 3, 1) := by decide +kernel
theorem dX1_play_19 : decode cX1_play 19 = .ok (.iconst 0, 1) := by decide +kernel
theorem dX1_play_20 : decode cX1_play 20 = .ok (.istore 4, 2) := by decide +kernel
theorem dX1_play_22 : decode cX1_play 22 = .ok (.iconst 0, 1) := by decide +kernel
theorem dX1_play_23 : decode cX1_play 23 = .ok (.istore 5, 2) := by decide +kernel
theorem dX1_play_25 : decode cX1_play 25 = .ok (.iload 5, 2) := by decide +kernel
theorem dX1_play_27 : decode cX1_play 27 = .ok (.bipush 96, 2) := by decide +kernel
theorem dX1_play_29 : decode cX1_play 29 = .ok (.if_icmp .ge 58, 3) := by decide +kernel
theorem dX1_play_32 : decode cX1_play 32 = .ok (.iload 4, 2) := by decide +kernel
theorem dX1_play_34 : decode cX1_play 34 = .ok (.aload_n 0, 1) := by decide +kernel
theorem dX1_play_35 : decode cX1_play 35 = .ok (.getfield 15, 3) := by decide +kernel
theorem dX1_play_38 : decode cX1_play 38 = .ok (.if_icmp .ge 49, 3) := by decide +kernel
theorem dX1_play_41 : decode cX1_play 41 = .ok (.aload_n 0, 1) := by decide +kernel
theorem dX1_play_42 : decode cX1_play 42 = .ok (.iload 4, 2) := by decide +kernel
theorem dX1_play_44 : decode cX1_play 44 = .ok (.aload_n 1, 1) := by decide +kernel
theorem dX1_play_45 : decode cX1_play 45 = .ok (.invokevirtual 23, 3) := by decide +kernel
theorem dX1_play_48 : decode cX1_play 48 = .ok (.ifCond .ne 10, 3) := by decide +kernel
theorem dX1_play_51 : decode cX1_play 51 = .ok (.sipush (-2000), 3) := by decide +kernel
theorem dX1_play_54 : decode cX1_play 54 = .ok (.iload 4, 2) := by decide +kernel
theorem dX1_play_56 : decode cX1_play 56 = .ok (.isub, 1) := by decide +kernel
theorem dX1_play_57 : decode cX1_play 57 = .ok (.ireturn, 1) := by decide +kernel
theorem dX1_play_58 : decode cX1_play 58 = .ok (.iload 4, 2) := by decide +kernel
theorem dX1_play_60 : decode cX1_play 60 = .ok (.iconst 1, 1) := by decide +kernel
theorem dX1_play_61 : decode cX1_play 61 = .ok (.aload_n 0, 1) := by decide +kernel
theorem dX1_play_62 : decode cX1_play 62 = .ok (.getfield 11, 3) := by decide +kernel
theorem dX1_play_65 : decode cX1_play 65 = .ok (.iload 4, 2) := by decide +kernel
theorem dX1_play_67 : decode cX1_play 67 = .ok (.iaload, 1) := by decide +kernel
theorem dX1_play_68 : decode cX1_play 68 = .ok (.invokestatic 27, 3) := by decide +kernel
theorem dX1_play_71 : decode cX1_play 71 = .ok (.invokevirtual 31, 3) := by decide +kernel
theorem dX1_play_74 : decode cX1_play 74 = .ok (.iadd, 1) := by decide +kernel
theorem dX1_play_75 : decode cX1_play 75 = .ok (.iadd, 1) := by decide +kernel
theorem dX1_play_76 : decode cX1_play 76 = .ok (.istore 4, 2) := by decide +kernel
theorem dX1_play_78 : decode cX1_play 78 = .ok (.iinc 3 1, 3) := by decide +kernel
theorem dX1_play_81 : decode cX1_play 81 = .ok (.iinc 5 1, 3) := by decide +kernel
theorem dX1_play_84 : decode cX1_play 84 = .ok (.goto (-59), 3) := by decide +kernel
theorem dX1_play_87 : decode cX1_play 87 = .ok (.iload_n 3, 1) := by decide +kernel
theorem dX1_play_88 : decode cX1_play 88 = .ok (.ireturn, 1) := by decide +kernel
set_option maxRecDepth 20000 in
theorem ggX1_firstThatCanNotGoOn_J0_length_8abf5 : GoodIn wsX1_firstThatCanNotGoOn wsJ0_length_8abf5 := goodIn_r _ [7, 8, 9, 10, 11, 6, 12, 13, 14] (by decide +kernel) (by decide +kernel)
set_option maxRecDepth 20000 in
theorem gX1_firstThatCanNotGoOn_J0_length_8abf5 : GoodIn wsX1_firstThatCanNotGoOn (wsV RX1 31 RJ0 yJ0_length_8abf5 wsJ0_length_8abf5) := goodIn_app (goodIn_of _ (by decide +kernel)) ggX1_firstThatCanNotGoOn_J0_length_8abf5
set_option maxRecDepth 20000 in
theorem ggX1_firstThatCanNotGoOn_J0_charAt_5068e : GoodIn wsX1_firstThatCanNotGoOn wsJ0_charAt_5068e := goodIn_r _ [18, 8, 19, 20, 21, 6, 22, 13, 14, 23, 24, 25, 26, 27, 28, 29, 30, 31, 32, 33, 34, 35, 36, 37, 38, 39, 40, 41, 42, 43, 44, 45, 46, 47, 48, 49, 50, 51] (by decide +kernel) (by decide +kernel)
set_option maxRecDepth 20000 in
theorem gX1_firstThatCanNotGoOn_J0_charAt_5068e : GoodIn wsX1_firstThatCanNotGoOn (wsV RX1 38 RJ0 yJ0_charAt_5068e wsJ0_charAt_5068e) := goodIn_app (goodIn_of _ (by decide +kernel)) ggX1_firstThatCanNotGoOn_J0_charAt_5068e
set_option maxRecDepth 20000 in
theorem ggX1_firstThatCanNotGoOn_X1_fits : GoodIn wsX1_firstThatCanNotGoOn wsX1_fits := goodIn_r _ [55, 56, 57, 54, 58, 59, 60, 61, 6, 62, 63, 64, 65, 66, 8, 19, 20, 21, 22, 13, 14, 67, 4, 5, 7, 9, 10, 11, 12, 68, 69, 25, 70, 71, 72, 73, 74, 75, 76, 77, 78, 79, 80, 81, 82, 83, 84, 85, 37, 86, 87, 88, 89, 90, 91, 92, 93, 94, 95, 42, 43, 44, 96, 97, 98, 30, 99, 100, 33, 101, 102, 103, 104, 46, 47, 48, 49, 50, 51, 105, 106, 107, 108, 109, 110, 111, 112, 113, 114, 115, 116, 117, 118, 119] (by decide +kernel) (by decide +kernel)
set_option maxRecDepth 20000 in
theorem gX1_firstThatCanNotGoOn_X1_fits : GoodIn wsX1_firstThatCanNotGoOn (va_wsS RX1 42 yX1_fits wsX1_fits) := goodIn_app (goodIn_of _ (by decide +kernel)) ggX1_firstThatCanNotGoOn_X1_fits
set_option maxRecDepth 20000 in
theorem ggX1_firstThatCanNotGoOn_X1_partsBehind : GoodIn wsX1_firstThatCanNotGoOn wsX1_partsBehind := goodIn_r _ [122] (by decide +kernel) (by decide +kernel)
set_option maxRecDepth 20000 in
theorem gX1_firstThatCanNotGoOn_X1_partsBehind : GoodIn wsX1_firstThatCanNotGoOn (va_wsS RX1 27 yX1_partsBehind wsX1_partsBehind) := goodIn_app (goodIn_of _ (by decide +kernel)) ggX1_firstThatCanNotGoOn_X1_partsBehind
set_option maxRecDepth 20000 in
theorem ggX1_firstThatCanNotGoOn_J0_isEmpty_aae02 : GoodIn wsX1_firstThatCanNotGoOn wsJ0_isEmpty_aae02 := goodIn_r _ [126, 8] (by decide +kernel) (by decide +kernel)
set_option maxRecDepth 20000 in
theorem gX1_firstThatCanNotGoOn_J0_isEmpty_aae02 : GoodIn wsX1_firstThatCanNotGoOn (wsV RX1 46 RJ0 yJ0_isEmpty_aae02 wsJ0_isEmpty_aae02) := goodIn_app (goodIn_of _ (by decide +kernel)) ggX1_firstThatCanNotGoOn_J0_isEmpty_aae02
theorem dX1_firstThatCanNotGoOn_0 : decode cX1_firstThatCanNotGoOn 0 = .ok (.ldc 36, 2) := by decide +kernel
theorem dX1_firstThatCanNotGoOn_2 : decode cX1_firstThatCanNotGoOn 2 = .ok (.astore_n 1, 1) := by decide +kernel
theorem dX1_firstThatCanNotGoOn_3 : decode cX1_firstThatCanNotGoOn 3 = .ok (.iconst 0, 1) := by decide +kernel
theorem dX1_firstThatCanNotGoOn_4 : decode cX1_firstThatCanNotGoOn 4 = .ok (.istore_n 2, 1) := by decide +kernel
theorem dX1_firstThatCanNotGoOn_5 : decode cX1_firstThatCanNotGoOn 5 = .ok (.iconst 0, 1) := by decide +kernel
theorem dX1_firstThatCanNotGoOn_6 : decode cX1_firstThatCanNotGoOn 6 = .ok (.istore_n 3, 1) := by decide +kernel
theorem dX1_firstThatCanNotGoOn_7 : decode cX1_firstThatCanNotGoOn 7 = .ok (.iload_n 3, 1) := by decide +kernel
theorem dX1_firstThatCanNotGoOn_8 : decode cX1_firstThatCanNotGoOn 8 = .ok (.aload_n 0, 1) := by decide +kernel
theorem dX1_firstThatCanNotGoOn_9 : decode cX1_firstThatCanNotGoOn 9 = .ok (.getfield 15, 3) := by decide +kernel
theorem dX1_firstThatCanNotGoOn_12 : decode cX1_firstThatCanNotGoOn 12 = .ok (.if_icmp .ge 63, 3) := by decide +kernel
theorem dX1_firstThatCanNotGoOn_15 : decode cX1_firstThatCanNotGoOn 15 = .ok (.iload_n 2, 1) := by decide +kernel
theorem dX1_firstThatCanNotGoOn_16 : decode cX1_firstThatCanNotGoOn 16 = .ok (.aload_n 1, 1) := by decide +kernel
theorem dX1_firstThatCanNotGoOn_17 : decode cX1_firstThatCanNotGoOn 17 = .ok (.invokevirtual 31, 3) := by decide +kernel
theorem dX1_firstThatCanNotGoOn_20 : decode cX1_firstThatCanNotGoOn 20 = .ok (.if_icmp .ge 28, 3) := by decide +kernel
theorem dX1_firstThatCanNotGoOn_23 : decode cX1_firstThatCanNotGoOn 23 = .ok (.aload_n 0, 1) := by decide +kernel
theorem dX1_firstThatCanNotGoOn_24 : decode cX1_firstThatCanNotGoOn 24 = .ok (.getfield 11, 3) := by decide +kernel
theorem dX1_firstThatCanNotGoOn_27 : decode cX1_firstThatCanNotGoOn 27 = .ok (.iload_n 3, 1) := by decide +kernel
theorem dX1_firstThatCanNotGoOn_28 : decode cX1_firstThatCanNotGoOn 28 = .ok (.iaload, 1) := by decide +kernel
theorem dX1_firstThatCanNotGoOn_29 : decode cX1_firstThatCanNotGoOn 29 = .ok (.aload_n 1, 1) := by decide +kernel
theorem dX1_firstThatCanNotGoOn_30 : decode cX1_firstThatCanNotGoOn 30 = .ok (.iload_n 2, 1) := by decide +kernel
theorem dX1_firstThatCanNotGoOn_31 : decode cX1_firstThatCanNotGoOn 31 = .ok (.invokevirtual 38, 3) := by decide +kernel
theorem dX1_firstThatCanNotGoOn_34 : decode cX1_firstThatCanNotGoOn 34 = .ok (.invokestatic 42, 3) := by decide +kernel
theorem dX1_firstThatCanNotGoOn_37 : decode cX1_firstThatCanNotGoOn 37 = .ok (.ifCond .ne 5, 3) := by decide +kernel
theorem dX1_firstThatCanNotGoOn_40 : decode cX1_firstThatCanNotGoOn 40 = .ok (.iload_n 3, 1) := by decide +kernel
theorem dX1_firstThatCanNotGoOn_41 : decode cX1_firstThatCanNotGoOn 41 = .ok (.ireturn, 1) := by decide +kernel
theorem dX1_firstThatCanNotGoOn_42 : decode cX1_firstThatCanNotGoOn 42 = .ok (.iinc 2 1, 3) := by decide +kernel
theorem dX1_firstThatCanNotGoOn_45 : decode cX1_firstThatCanNotGoOn 45 = .ok (.goto 24, 3) := by decide +kernel
theorem dX1_firstThatCanNotGoOn_48 : decode cX1_firstThatCanNotGoOn 48 = .ok (.aload_n 0, 1) := by decide +kernel
theorem dX1_firstThatCanNotGoOn_49 : decode cX1_firstThatCanNotGoOn 49 = .ok (.getfield 11, 3) := by decide +kernel
theorem dX1_firstThatCanNotGoOn_52 : decode cX1_firstThatCanNotGoOn 52 = .ok (.iload_n 3, 1) := by decide +kernel
theorem dX1_firstThatCanNotGoOn_53 : decode cX1_firstThatCanNotGoOn 53 = .ok (.iaload, 1) := by decide +kernel
theorem dX1_firstThatCanNotGoOn_54 : decode cX1_firstThatCanNotGoOn 54 = .ok (.invokestatic 27, 3) := by decide +kernel
theorem dX1_firstThatCanNotGoOn_57 : decode cX1_firstThatCanNotGoOn 57 = .ok (.astore_n 1, 1) := by decide +kernel
theorem dX1_firstThatCanNotGoOn_58 : decode cX1_firstThatCanNotGoOn 58 = .ok (.iconst 0, 1) := by decide +kernel
theorem dX1_firstThatCanNotGoOn_59 : decode cX1_firstThatCanNotGoOn 59 = .ok (.istore_n 2, 1) := by decide +kernel
theorem dX1_firstThatCanNotGoOn_60 : decode cX1_firstThatCanNotGoOn 60 = .ok (.aload_n 1, 1) := by decide +kernel
theorem dX1_firstThatCanNotGoOn_61 : decode cX1_firstThatCanNotGoOn 61 = .ok (.invokevirtual 46, 3) := by decide +kernel
theorem dX1_firstThatCanNotGoOn_64 : decode cX1_firstThatCanNotGoOn 64 = .ok (.ifCond .eq 5, 3) := by decide +kernel
theorem dX1_firstThatCanNotGoOn_67 : decode cX1_firstThatCanNotGoOn 67 = .ok (.iload_n 3, 1) := by decide +kernel
theorem dX1_firstThatCanNotGoOn_68 : decode cX1_firstThatCanNotGoOn 68 = .ok (.ireturn, 1) := by decide +kernel
theorem dX1_firstThatCanNotGoOn_69 : decode cX1_firstThatCanNotGoOn 69 = .ok (.iinc 3 1, 3) := by decide +kernel
theorem dX1_firstThatCanNotGoOn_72 : decode cX1_firstThatCanNotGoOn 72 = .ok (.goto (-65), 3) := by decide +kernel
theorem dX1_firstThatCanNotGoOn_75 : decode cX1_firstThatCanNotGoOn 75 = .ok (.aload_n 0, 1) := by decide +kernel
theorem dX1_firstThatCanNotGoOn_76 : decode cX1_firstThatCanNotGoOn 76 = .ok (.getfield 15, 3) := by decide +kernel
theorem dX1_firstThatCanNotGoOn_79 : decode cX1_firstThatCanNotGoOn 79 = .ok (.ifCond .eq 11, 3) := by decide +kernel
theorem dX1_firstThatCanNotGoOn_82 : decode cX1_firstThatCanNotGoOn 82 = .ok (.iload_n 2, 1) := by decide +kernel
theorem dX1_firstThatCanNotGoOn_83 : decode cX1_firstThatCanNotGoOn 83 = .ok (.aload_n 1, 1) := by decide +kernel
theorem dX1_firstThatCanNotGoOn_84 : decode cX1_firstThatCanNotGoOn 84 = .ok (.invokevirtual 31, 3) := by decide +kernel
theorem dX1_firstThatCanNotGoOn_87 : decode cX1_firstThatCanNotGoOn 87 = .ok (.if_icmp .ge 10, 3) := by decide +kernel
theorem dX1_firstThatCanNotGoOn_90 : decode cX1_firstThatCanNotGoOn 90 = .ok (.aload_n 0, 1) := by decide +kernel
theorem dX1_firstThatCanNotGoOn_91 : decode cX1_firstThatCanNotGoOn 91 = .ok (.getfield 15, 3) := by decide +kernel
theorem dX1_firstThatCanNotGoOn_94 : decode cX1_firstThatCanNotGoOn 94 = .ok (.goto 5, 3) := by decide +kernel
theorem dX1_firstThatCanNotGoOn_97 : decode cX1_firstThatCanNotGoOn 97 = .ok (.bipush (-9), 2) := by decide +kernel
theorem dX1_firstThatCanNotGoOn_99 : decode cX1_firstThatCanNotGoOn 99 = .ok (.ireturn, 1) := by decide +kernel
theorem dX1_partsBehind_0 : decode cX1_partsBehind 0 = .ok (.iload_n 0, 1) := by decide +kernel
theorem dX1_partsBehind_1 : decode cX1_partsBehind 1 = .ok (.lookupswitch 77 #[(98, 68), (109, 62), (115, 59), (116, 65), (118, 71), (119, 74)], 59) := by decide +kernel
theorem dX1_partsBehind_60 : decode cX1_partsBehind 60 = .ok (.ldc 50, 2) := by decide +kernel
theorem dX1_partsBehind_62 : decode cX1_partsBehind 62 = .ok (.areturn, 1) := by decide +kernel
theorem dX1_partsBehind_63 : decode cX1_partsBehind 63 = .ok (.ldc 52, 2) := by decide +kernel
theorem dX1_partsBehind_65 : decode cX1_partsBehind 65 = .ok (.areturn, 1) := by decide +kernel
theorem dX1_partsBehind_66 : decode cX1_partsBehind 66 = .ok (.ldc 50, 2) := by decide +kernel
theorem dX1_partsBehind_68 : decode cX1_partsBehind 68 = .ok (.areturn, 1) := by decide +kernel
theorem dX1_partsBehind_69 : decode cX1_partsBehind 69 = .ok (.ldc 54, 2) := by decide +kernel
theorem dX1_partsBehind_71 : decode cX1_partsBehind 71 = .ok (.areturn, 1) := by decide +kernel
theorem dX1_partsBehind_72 : decode cX1_partsBehind 72 = .ok (.ldc 54, 2) := by decide +kernel
theorem dX1_partsBehind_74 : decode cX1_partsBehind 74 = .ok (.areturn, 1) := by decide +kernel
theorem dX1_partsBehind_75 : decode cX1_partsBehind 75 = .ok (.ldc 54, 2) := by decide +kernel
theorem dX1_partsBehind_77 : decode cX1_partsBehind 77 = .ok (.areturn, 1) := by decide +kernel
theorem dX1_partsBehind_78 : decode cX1_partsBehind 78 = .ok (.ldc 36, 2) := by decide +kernel
theorem dX1_partsBehind_80 : decode cX1_partsBehind 80 = .ok (.areturn, 1) := by decide +kernel
set_option maxRecDepth 20000 in
theorem ggX1_fits_X1_kindOf : GoodIn wsX1_fits wsX1_kindOf := goodIn_r _ [4, 5, 6, 7, 8, 9, 10, 11, 12, 13, 14, 15, 16, 17, 18, 19, 20, 21, 22, 23, 24, 25, 26, 27, 28, 29, 30, 31, 32, 33, 34, 35, 36, 37, 38, 39, 40, 41, 42, 43, 44, 45, 46, 47, 48, 49, 50, 51, 52, 53, 54, 55, 56, 57, 58, 59, 60, 61, 62, 63, 64, 65, 66, 67, 68, 69, 70, 71, 72, 73, 74, 75, 76, 77, 78, 79, 80, 81, 82, 83, 84, 85, 86, 87, 88, 89, 90, 91, 92, 93] (by decide +kernel) (by decide +kernel)
set_option maxRecDepth 20000 in
theorem gX1_fits_X1_kindOf : GoodIn wsX1_fits (va_wsS RX1 56 yX1_kindOf wsX1_kindOf) := goodIn_app (goodIn_of _ (by decide +kernel)) ggX1_fits_X1_kindOf
theorem dX1_fits_0 : decode cX1_fits 0 = .ok (.iload_n 1, 1) := by decide +kernel
theorem dX1_fits_1 : decode cX1_fits 1 = .ok (.lookupswitch 58 #[(57, 40), (107, 27)], 27) := by decide +kernel
theorem dX1_fits_28 : decode cX1_fits 28 = .ok (.iload_n 0, 1) := by decide +kernel
theorem dX1_fits_29 : decode cX1_fits 29 = .ok (.invokestatic 56, 3) := by decide +kernel
theorem dX1_fits_32 : decode cX1_fits 32 = .ok (.ifCond .lt 7, 3) := by decide +kernel
theorem dX1_fits_35 : decode cX1_fits 35 = .ok (.iconst 1, 1) := by decide +kernel
theorem dX1_fits_36 : decode cX1_fits 36 = .ok (.goto 4, 3) := by decide +kernel
theorem dX1_fits_39 : decode cX1_fits 39 = .ok (.iconst 0, 1) := by decide +kernel
theorem dX1_fits_40 : decode cX1_fits 40 = .ok (.ireturn, 1) := by decide +kernel
theorem dX1_fits_41 : decode cX1_fits 41 = .ok (.iload_n 0, 1) := by decide +kernel
theorem dX1_fits_42 : decode cX1_fits 42 = .ok (.bipush 48, 2) := by decide +kernel
theorem dX1_fits_44 : decode cX1_fits 44 = .ok (.if_icmp .lt 13, 3) := by decide +kernel
theorem dX1_fits_47 : decode cX1_fits 47 = .ok (.iload_n 0, 1) := by decide +kernel
theorem dX1_fits_48 : decode cX1_fits 48 = .ok (.bipush 57, 2) := by decide +kernel
theorem dX1_fits_50 : decode cX1_fits 50 = .ok (.if_icmp .gt 7, 3) := by decide +kernel
theorem dX1_fits_53 : decode cX1_fits 53 = .ok (.iconst 1, 1) := by decide +kernel
theorem dX1_fits_54 : decode cX1_fits 54 = .ok (.goto 4, 3) := by decide +kernel
theorem dX1_fits_57 : decode cX1_fits 57 = .ok (.iconst 0, 1) := by decide +kernel
theorem dX1_fits_58 : decode cX1_fits 58 = .ok (.ireturn, 1) := by decide +kernel
theorem dX1_fits_59 : decode cX1_fits 59 = .ok (.iload_n 0, 1) := by decide +kernel
theorem dX1_fits_60 : decode cX1_fits 60 = .ok (.iload_n 1, 1) := by decide +kernel
theorem dX1_fits_61 : decode cX1_fits 61 = .ok (.if_icmp .ne 7, 3) := by decide +kernel
theorem dX1_fits_64 : decode cX1_fits 64 = .ok (.iconst 1, 1) := by decide +kernel
theorem dX1_fits_65 : decode cX1_fits 65 = .ok (.goto 4, 3) := by decide +kernel
theorem dX1_fits_68 : decode cX1_fits 68 = .ok (.iconst 0, 1) := by decide +kernel
theorem dX1_fits_69 : decode cX1_fits 69 = .ok (.ireturn, 1) := by decide +kernel
set_option maxRecDepth 20000 in
theorem ggX1_kindOf_J0_indexOf_0f7a4 : GoodIn wsX1_kindOf wsJ0_indexOf_0f7a4 := goodIn_r _ [5, 6, 7, 8, 4, 9, 10, 11, 12, 13, 14, 15, 16, 17, 18, 19, 20, 21, 22, 23, 24, 25, 26, 27, 28, 29, 30, 31, 32, 33, 34, 35, 36, 37, 38, 39, 40, 41, 42, 43, 44, 45, 46, 47, 48, 49, 50, 51, 52, 53, 54, 55, 56, 57, 58, 59, 60, 61, 62, 63, 64, 65, 66, 67, 68, 69, 70, 71, 72, 73, 74, 75, 76, 77, 78, 79, 80, 81, 82, 83, 84, 85, 86, 87, 88, 89] (by decide +kernel) (by decide +kernel)
set_option maxRecDepth 20000 in
theorem gX1_kindOf_J0_indexOf_0f7a4 : GoodIn wsX1_kindOf (wsV RX1 62 RJ0 yJ0_indexOf_0f7a4 wsJ0_indexOf_0f7a4) := goodIn_app (goodIn_of _ (by decide +kernel)) ggX1_kindOf_J0_indexOf_0f7a4
theorem dX1_kindOf_0 : decode cX1_kindOf 0 = .ok (.ldc 60, 2) := by decide +kernel
theorem dX1_kindOf_2 : decode cX1_kindOf 2 = .ok (.iload_n 0, 1) := by decide +kernel
theorem dX1_kindOf_3 : decode cX1_kindOf 3 = .ok (.i2c, 1) := by decide +kernel
theorem dX1_kindOf_4 : decode cX1_kindOf 4 = .ok (.invokevirtual 62, 3) := by decide +kernel
theorem dX1_kindOf_7 : decode cX1_kindOf 7 = .ok (.ireturn, 1) := by decide +kernel
set_option maxRecDepth 20000 in
theorem ggX1_happens_X1_digit : GoodIn wsX1_happens wsX1_digit := goodIn_r _ [5, 6, 7, 8, 4, 9, 10, 11, 200, 201] (by decide +kernel) (by decide +kernel)
set_option maxRecDepth 20000 in
theorem gX1_happens_X1_digit : GoodIn wsX1_happens (wsV RX1 65 RX1 yX1_digit wsX1_digit) := goodIn_app (goodIn_of _ (by decide +kernel)) ggX1_happens_X1_digit
set_option maxRecDepth 20000 in
theorem ggX1_happens_X1_signAt : GoodIn wsX1_happens wsX1_signAt := goodIn_r _ [9, 10, 11, 200, 201] (by decide +kernel) (by decide +kernel)
set_option maxRecDepth 20000 in
theorem gX1_happens_X1_signAt : GoodIn wsX1_happens (wsV RX1 68 RX1 yX1_signAt wsX1_signAt) := goodIn_app (goodIn_of _ (by decide +kernel)) ggX1_happens_X1_signAt
set_option maxRecDepth 20000 in
theorem ggX1_happens_X0_addShip : GoodIn wsX1_happens wsX0_addShip := goodIn_r _ [16, 17, 18, 19, 20, 202, 203, 204, 205, 206, 207, 208, 209, 210, 211, 212, 213] (by decide +kernel) (by decide +kernel)
set_option maxRecDepth 20000 in
theorem gX1_happens_X0_addShip : GoodIn wsX1_happens (wsV RX1 71 RX0 yX0_addShip wsX0_addShip) := goodIn_app (goodIn_of _ (by decide +kernel)) ggX1_happens_X0_addShip
set_option maxRecDepth 20000 in
theorem ggX1_happens_X1_kindOf : GoodIn wsX1_happens wsX1_kindOf := goodIn_r _ [23, 24, 25, 26, 27, 28, 29, 30, 31, 32, 33, 34, 35, 36, 37, 38, 39, 40, 41, 42, 43, 44, 45, 46, 47, 48, 49, 50, 51, 52, 53, 54, 55, 56, 57, 58, 59, 60, 61, 62, 63, 64, 65, 66, 67, 68, 69, 70, 71, 72, 73, 74, 75, 76, 77, 78, 79, 80, 81, 82, 83, 84, 85, 86, 87, 88, 89, 90, 91, 92, 93, 94, 95, 96, 97, 98, 99, 100, 101, 102, 103, 104, 105, 106, 107, 108, 109, 110, 111, 112] (by decide +kernel) (by decide +kernel)
set_option maxRecDepth 20000 in
theorem gX1_happens_X1_kindOf : GoodIn wsX1_happens (va_wsS RX1 56 yX1_kindOf wsX1_kindOf) := goodIn_app (goodIn_of _ (by decide +kernel)) ggX1_happens_X1_kindOf
set_option maxRecDepth 20000 in
theorem ggX1_happens_X0_addMan : GoodIn wsX1_happens wsX0_addMan := goodIn_r _ [116, 117, 118, 119, 120, 121, 122, 123, 124, 15, 125, 17, 202, 203, 204, 205, 206, 207, 208, 209, 210, 211, 212, 213] (by decide +kernel) (by decide +kernel)
set_option maxRecDepth 20000 in
theorem gX1_happens_X0_addMan : GoodIn wsX1_happens (wsV RX1 77 RX0 yX0_addMan wsX0_addMan) := goodIn_app (goodIn_of _ (by decide +kernel)) ggX1_happens_X0_addMan
set_option maxRecDepth 20000 in
theorem ggX1_happens_X0_canTell : GoodIn wsX1_happens wsX0_canTell := goodIn_r _ [129, 120, 121, 130, 131, 132, 15, 133, 117, 134, 135, 136, 137, 20, 202, 203, 204, 205, 206, 207, 208, 209, 210, 211, 212, 213] (by decide +kernel) (by decide +kernel)
set_option maxRecDepth 20000 in
theorem gX1_happens_X0_canTell : GoodIn wsX1_happens (wsV RX1 81 RX0 yX0_canTell wsX0_canTell) := goodIn_app (goodIn_of _ (by decide +kernel)) ggX1_happens_X0_canTell
set_option maxRecDepth 20000 in
theorem ggX1_happens_X0_word : GoodIn wsX1_happens wsX0_word := goodIn_r _ [141, 120, 142, 143, 57, 54, 58, 17, 121, 144, 127, 128, 15, 129, 130, 131, 132, 133, 117, 134, 135, 136, 137, 20, 145, 146, 147, 148, 119, 118, 149, 53, 55, 150, 151, 152, 153, 154, 155, 156, 157, 158, 159, 160, 161, 162, 19, 163, 164, 165, 166, 167, 168, 169, 170, 18, 202, 203, 204, 205, 206, 207, 208, 209, 210, 211, 212, 213] (by decide +kernel) (by decide +kernel)
set_option maxRecDepth 20000 in
theorem gX1_happens_X0_word : GoodIn wsX1_happens (wsV RX1 84 RX0 yX0_word wsX0_word) := goodIn_app (goodIn_of _ (by decide +kernel)) ggX1_happens_X0_word
set_option maxRecDepth 20000 in
theorem ggX1_happens_X1_boardingHappens : GoodIn wsX1_happens wsX1_boardingHappens := goodIn_r _ [173, 174, 175, 131, 132, 15, 133, 117, 176, 123, 124, 125, 17, 202, 203, 204, 205, 206, 207, 208, 209, 210, 211, 212, 213] (by decide +kernel) (by decide +kernel)
set_option maxRecDepth 20000 in
theorem gX1_happens_X1_boardingHappens : GoodIn wsX1_happens (va_wsS RX1 87 yX1_boardingHappens wsX1_boardingHappens) := goodIn_app (goodIn_of _ (by decide +kernel)) ggX1_happens_X1_boardingHappens
set_option maxRecDepth 20000 in
theorem ggX1_happens_X1_sinsHappen : GoodIn wsX1_happens wsX1_sinsHappen := goodIn_r _ [179, 180, 175, 131, 132, 15, 133, 117, 202, 203, 204, 205, 206, 207, 208, 209, 210, 211, 212, 213] (by decide +kernel) (by decide +kernel)
set_option maxRecDepth 20000 in
theorem gX1_happens_X1_sinsHappen : GoodIn wsX1_happens (va_wsS RX1 91 yX1_sinsHappen wsX1_sinsHappen) := goodIn_app (goodIn_of _ (by decide +kernel)) ggX1_happens_X1_sinsHappen
set_option maxRecDepth 20000 in
theorem ggX1_happens_X1_tidesHappen : GoodIn wsX1_happens wsX1_tidesHappen := goodIn_r _ [183, 184, 185, 186, 15, 187, 154, 188, 189, 190, 191, 192, 193, 194, 195, 117, 121, 120, 143, 57, 54, 58, 17, 20, 134, 135, 136, 137, 196, 197, 198, 199, 118, 202, 203, 204, 205, 206, 207, 208, 209, 210, 211, 212, 213] (by decide +kernel) (by decide +kernel)
set_option maxRecDepth 20000 in
theorem gX1_happens_X1_tidesHappen : GoodIn wsX1_happens (va_wsS RX1 94 yX1_tidesHappen wsX1_tidesHappen) := goodIn_app (goodIn_of _ (by decide +kernel)) ggX1_happens_X1_tidesHappen
theorem dX1_happens_0 : decode cX1_happens 0 = .ok (.aload_n 0, 1) := by decide +kernel
theorem dX1_happens_1 : decode cX1_happens 1 = .ok (.iload_n 1, 1) := by decide +kernel
theorem dX1_happens_2 : decode cX1_happens 2 = .ok (.iconst 1, 1) := by decide +kernel
theorem dX1_happens_3 : decode cX1_happens 3 = .ok (.iadd, 1) := by decide +kernel
theorem dX1_happens_4 : decode cX1_happens 4 = .ok (.invokevirtual 65, 3) := by decide +kernel
theorem dX1_happens_7 : decode cX1_happens 7 = .ok (.istore_n 3, 1) := by decide +kernel
theorem dX1_happens_8 : decode cX1_happens 8 = .ok (.aload_n 0, 1) := by decide +kernel
theorem dX1_happens_9 : decode cX1_happens 9 = .ok (.iload_n 1, 1) := by decide +kernel
theorem dX1_happens_10 : decode cX1_happens 10 = .ok (.iconst 2, 1) := by decide +kernel
theorem dX1_happens_11 : decode cX1_happens 11 = .ok (.iadd, 1) := by decide +kernel
theorem dX1_happens_12 : decode cX1_happens 12 = .ok (.invokevirtual 65, 3) := by decide +kernel
theorem dX1_happens_15 : decode cX1_happens 15 = .ok (.istore 4, 2) := by decide +kernel
theorem dX1_happens_17 : decode cX1_happens 17 = .ok (.aload_n 0, 1) := by decide +kernel
theorem dX1_happens_18 : decode cX1_happens 18 = .ok (.iload_n 1, 1) := by decide +kernel
theorem dX1_happens_19 : decode cX1_happens 19 = .ok (.invokevirtual 68, 3) := by decide +kernel
theorem dX1_happens_22 : decode cX1_happens 22 = .ok (.lookupswitch 145 #[(98, 117), (109, 64), (115, 58), (116, 95), (118, 125), (119, 133)], 58) := by decide +kernel
theorem dX1_happens_80 : decode cX1_happens 80 = .ok (.aload_n 2, 1) := by decide +kernel
theorem dX1_happens_81 : decode cX1_happens 81 = .ok (.iload_n 3, 1) := by decide +kernel
theorem dX1_happens_82 : decode cX1_happens 82 = .ok (.invokevirtual 71, 3) := by decide +kernel
theorem dX1_happens_85 : decode cX1_happens 85 = .ok (.ireturn, 1) := by decide +kernel
theorem dX1_happens_86 : decode cX1_happens 86 = .ok (.aload_n 2, 1) := by decide +kernel
theorem dX1_happens_87 : decode cX1_happens 87 = .ok (.aload_n 0, 1) := by decide +kernel
theorem dX1_happens_88 : decode cX1_happens 88 = .ok (.iload_n 1, 1) := by decide +kernel
theorem dX1_happens_89 : decode cX1_happens 89 = .ok (.iconst 1, 1) := by decide +kernel
theorem dX1_happens_90 : decode cX1_happens 90 = .ok (.iadd, 1) := by decide +kernel
theorem dX1_happens_91 : decode cX1_happens 91 = .ok (.invokevirtual 68, 3) := by decide +kernel
theorem dX1_happens_94 : decode cX1_happens 94 = .ok (.invokestatic 56, 3) := by decide +kernel
theorem dX1_happens_97 : decode cX1_happens 97 = .ok (.iload 4, 2) := by decide +kernel
theorem dX1_happens_99 : decode cX1_happens 99 = .ok (.aload_n 0, 1) := by decide +kernel
theorem dX1_happens_100 : decode cX1_happens 100 = .ok (.iload_n 1, 1) := by decide +kernel
theorem dX1_happens_101 : decode cX1_happens 101 = .ok (.iconst 3, 1) := by decide +kernel
theorem dX1_happens_102 : decode cX1_happens 102 = .ok (.iadd, 1) := by decide +kernel
theorem dX1_happens_103 : decode cX1_happens 103 = .ok (.invokevirtual 65, 3) := by decide +kernel
theorem dX1_happens_106 : decode cX1_happens 106 = .ok (.aload_n 0, 1) := by decide +kernel
theorem dX1_happens_107 : decode cX1_happens 107 = .ok (.iload_n 1, 1) := by decide +kernel
theorem dX1_happens_108 : decode cX1_happens 108 = .ok (.iconst 4, 1) := by decide +kernel
theorem dX1_happens_109 : decode cX1_happens 109 = .ok (.iadd, 1) := by decide +kernel
theorem dX1_happens_110 : decode cX1_happens 110 = .ok (.invokevirtual 65, 3) := by decide +kernel
theorem dX1_happens_113 : decode cX1_happens 113 = .ok (.invokevirtual 77, 3) := by decide +kernel
theorem dX1_happens_116 : decode cX1_happens 116 = .ok (.ireturn, 1) := by decide +kernel
theorem dX1_happens_117 : decode cX1_happens 117 = .ok (.aload_n 2, 1) := by decide +kernel
theorem dX1_happens_118 : decode cX1_happens 118 = .ok (.iload_n 3, 1) := by decide +kernel
theorem dX1_happens_119 : decode cX1_happens 119 = .ok (.invokevirtual 81, 3) := by decide +kernel
theorem dX1_happens_122 : decode cX1_happens 122 = .ok (.ifCond .eq 15, 3) := by decide +kernel
theorem dX1_happens_125 : decode cX1_happens 125 = .ok (.aload_n 2, 1) := by decide +kernel
theorem dX1_happens_126 : decode cX1_happens 126 = .ok (.iload_n 3, 1) := by decide +kernel
theorem dX1_happens_127 : decode cX1_happens 127 = .ok (.invokevirtual 84, 3) := by decide +kernel
theorem dX1_happens_130 : decode cX1_happens 130 = .ok (.ifCond .lt 7, 3) := by decide +kernel
theorem dX1_happens_133 : decode cX1_happens 133 = .ok (.iconst 1, 1) := by decide +kernel
theorem dX1_happens_134 : decode cX1_happens 134 = .ok (.goto 4, 3) := by decide +kernel
theorem dX1_happens_137 : decode cX1_happens 137 = .ok (.iconst 0, 1) := by decide +kernel
theorem dX1_happens_138 : decode cX1_happens 138 = .ok (.ireturn, 1) := by decide +kernel
theorem dX1_happens_139 : decode cX1_happens 139 = .ok (.iload_n 3, 1) := by decide +kernel
theorem dX1_happens_140 : decode cX1_happens 140 = .ok (.iload 4, 2) := by decide +kernel
theorem dX1_happens_142 : decode cX1_happens 142 = .ok (.aload_n 2, 1) := by decide +kernel
theorem dX1_happens_143 : decode cX1_happens 143 = .ok (.invokestatic 87, 3) := by decide +kernel
theorem dX1_happens_146 : decode cX1_happens 146 = .ok (.ireturn, 1) := by decide +kernel
theorem dX1_happens_147 : decode cX1_happens 147 = .ok (.iload_n 3, 1) := by decide +kernel
theorem dX1_happens_148 : decode cX1_happens 148 = .ok (.iload 4, 2) := by decide +kernel
theorem dX1_happens_150 : decode cX1_happens 150 = .ok (.aload_n 2, 1) := by decide +kernel
theorem dX1_happens_151 : decode cX1_happens 151 = .ok (.invokestatic 91, 3) := by decide +kernel
theorem dX1_happens_154 : decode cX1_happens 154 = .ok (.ireturn, 1) := by decide +kernel
theorem dX1_happens_155 : decode cX1_happens 155 = .ok (.bipush 10, 2) := by decide +kernel
theorem dX1_happens_157 : decode cX1_happens 157 = .ok (.iload_n 3, 1) := by decide +kernel
theorem dX1_happens_158 : decode cX1_happens 158 = .ok (.imul, 1) := by decide +kernel
theorem dX1_happens_159 : decode cX1_happens 159 = .ok (.iload 4, 2) := by decide +kernel
theorem dX1_happens_161 : decode cX1_happens 161 = .ok (.iadd, 1) := by decide +kernel
theorem dX1_happens_162 : decode cX1_happens 162 = .ok (.aload_n 2, 1) := by decide +kernel
theorem dX1_happens_163 : decode cX1_happens 163 = .ok (.invokestatic 94, 3) := by decide +kernel
theorem dX1_happens_166 : decode cX1_happens 166 = .ok (.ireturn, 1) := by decide +kernel
theorem dX1_happens_167 : decode cX1_happens 167 = .ok (.iconst 0, 1) := by decide +kernel
theorem dX1_happens_168 : decode cX1_happens 168 = .ok (.ireturn, 1) := by decide +kernel
set_option maxRecDepth 20000 in
theorem ggX1_boardingHappens_X0_hasMan : GoodIn wsX1_boardingHappens wsX0_hasMan := goodIn_r _ [6, 7, 13, 14, 15, 16, 17, 18, 19, 20, 21, 22, 23, 24] (by decide +kernel) (by decide +kernel)
set_option maxRecDepth 20000 in
theorem gX1_boardingHappens_X0_hasMan : GoodIn wsX1_boardingHappens (wsV RX1 97 RX0 yX0_hasMan wsX0_hasMan) := goodIn_app (goodIn_of _ (by decide +kernel)) ggX1_boardingHappens_X0_hasMan
set_option maxRecDepth 20000 in
theorem ggX1_boardingHappens_X0_hasShip : GoodIn wsX1_boardingHappens wsX0_hasShip := goodIn_r _ [11, 12, 13, 14, 15, 16, 17, 18, 19, 20, 21, 22, 23, 24] (by decide +kernel) (by decide +kernel)
set_option maxRecDepth 20000 in
theorem gX1_boardingHappens_X0_hasShip : GoodIn wsX1_boardingHappens (wsV RX1 100 RX0 yX0_hasShip wsX0_hasShip) := goodIn_app (goodIn_of _ (by decide +kernel)) ggX1_boardingHappens_X0_hasShip
theorem dX1_boardingHappens_0 : decode cX1_boardingHappens 0 = .ok (.aload_n 2, 1) := by decide +kernel
theorem dX1_boardingHappens_1 : decode cX1_boardingHappens 1 = .ok (.iload_n 0, 1) := by decide +kernel
theorem dX1_boardingHappens_2 : decode cX1_boardingHappens 2 = .ok (.invokevirtual 97, 3) := by decide +kernel
theorem dX1_boardingHappens_5 : decode cX1_boardingHappens 5 = .ok (.ifCond .eq 11, 3) := by decide +kernel
theorem dX1_boardingHappens_8 : decode cX1_boardingHappens 8 = .ok (.aload_n 2, 1) := by decide +kernel
theorem dX1_boardingHappens_9 : decode cX1_boardingHappens 9 = .ok (.iload_n 1, 1) := by decide +kernel
theorem dX1_boardingHappens_10 : decode cX1_boardingHappens 10 = .ok (.invokevirtual 100, 3) := by decide +kernel
theorem dX1_boardingHappens_13 : decode cX1_boardingHappens 13 = .ok (.ifCond .ne 5, 3) := by decide +kernel
theorem dX1_boardingHappens_16 : decode cX1_boardingHappens 16 = .ok (.iconst 0, 1) := by decide +kernel
theorem dX1_boardingHappens_17 : decode cX1_boardingHappens 17 = .ok (.ireturn, 1) := by decide +kernel
theorem dX1_boardingHappens_18 : decode cX1_boardingHappens 18 = .ok (.aload_n 2, 1) := by decide +kernel
theorem dX1_boardingHappens_19 : decode cX1_boardingHappens 19 = .ok (.getfield 103, 3) := by decide +kernel
theorem dX1_boardingHappens_22 : decode cX1_boardingHappens 22 = .ok (.iload_n 0, 1) := by decide +kernel
theorem dX1_boardingHappens_23 : decode cX1_boardingHappens 23 = .ok (.iload_n 1, 1) := by decide +kernel
theorem dX1_boardingHappens_24 : decode cX1_boardingHappens 24 = .ok (.iastore, 1) := by decide +kernel
theorem dX1_boardingHappens_25 : decode cX1_boardingHappens 25 = .ok (.iconst 1, 1) := by decide +kernel
theorem dX1_boardingHappens_26 : decode cX1_boardingHappens 26 = .ok (.ireturn, 1) := by decide +kernel
set_option maxRecDepth 20000 in
theorem ggX1_sinsHappen_X0_hasMan : GoodIn wsX1_sinsHappen wsX0_hasMan := goodIn_r _ [6, 7, 8, 9, 10, 11, 12, 13, 14, 15, 16, 17, 18, 19] (by decide +kernel) (by decide +kernel)
set_option maxRecDepth 20000 in
theorem gX1_sinsHappen_X0_hasMan : GoodIn wsX1_sinsHappen (wsV RX1 97 RX0 yX0_hasMan wsX0_hasMan) := goodIn_app (goodIn_of _ (by decide +kernel)) ggX1_sinsHappen_X0_hasMan
theorem dX1_sinsHappen_0 : decode cX1_sinsHappen 0 = .ok (.aload_n 2, 1) := by decide +kernel
theorem dX1_sinsHappen_1 : decode cX1_sinsHappen 1 = .ok (.iload_n 0, 1) := by decide +kernel
theorem dX1_sinsHappen_2 : decode cX1_sinsHappen 2 = .ok (.invokevirtual 97, 3) := by decide +kernel
theorem dX1_sinsHappen_5 : decode cX1_sinsHappen 5 = .ok (.ifCond .ne 5, 3) := by decide +kernel
theorem dX1_sinsHappen_8 : decode cX1_sinsHappen 8 = .ok (.iconst 0, 1) := by decide +kernel
theorem dX1_sinsHappen_9 : decode cX1_sinsHappen 9 = .ok (.ireturn, 1) := by decide +kernel
theorem dX1_sinsHappen_10 : decode cX1_sinsHappen 10 = .ok (.aload_n 2, 1) := by decide +kernel
theorem dX1_sinsHappen_11 : decode cX1_sinsHappen 11 = .ok (.getfield 106, 3) := by decide +kernel
theorem dX1_sinsHappen_14 : decode cX1_sinsHappen 14 = .ok (.iload_n 0, 1) := by decide +kernel
theorem dX1_sinsHappen_15 : decode cX1_sinsHappen 15 = .ok (.iload_n 1, 1) := by decide +kernel
theorem dX1_sinsHappen_16 : decode cX1_sinsHappen 16 = .ok (.iastore, 1) := by decide +kernel
theorem dX1_sinsHappen_17 : decode cX1_sinsHappen 17 = .ok (.iconst 1, 1) := by decide +kernel
theorem dX1_sinsHappen_18 : decode cX1_sinsHappen 18 = .ok (.ireturn, 1) := by decide +kernel
set_option maxRecDepth 20000 in
theorem ggX1_tidesHappen_X0_hasTidesLeft : GoodIn wsX1_tidesHappen wsX0_hasTidesLeft := goodIn_r _ [5, 6, 33, 34, 35, 36, 37, 38, 39, 40, 41, 42, 43, 44] (by decide +kernel) (by decide +kernel)
set_option maxRecDepth 20000 in
theorem gX1_tidesHappen_X0_hasTidesLeft : GoodIn wsX1_tidesHappen (wsV RX1 109 RX0 yX0_hasTidesLeft wsX0_hasTidesLeft) := goodIn_app (goodIn_of _ (by decide +kernel)) ggX1_tidesHappen_X0_hasTidesLeft
set_option maxRecDepth 20000 in
theorem ggX1_tidesHappen_X0_passTides : GoodIn wsX1_tidesHappen wsX0_passTides := goodIn_r _ [10, 11, 12, 13, 4, 14, 6, 15, 16, 17, 18, 19, 20, 21, 22, 23, 24, 25, 26, 27, 28, 29, 30, 31, 32, 33, 34, 35, 36, 37, 38, 39, 40, 41, 42, 43, 44] (by decide +kernel) (by decide +kernel)
set_option maxRecDepth 20000 in
theorem gX1_tidesHappen_X0_passTides : GoodIn wsX1_tidesHappen (wsV RX1 112 RX0 yX0_passTides wsX0_passTides) := goodIn_app (goodIn_of _ (by decide +kernel)) ggX1_tidesHappen_X0_passTides
theorem dX1_tidesHappen_0 : decode cX1_tidesHappen 0 = .ok (.iload_n 0, 1) := by decide +kernel
theorem dX1_tidesHappen_1 : decode cX1_tidesHappen 1 = .ok (.iconst 1, 1) := by decide +kernel
theorem dX1_tidesHappen_2 : decode cX1_tidesHappen 2 = .ok (.if_icmp .lt 17, 3) := by decide +kernel
theorem dX1_tidesHappen_5 : decode cX1_tidesHappen 5 = .ok (.iload_n 0, 1) := by decide +kernel
theorem dX1_tidesHappen_6 : decode cX1_tidesHappen 6 = .ok (.bipush 60, 2) := by decide +kernel
theorem dX1_tidesHappen_8 : decode cX1_tidesHappen 8 = .ok (.if_icmp .gt 11, 3) := by decide +kernel
theorem dX1_tidesHappen_11 : decode cX1_tidesHappen 11 = .ok (.aload_n 1, 1) := by decide +kernel
theorem dX1_tidesHappen_12 : decode cX1_tidesHappen 12 = .ok (.iload_n 0, 1) := by decide +kernel
theorem dX1_tidesHappen_13 : decode cX1_tidesHappen 13 = .ok (.invokevirtual 109, 3) := by decide +kernel
theorem dX1_tidesHappen_16 : decode cX1_tidesHappen 16 = .ok (.ifCond .ne 5, 3) := by decide +kernel
theorem dX1_tidesHappen_19 : decode cX1_tidesHappen 19 = .ok (.iconst 0, 1) := by decide +kernel
theorem dX1_tidesHappen_20 : decode cX1_tidesHappen 20 = .ok (.ireturn, 1) := by decide +kernel
theorem dX1_tidesHappen_21 : decode cX1_tidesHappen 21 = .ok (.aload_n 1, 1) := by decide +kernel
theorem dX1_tidesHappen_22 : decode cX1_tidesHappen 22 = .ok (.iload_n 0, 1) := by decide +kernel
theorem dX1_tidesHappen_23 : decode cX1_tidesHappen 23 = .ok (.invokevirtual 112, 3) := by decide +kernel
theorem dX1_tidesHappen_26 : decode cX1_tidesHappen 26 = .ok (.iconst 1, 1) := by decide +kernel
theorem dX1_tidesHappen_27 : decode cX1_tidesHappen 27 = .ok (.ireturn, 1) := by decide +kernel
theorem dX1_signAt_0 : decode cX1_signAt 0 = .ok (.iload_n 1, 1) := by decide +kernel
theorem dX1_signAt_1 : decode cX1_signAt 1 = .ok (.ifCond .lt 20, 3) := by decide +kernel
theorem dX1_signAt_4 : decode cX1_signAt 4 = .ok (.iload_n 1, 1) := by decide +kernel
theorem dX1_signAt_5 : decode cX1_signAt 5 = .ok (.aload_n 0, 1) := by decide +kernel
theorem dX1_signAt_6 : decode cX1_signAt 6 = .ok (.getfield 15, 3) := by decide +kernel
theorem dX1_signAt_9 : decode cX1_signAt 9 = .ok (.if_icmp .ge 12, 3) := by decide +kernel
theorem dX1_signAt_12 : decode cX1_signAt 12 = .ok (.aload_n 0, 1) := by decide +kernel
theorem dX1_signAt_13 : decode cX1_signAt 13 = .ok (.getfield 11, 3) := by decide +kernel
theorem dX1_signAt_16 : decode cX1_signAt 16 = .ok (.iload_n 1, 1) := by decide +kernel
theorem dX1_signAt_17 : decode cX1_signAt 17 = .ok (.iaload, 1) := by decide +kernel
theorem dX1_signAt_18 : decode cX1_signAt 18 = .ok (.goto 4, 3) := by decide +kernel
theorem dX1_signAt_21 : decode cX1_signAt 21 = .ok (.iconst 0, 1) := by decide +kernel
theorem dX1_signAt_22 : decode cX1_signAt 22 = .ok (.ireturn, 1) := by decide +kernel
set_option maxRecDepth 20000 in
theorem ggX1_digit_X1_signAt : GoodIn wsX1_digit wsX1_signAt := goodIn_r _ [5, 6, 7, 8, 9] (by decide +kernel) (by decide +kernel)
set_option maxRecDepth 20000 in
theorem gX1_digit_X1_signAt : GoodIn wsX1_digit (wsV RX1 68 RX1 yX1_signAt wsX1_signAt) := goodIn_app (goodIn_of _ (by decide +kernel)) ggX1_digit_X1_signAt
theorem dX1_digit_0 : decode cX1_digit 0 = .ok (.aload_n 0, 1) := by decide +kernel
theorem dX1_digit_1 : decode cX1_digit 1 = .ok (.iload_n 1, 1) := by decide +kernel
theorem dX1_digit_2 : decode cX1_digit 2 = .ok (.invokevirtual 68, 3) := by decide +kernel
theorem dX1_digit_5 : decode cX1_digit 5 = .ok (.bipush 48, 2) := by decide +kernel
theorem dX1_digit_7 : decode cX1_digit 7 = .ok (.isub, 1) := by decide +kernel
theorem dX1_digit_8 : decode cX1_digit 8 = .ok (.ireturn, 1) := by decide +kernel
theorem dX2_init_0 : decode cX2_init 0 = .ok (.aload_n 0, 1) := by decide +kernel
theorem dX2_init_1 : decode cX2_init 1 = .ok (.invokespecial 1, 3) := by decide +kernel
theorem dX2_init_4 : decode cX2_init 4 = .ok (.aload_n 0, 1) := by decide +kernel
theorem dX2_init_5 : decode cX2_init 5 = .ok (.iconst 0, 1) := by decide +kernel
theorem dX2_init_6 : decode cX2_init 6 = .ok (.putfield 7, 3) := by decide +kernel
theorem dX2_init_9 : decode cX2_init 9 = .ok (.return_, 1) := by decide +kernel
theorem dX2_drawBelow_0 : decode cX2_drawBelow 0 = .ok (.aload_n 0, 1) := by decide +kernel
theorem dX2_drawBelow_1 : decode cX2_drawBelow 1 = .ok (.aload_n 0, 1) := by decide +kernel
theorem dX2_drawBelow_2 : decode cX2_drawBelow 2 = .ok (.getfield 7, 3) := by decide +kernel
theorem dX2_drawBelow_5 : decode cX2_drawBelow 5 = .ok (.ldc 13, 2) := by decide +kernel
theorem dX2_drawBelow_7 : decode cX2_drawBelow 7 = .ok (.imul, 1) := by decide +kernel
theorem dX2_drawBelow_8 : decode cX2_drawBelow 8 = .ok (.ldc 14, 2) := by decide +kernel
theorem dX2_drawBelow_10 : decode cX2_drawBelow 10 = .ok (.iadd, 1) := by decide +kernel
theorem dX2_drawBelow_11 : decode cX2_drawBelow 11 = .ok (.putfield 7, 3) := by decide +kernel
theorem dX2_drawBelow_14 : decode cX2_drawBelow 14 = .ok (.iload_n 1, 1) := by decide +kernel
theorem dX2_drawBelow_15 : decode cX2_drawBelow 15 = .ok (.ifCond .le 19, 3) := by decide +kernel
theorem dX2_drawBelow_18 : decode cX2_drawBelow 18 = .ok (.aload_n 0, 1) := by decide +kernel
theorem dX2_drawBelow_19 : decode cX2_drawBelow 19 = .ok (.getfield 7, 3) := by decide +kernel
theorem dX2_drawBelow_22 : decode cX2_drawBelow 22 = .ok (.ldc 15, 2) := by decide +kernel
theorem dX2_drawBelow_24 : decode cX2_drawBelow 24 = .ok (.iand, 1) := by decide +kernel
theorem dX2_drawBelow_25 : decode cX2_drawBelow 25 = .ok (.sipush 256, 3) := by decide +kernel
theorem dX2_drawBelow_28 : decode cX2_drawBelow 28 = .ok (.idiv, 1) := by decide +kernel
theorem dX2_drawBelow_29 : decode cX2_drawBelow 29 = .ok (.iload_n 1, 1) := by decide +kernel
theorem dX2_drawBelow_30 : decode cX2_drawBelow 30 = .ok (.irem, 1) := by decide +kernel
theorem dX2_drawBelow_31 : decode cX2_drawBelow 31 = .ok (.goto 4, 3) := by decide +kernel
theorem dX2_drawBelow_34 : decode cX2_drawBelow 34 = .ok (.iconst 0, 1) := by decide +kernel
theorem dX2_drawBelow_35 : decode cX2_drawBelow 35 = .ok (.ireturn, 1) := by decide +kernel
theorem dX3_init_0 : decode cX3_init 0 = .ok (.aload_n 0, 1) := by decide +kernel
theorem dX3_init_1 : decode cX3_init 1 = .ok (.invokespecial 3, 3) := by decide +kernel
theorem dX3_init_4 : decode cX3_init 4 = .ok (.aload_n 0, 1) := by decide +kernel
theorem dX3_init_5 : decode cX3_init 5 = .ok (.bipush 16, 2) := by decide +kernel
theorem dX3_init_7 : decode cX3_init 7 = .ok (.newarray .int, 2) := by decide +kernel
theorem dX3_init_9 : decode cX3_init 9 = .ok (.putfield 11, 3) := by decide +kernel
theorem dX3_init_12 : decode cX3_init 12 = .ok (.aload_n 0, 1) := by decide +kernel
theorem dX3_init_13 : decode cX3_init 13 = .ok (.iconst 0, 1) := by decide +kernel
theorem dX3_init_14 : decode cX3_init 14 = .ok (.putfield 15, 3) := by decide +kernel
theorem dX3_init_17 : decode cX3_init 17 = .ok (.return_, 1) := by decide +kernel
theorem dX3_isFull_0 : decode cX3_isFull 0 = .ok (.aload_n 0, 1) := by decide +kernel
theorem dX3_isFull_1 : decode cX3_isFull 1 = .ok (.getfield 15, 3) := by decide +kernel
theorem dX3_isFull_4 : decode cX3_isFull 4 = .ok (.bipush 16, 2) := by decide +kernel
theorem dX3_isFull_6 : decode cX3_isFull 6 = .ok (.if_icmp .lt 7, 3) := by decide +kernel
theorem dX3_isFull_9 : decode cX3_isFull 9 = .ok (.iconst 1, 1) := by decide +kernel
theorem dX3_isFull_10 : decode cX3_isFull 10 = .ok (.goto 4, 3) := by decide +kernel
theorem dX3_isFull_13 : decode cX3_isFull 13 = .ok (.iconst 0, 1) := by decide +kernel
theorem dX3_isFull_14 : decode cX3_isFull 14 = .ok (.ireturn, 1) := by decide +kernel
theorem dX3_add_0 : decode cX3_add 0 = .ok (.aload_n 0, 1) := by decide +kernel
theorem dX3_add_1 : decode cX3_add 1 = .ok (.getfield 15, 3) := by decide +kernel
theorem dX3_add_4 : decode cX3_add 4 = .ok (.bipush 16, 2) := by decide +kernel
theorem dX3_add_6 : decode cX3_add 6 = .ok (.if_icmp .ge 23, 3) := by decide +kernel
theorem dX3_add_9 : decode cX3_add 9 = .ok (.aload_n 0, 1) := by decide +kernel
theorem dX3_add_10 : decode cX3_add 10 = .ok (.getfield 11, 3) := by decide +kernel
theorem dX3_add_13 : decode cX3_add 13 = .ok (.aload_n 0, 1) := by decide +kernel
theorem dX3_add_14 : decode cX3_add 14 = .ok (.getfield 15, 3) := by decide +kernel
theorem dX3_add_17 : decode cX3_add 17 = .ok (.iload_n 1, 1) := by decide +kernel
theorem dX3_add_18 : decode cX3_add 18 = .ok (.iastore, 1) := by decide +kernel
theorem dX3_add_19 : decode cX3_add 19 = .ok (.aload_n 0, 1) := by decide +kernel
theorem dX3_add_20 : decode cX3_add 20 = .ok (.dup, 1) := by decide +kernel
theorem dX3_add_21 : decode cX3_add 21 = .ok (.getfield 15, 3) := by decide +kernel
theorem dX3_add_24 : decode cX3_add 24 = .ok (.iconst 1, 1) := by decide +kernel
theorem dX3_add_25 : decode cX3_add 25 = .ok (.iadd, 1) := by decide +kernel
theorem dX3_add_26 : decode cX3_add 26 = .ok (.putfield 15, 3) := by decide +kernel
theorem dX3_add_29 : decode cX3_add 29 = .ok (.aload_n 0, 1) := by decide +kernel
theorem dX3_add_30 : decode cX3_add 30 = .ok (.getfield 15, 3) := by decide +kernel
theorem dX3_add_33 : decode cX3_add 33 = .ok (.ireturn, 1) := by decide +kernel
theorem dX3_drop_0 : decode cX3_drop 0 = .ok (.aload_n 0, 1) := by decide +kernel
theorem dX3_drop_1 : decode cX3_drop 1 = .ok (.getfield 15, 3) := by decide +kernel
theorem dX3_drop_4 : decode cX3_drop 4 = .ok (.istore_n 1, 1) := by decide +kernel
theorem dX3_drop_5 : decode cX3_drop 5 = .ok (.aload_n 0, 1) := by decide +kernel
theorem dX3_drop_6 : decode cX3_drop 6 = .ok (.iconst 0, 1) := by decide +kernel
theorem dX3_drop_7 : decode cX3_drop 7 = .ok (.putfield 15, 3) := by decide +kernel
theorem dX3_drop_10 : decode cX3_drop 10 = .ok (.iload_n 1, 1) := by decide +kernel
theorem dX3_drop_11 : decode cX3_drop 11 = .ok (.ireturn, 1) := by decide +kernel
set_option maxRecDepth 20000 in
theorem ggX3_firstNotHeldAsIn_X0_hasShip : GoodIn wsX3_firstNotHeldAsIn wsX0_hasShip := goodIn_r _ [7, 8, 22, 23, 24, 25, 26, 27, 28, 29, 30, 31, 32, 33] (by decide +kernel) (by decide +kernel)
set_option maxRecDepth 20000 in
theorem gX3_firstNotHeldAsIn_X0_hasShip : GoodIn wsX3_firstNotHeldAsIn (wsV RX3 19 RX0 yX0_hasShip wsX0_hasShip) := goodIn_app (goodIn_of _ (by decide +kernel)) ggX3_firstNotHeldAsIn_X0_hasShip
set_option maxRecDepth 20000 in
theorem ggX3_firstNotHeldAsIn_X0_holds : GoodIn wsX3_firstNotHeldAsIn wsX0_holds := goodIn_r _ [12, 13, 14, 15, 16, 17, 6, 18, 19, 22, 23, 24, 25, 26, 27, 28, 29, 30, 31, 32, 33] (by decide +kernel) (by decide +kernel)
set_option maxRecDepth 20000 in
theorem gX3_firstNotHeldAsIn_X0_holds : GoodIn wsX3_firstNotHeldAsIn (wsV RX3 25 RX0 yX0_holds wsX0_holds) := goodIn_app (goodIn_of _ (by decide +kernel)) ggX3_firstNotHeldAsIn_X0_holds
theorem dX3_firstNotHeldAsIn_0 : decode cX3_firstNotHeldAsIn 0 = .ok (.iconst 0, 1) := by decide +kernel
theorem dX3_firstNotHeldAsIn_1 : decode cX3_firstNotHeldAsIn 1 = .ok (.istore_n 2, 1) := by decide +kernel
theorem dX3_firstNotHeldAsIn_2 : decode cX3_firstNotHeldAsIn 2 = .ok (.iload_n 2, 1) := by decide +kernel
theorem dX3_firstNotHeldAsIn_3 : decode cX3_firstNotHeldAsIn 3 = .ok (.aload_n 0, 1) := by decide +kernel
theorem dX3_firstNotHeldAsIn_4 : decode cX3_firstNotHeldAsIn 4 = .ok (.getfield 15, 3) := by decide +kernel
theorem dX3_firstNotHeldAsIn_7 : decode cX3_firstNotHeldAsIn 7 = .ok (.if_icmp .ge 33, 3) := by decide +kernel
theorem dX3_firstNotHeldAsIn_10 : decode cX3_firstNotHeldAsIn 10 = .ok (.aload_n 1, 1) := by decide +kernel
theorem dX3_firstNotHeldAsIn_11 : decode cX3_firstNotHeldAsIn 11 = .ok (.iload_n 2, 1) := by decide +kernel
theorem dX3_firstNotHeldAsIn_12 : decode cX3_firstNotHeldAsIn 12 = .ok (.invokevirtual 19, 3) := by decide +kernel
theorem dX3_firstNotHeldAsIn_15 : decode cX3_firstNotHeldAsIn 15 = .ok (.ifCond .eq 17, 3) := by decide +kernel
theorem dX3_firstNotHeldAsIn_18 : decode cX3_firstNotHeldAsIn 18 = .ok (.aload_n 1, 1) := by decide +kernel
theorem dX3_firstNotHeldAsIn_19 : decode cX3_firstNotHeldAsIn 19 = .ok (.iload_n 2, 1) := by decide +kernel
theorem dX3_firstNotHeldAsIn_20 : decode cX3_firstNotHeldAsIn 20 = .ok (.invokevirtual 25, 3) := by decide +kernel
theorem dX3_firstNotHeldAsIn_23 : decode cX3_firstNotHeldAsIn 23 = .ok (.aload_n 0, 1) := by decide +kernel
theorem dX3_firstNotHeldAsIn_24 : decode cX3_firstNotHeldAsIn 24 = .ok (.getfield 11, 3) := by decide +kernel
theorem dX3_firstNotHeldAsIn_27 : decode cX3_firstNotHeldAsIn 27 = .ok (.iload_n 2, 1) := by decide +kernel
theorem dX3_firstNotHeldAsIn_28 : decode cX3_firstNotHeldAsIn 28 = .ok (.iaload, 1) := by decide +kernel
theorem dX3_firstNotHeldAsIn_29 : decode cX3_firstNotHeldAsIn 29 = .ok (.if_icmp .eq 5, 3) := by decide +kernel
theorem dX3_firstNotHeldAsIn_32 : decode cX3_firstNotHeldAsIn 32 = .ok (.iload_n 2, 1) := by decide +kernel
theorem dX3_firstNotHeldAsIn_33 : decode cX3_firstNotHeldAsIn 33 = .ok (.ireturn, 1) := by decide +kernel
theorem dX3_firstNotHeldAsIn_34 : decode cX3_firstNotHeldAsIn 34 = .ok (.iinc 2 1, 3) := by decide +kernel
theorem dX3_firstNotHeldAsIn_37 : decode cX3_firstNotHeldAsIn 37 = .ok (.goto (-35), 3) := by decide +kernel
theorem dX3_firstNotHeldAsIn_40 : decode cX3_firstNotHeldAsIn 40 = .ok (.bipush (-9), 2) := by decide +kernel
theorem dX3_firstNotHeldAsIn_42 : decode cX3_firstNotHeldAsIn 42 = .ok (.ireturn, 1) := by decide +kernel
set_option maxRecDepth 20000 in
theorem ggX3_firstNotLooseAsIn_X0_hasShip : GoodIn wsX3_firstNotLooseAsIn wsX0_hasShip := goodIn_r _ [7, 8, 21, 22, 23, 24, 25, 26, 27, 28, 29, 30, 31, 32] (by decide +kernel) (by decide +kernel)
set_option maxRecDepth 20000 in
theorem gX3_firstNotLooseAsIn_X0_hasShip : GoodIn wsX3_firstNotLooseAsIn (wsV RX3 19 RX0 yX0_hasShip wsX0_hasShip) := goodIn_app (goodIn_of _ (by decide +kernel)) ggX3_firstNotLooseAsIn_X0_hasShip
set_option maxRecDepth 20000 in
theorem ggX3_firstNotLooseAsIn_X3_looseTold : GoodIn wsX3_firstNotLooseAsIn wsX3_looseTold := goodIn_r _ [12, 13, 14, 15, 16, 6, 17, 18, 21, 22, 23, 24, 25, 26, 27, 28, 29, 30, 31, 32] (by decide +kernel) (by decide +kernel)
set_option maxRecDepth 20000 in
theorem gX3_firstNotLooseAsIn_X3_looseTold : GoodIn wsX3_firstNotLooseAsIn (va_wsS RX3 29 yX3_looseTold wsX3_looseTold) := goodIn_app (goodIn_of _ (by decide +kernel)) ggX3_firstNotLooseAsIn_X3_looseTold
theorem dX3_firstNotLooseAsIn_0 : decode cX3_firstNotLooseAsIn 0 = .ok (.iconst 0, 1) := by decide +kernel
theorem dX3_firstNotLooseAsIn_1 : decode cX3_firstNotLooseAsIn 1 = .ok (.istore_n 2, 1) := by decide +kernel
theorem dX3_firstNotLooseAsIn_2 : decode cX3_firstNotLooseAsIn 2 = .ok (.iload_n 2, 1) := by decide +kernel
theorem dX3_firstNotLooseAsIn_3 : decode cX3_firstNotLooseAsIn 3 = .ok (.aload_n 0, 1) := by decide +kernel
theorem dX3_firstNotLooseAsIn_4 : decode cX3_firstNotLooseAsIn 4 = .ok (.getfield 15, 3) := by decide +kernel
theorem dX3_firstNotLooseAsIn_7 : decode cX3_firstNotLooseAsIn 7 = .ok (.if_icmp .ge 33, 3) := by decide +kernel
theorem dX3_firstNotLooseAsIn_10 : decode cX3_firstNotLooseAsIn 10 = .ok (.aload_n 1, 1) := by decide +kernel
theorem dX3_firstNotLooseAsIn_11 : decode cX3_firstNotLooseAsIn 11 = .ok (.iload_n 2, 1) := by decide +kernel
theorem dX3_firstNotLooseAsIn_12 : decode cX3_firstNotLooseAsIn 12 = .ok (.invokevirtual 19, 3) := by decide +kernel
theorem dX3_firstNotLooseAsIn_15 : decode cX3_firstNotLooseAsIn 15 = .ok (.ifCond .eq 17, 3) := by decide +kernel
theorem dX3_firstNotLooseAsIn_18 : decode cX3_firstNotLooseAsIn 18 = .ok (.aload_n 1, 1) := by decide +kernel
theorem dX3_firstNotLooseAsIn_19 : decode cX3_firstNotLooseAsIn 19 = .ok (.iload_n 2, 1) := by decide +kernel
theorem dX3_firstNotLooseAsIn_20 : decode cX3_firstNotLooseAsIn 20 = .ok (.invokestatic 29, 3) := by decide +kernel
theorem dX3_firstNotLooseAsIn_23 : decode cX3_firstNotLooseAsIn 23 = .ok (.aload_n 0, 1) := by decide +kernel
theorem dX3_firstNotLooseAsIn_24 : decode cX3_firstNotLooseAsIn 24 = .ok (.getfield 11, 3) := by decide +kernel
theorem dX3_firstNotLooseAsIn_27 : decode cX3_firstNotLooseAsIn 27 = .ok (.iload_n 2, 1) := by decide +kernel
theorem dX3_firstNotLooseAsIn_28 : decode cX3_firstNotLooseAsIn 28 = .ok (.iaload, 1) := by decide +kernel
theorem dX3_firstNotLooseAsIn_29 : decode cX3_firstNotLooseAsIn 29 = .ok (.if_icmp .eq 5, 3) := by decide +kernel
theorem dX3_firstNotLooseAsIn_32 : decode cX3_firstNotLooseAsIn 32 = .ok (.iload_n 2, 1) := by decide +kernel
theorem dX3_firstNotLooseAsIn_33 : decode cX3_firstNotLooseAsIn 33 = .ok (.ireturn, 1) := by decide +kernel
theorem dX3_firstNotLooseAsIn_34 : decode cX3_firstNotLooseAsIn 34 = .ok (.iinc 2 1, 3) := by decide +kernel
theorem dX3_firstNotLooseAsIn_37 : decode cX3_firstNotLooseAsIn 37 = .ok (.goto (-35), 3) := by decide +kernel
theorem dX3_firstNotLooseAsIn_40 : decode cX3_firstNotLooseAsIn 40 = .ok (.bipush (-9), 2) := by decide +kernel
theorem dX3_firstNotLooseAsIn_42 : decode cX3_firstNotLooseAsIn 42 = .ok (.ireturn, 1) := by decide +kernel
set_option maxRecDepth 20000 in
theorem ggX3_looseTold_X0_isIn : GoodIn wsX3_looseTold wsX0_isIn := goodIn_r _ [6, 7, 8, 9, 10, 11, 12, 13, 14, 15, 16, 17, 18, 19] (by decide +kernel) (by decide +kernel)
set_option maxRecDepth 20000 in
theorem gX3_looseTold_X0_isIn : GoodIn wsX3_looseTold (wsV RX3 33 RX0 yX0_isIn wsX0_isIn) := goodIn_app (goodIn_of _ (by decide +kernel)) ggX3_looseTold_X0_isIn
theorem dX3_looseTold_0 : decode cX3_looseTold 0 = .ok (.aload_n 0, 1) := by decide +kernel
theorem dX3_looseTold_1 : decode cX3_looseTold 1 = .ok (.iload_n 1, 1) := by decide +kernel
theorem dX3_looseTold_2 : decode cX3_looseTold 2 = .ok (.invokevirtual 33, 3) := by decide +kernel
theorem dX3_looseTold_5 : decode cX3_looseTold 5 = .ok (.ifCond .eq 12, 3) := by decide +kernel
theorem dX3_looseTold_8 : decode cX3_looseTold 8 = .ok (.aload_n 0, 1) := by decide +kernel
theorem dX3_looseTold_9 : decode cX3_looseTold 9 = .ok (.getfield 36, 3) := by decide +kernel
theorem dX3_looseTold_12 : decode cX3_looseTold 12 = .ok (.iload_n 1, 1) := by decide +kernel
theorem dX3_looseTold_13 : decode cX3_looseTold 13 = .ok (.iaload, 1) := by decide +kernel
theorem dX3_looseTold_14 : decode cX3_looseTold 14 = .ok (.goto 5, 3) := by decide +kernel
theorem dX3_looseTold_17 : decode cX3_looseTold 17 = .ok (.bipush 98, 2) := by decide +kernel
theorem dX3_looseTold_19 : decode cX3_looseTold 19 = .ok (.ireturn, 1) := by decide +kernel
set_option maxRecDepth 20000 in
theorem ggX4_init_X0_init : GoodIn wsX4_init wsX0_init := goodIn_r _ [26, 27, 2, 3, 22, 28, 29, 30, 31, 32, 33, 34, 35, 50, 51, 52, 53, 54, 55, 56, 57, 58, 59, 60, 61] (by decide +kernel) (by decide +kernel)
set_option maxRecDepth 20000 in
theorem gX4_init_X0_init_n9 : GoodIn wsX4_init (wsX0_init) := ggX4_init_X0_init
set_option maxRecDepth 20000 in
theorem ggX4_init_X1_init : GoodIn wsX4_init wsX1_init := goodIn_r _ [37, 38, 2, 3, 22, 39, 40, 70, 71] (by decide +kernel) (by decide +kernel)
set_option maxRecDepth 20000 in
theorem gX4_init_X1_init_n24 : GoodIn wsX4_init (wsX1_init) := ggX4_init_X1_init
set_option maxRecDepth 20000 in
theorem ggX4_init_X3_init : GoodIn wsX4_init wsX3_init := goodIn_r _ [42, 43, 2, 3, 22, 44, 45, 72, 73] (by decide +kernel) (by decide +kernel)
set_option maxRecDepth 20000 in
theorem gX4_init_X3_init_n31 : GoodIn wsX4_init (wsX3_init) := ggX4_init_X3_init
set_option maxRecDepth 20000 in
theorem ggX4_init_X2_init : GoodIn wsX4_init wsX2_init := goodIn_r _ [47, 48, 2, 3, 49, 74] (by decide +kernel) (by decide +kernel)
set_option maxRecDepth 20000 in
theorem gX4_init_X2_init_n38 : GoodIn wsX4_init (wsX2_init) := ggX4_init_X2_init
theorem dX4_init_0 : decode cX4_init 0 = .ok (.aload_n 0, 1) := by decide +kernel
theorem dX4_init_1 : decode cX4_init 1 = .ok (.invokespecial 1, 3) := by decide +kernel
theorem dX4_init_4 : decode cX4_init 4 = .ok (.aload_n 0, 1) := by decide +kernel
theorem dX4_init_5 : decode cX4_init 5 = .ok (.new 7, 3) := by decide +kernel
theorem dX4_init_8 : decode cX4_init 8 = .ok (.dup, 1) := by decide +kernel
theorem dX4_init_9 : decode cX4_init 9 = .ok (.invokespecial 9, 3) := by decide +kernel
theorem dX4_init_12 : decode cX4_init 12 = .ok (.putfield 10, 3) := by decide +kernel
theorem dX4_init_15 : decode cX4_init 15 = .ok (.aload_n 0, 1) := by decide +kernel
theorem dX4_init_16 : decode cX4_init 16 = .ok (.new 7, 3) := by decide +kernel
theorem dX4_init_19 : decode cX4_init 19 = .ok (.dup, 1) := by decide +kernel
theorem dX4_init_20 : decode cX4_init 20 = .ok (.invokespecial 9, 3) := by decide +kernel
theorem dX4_init_23 : decode cX4_init 23 = .ok (.putfield 16, 3) := by decide +kernel
theorem dX4_init_26 : decode cX4_init 26 = .ok (.aload_n 0, 1) := by decide +kernel
theorem dX4_init_27 : decode cX4_init 27 = .ok (.new 7, 3) := by decide +kernel
theorem dX4_init_30 : decode cX4_init 30 = .ok (.dup, 1) := by decide +kernel
theorem dX4_init_31 : decode cX4_init 31 = .ok (.invokespecial 9, 3) := by decide +kernel
theorem dX4_init_34 : decode cX4_init 34 = .ok (.putfield 19, 3) := by decide +kernel
theorem dX4_init_37 : decode cX4_init 37 = .ok (.aload_n 0, 1) := by decide +kernel
theorem dX4_init_38 : decode cX4_init 38 = .ok (.new 22, 3) := by decide +kernel
theorem dX4_init_41 : decode cX4_init 41 = .ok (.dup, 1) := by decide +kernel
theorem dX4_init_42 : decode cX4_init 42 = .ok (.invokespecial 24, 3) := by decide +kernel
theorem dX4_init_45 : decode cX4_init 45 = .ok (.putfield 25, 3) := by decide +kernel
theorem dX4_init_48 : decode cX4_init 48 = .ok (.aload_n 0, 1) := by decide +kernel
theorem dX4_init_49 : decode cX4_init 49 = .ok (.new 29, 3) := by decide +kernel
theorem dX4_init_52 : decode cX4_init 52 = .ok (.dup, 1) := by decide +kernel
theorem dX4_init_53 : decode cX4_init 53 = .ok (.invokespecial 31, 3) := by decide +kernel
theorem dX4_init_56 : decode cX4_init 56 = .ok (.putfield 32, 3) := by decide +kernel
theorem dX4_init_59 : decode cX4_init 59 = .ok (.aload_n 0, 1) := by decide +kernel
theorem dX4_init_60 : decode cX4_init 60 = .ok (.new 36, 3) := by decide +kernel
theorem dX4_init_63 : decode cX4_init 63 = .ok (.dup, 1) := by decide +kernel
theorem dX4_init_64 : decode cX4_init 64 = .ok (.invokespecial 38, 3) := by decide +kernel
theorem dX4_init_67 : decode cX4_init 67 = .ok (.putfield 39, 3) := by decide +kernel
theorem dX4_init_70 : decode cX4_init 70 = .ok (.aload_n 0, 1) := by decide +kernel
theorem dX4_init_71 : decode cX4_init 71 = .ok (.bipush 7, 2) := by decide +kernel
theorem dX4_init_73 : decode cX4_init 73 = .ok (.newarray .int, 2) := by decide +kernel
theorem dX4_init_75 : decode cX4_init 75 = .ok (.putfield 43, 3) := by decide +kernel
theorem dX4_init_78 : decode cX4_init 78 = .ok (.aload_n 0, 1) := by decide +kernel
theorem dX4_init_79 : decode cX4_init 79 = .ok (.iconst 0, 1) := by decide +kernel
theorem dX4_init_80 : decode cX4_init 80 = .ok (.putfield 47, 3) := by decide +kernel
theorem dX4_init_83 : decode cX4_init 83 = .ok (.return_, 1) := by decide +kernel
set_option maxRecDepth 20000 in
theorem ggX4_letter_X4_refused : GoodIn wsX4_letter wsX4_refused := goodIn_r _ [6, 7, 19, 20, 21, 22, 23, 24, 25, 26] (by decide +kernel) (by decide +kernel)
set_option maxRecDepth 20000 in
theorem gX4_letter_X4_refused : GoodIn wsX4_letter (wsV RX4 51 RX4 yX4_refused wsX4_refused) := goodIn_app (goodIn_of _ (by decide +kernel)) ggX4_letter_X4_refused
set_option maxRecDepth 20000 in
theorem ggX4_letter_X1_isFull : GoodIn wsX4_letter wsX1_isFull := goodIn_r _ [12, 13, 27, 28] (by decide +kernel) (by decide +kernel)
set_option maxRecDepth 20000 in
theorem gX4_letter_X1_isFull : GoodIn wsX4_letter (wsV RX4 55 RX1 yX1_isFull wsX1_isFull) := goodIn_app (goodIn_of _ (by decide +kernel)) ggX4_letter_X1_isFull
set_option maxRecDepth 20000 in
theorem ggX4_letter_X1_add : GoodIn wsX4_letter wsX1_add := goodIn_r _ [17, 13, 18, 27, 28] (by decide +kernel) (by decide +kernel)
set_option maxRecDepth 20000 in
theorem gX4_letter_X1_add : GoodIn wsX4_letter (wsV RX4 59 RX1 yX1_add wsX1_add) := goodIn_app (goodIn_of _ (by decide +kernel)) ggX4_letter_X1_add
theorem dX4_letter_0 : decode cX4_letter 0 = .ok (.iload_n 1, 1) := by decide +kernel
theorem dX4_letter_1 : decode cX4_letter 1 = .ok (.ifCond .ge 10, 3) := by decide +kernel
theorem dX4_letter_4 : decode cX4_letter 4 = .ok (.aload_n 0, 1) := by decide +kernel
theorem dX4_letter_5 : decode cX4_letter 5 = .ok (.bipush (-4), 2) := by decide +kernel
theorem dX4_letter_7 : decode cX4_letter 7 = .ok (.invokevirtual 51, 3) := by decide +kernel
theorem dX4_letter_10 : decode cX4_letter 10 = .ok (.ireturn, 1) := by decide +kernel
theorem dX4_letter_11 : decode cX4_letter 11 = .ok (.iload_n 1, 1) := by decide +kernel
theorem dX4_letter_12 : decode cX4_letter 12 = .ok (.sipush 255, 3) := by decide +kernel
theorem dX4_letter_15 : decode cX4_letter 15 = .ok (.if_icmp .gt 13, 3) := by decide +kernel
theorem dX4_letter_18 : decode cX4_letter 18 = .ok (.aload_n 0, 1) := by decide +kernel
theorem dX4_letter_19 : decode cX4_letter 19 = .ok (.getfield 25, 3) := by decide +kernel
theorem dX4_letter_22 : decode cX4_letter 22 = .ok (.invokevirtual 55, 3) := by decide +kernel
theorem dX4_letter_25 : decode cX4_letter 25 = .ok (.ifCond .eq 10, 3) := by decide +kernel
theorem dX4_letter_28 : decode cX4_letter 28 = .ok (.aload_n 0, 1) := by decide +kernel
theorem dX4_letter_29 : decode cX4_letter 29 = .ok (.bipush (-6), 2) := by decide +kernel
theorem dX4_letter_31 : decode cX4_letter 31 = .ok (.invokevirtual 51, 3) := by decide +kernel
theorem dX4_letter_34 : decode cX4_letter 34 = .ok (.ireturn, 1) := by decide +kernel
theorem dX4_letter_35 : decode cX4_letter 35 = .ok (.aload_n 0, 1) := by decide +kernel
theorem dX4_letter_36 : decode cX4_letter 36 = .ok (.getfield 25, 3) := by decide +kernel
theorem dX4_letter_39 : decode cX4_letter 39 = .ok (.iload_n 1, 1) := by decide +kernel
theorem dX4_letter_40 : decode cX4_letter 40 = .ok (.invokevirtual 59, 3) := by decide +kernel
theorem dX4_letter_43 : decode cX4_letter 43 = .ok (.ireturn, 1) := by decide +kernel
set_option maxRecDepth 20000 in
theorem ggX4_harbour_X0_copyFrom : GoodIn wsX4_harbour wsX0_copyFrom := goodIn_r _ [8, 9, 10, 11, 12, 13, 14, 15, 16, 17, 18, 19, 262, 263, 264, 265, 266, 267, 268, 269, 270, 271, 272, 273] (by decide +kernel) (by decide +kernel)
set_option maxRecDepth 20000 in
theorem gX4_harbour_X0_copyFrom : GoodIn wsX4_harbour (wsV RX4 62 RX0 yX0_copyFrom wsX0_copyFrom) := goodIn_app (goodIn_of _ (by decide +kernel)) ggX4_harbour_X0_copyFrom
set_option maxRecDepth 20000 in
theorem ggX4_harbour_X1_play : GoodIn wsX4_harbour wsX1_play := goodIn_r _ [24, 25, 26, 27, 28, 29, 23, 30, 31, 32, 33, 34, 35, 36, 37, 38, 39, 40, 41, 42, 43, 44, 45, 46, 47, 48, 49, 50, 51, 52, 53, 54, 55, 56, 57, 58, 59, 60, 61, 62, 63, 64, 65, 66, 67, 68, 69, 70, 71, 72, 73, 74, 75, 76, 77, 78, 79, 80, 81, 82, 83, 84, 85, 86, 87, 88, 89, 90, 91, 92, 93, 94, 95, 96, 97, 98, 99, 100, 101, 102, 103, 104, 105, 106, 107, 108, 109, 110, 111, 112, 113, 114, 115, 116, 117, 118, 119, 120, 121, 122, 123, 124, 125, 126, 127, 128, 129, 130, 131, 132, 133, 134, 135, 136, 137, 138, 139, 140, 141, 142, 143, 144, 145, 146, 147, 148, 149, 150, 151, 152, 153, 154, 155, 156, 157, 158, 159, 160, 161, 162, 163, 164, 165, 166, 167, 168, 7, 169, 9, 13, 14, 15, 170, 171, 172, 173, 10, 16, 17, 18, 19, 174, 175, 176, 177, 178, 179, 180, 181, 182, 183, 184, 185, 186, 187, 188, 189, 190, 191, 192, 193, 11, 194, 195, 196, 197, 198, 199, 200, 201, 202, 203, 204, 12, 205, 206, 207, 208, 209, 210, 211, 212, 213, 214, 215, 216, 217, 218, 219, 220, 221, 222, 223, 224, 225, 226, 227, 228, 229, 230, 231, 232, 233, 234, 235, 236, 237, 238, 239, 240, 241, 242, 243, 244, 245, 246, 247, 248, 249, 274, 275, 262, 263, 264, 265, 266, 267, 268, 269, 270, 271, 272, 273] (by decide +kernel) (by decide +kernel)
set_option maxRecDepth 20000 in
theorem gX4_harbour_X1_play : GoodIn wsX4_harbour (wsV RX4 66 RX1 yX1_play wsX1_play) := goodIn_app (goodIn_of _ (by decide +kernel)) ggX4_harbour_X1_play
set_option maxRecDepth 20000 in
theorem ggX4_harbour_X1_drop : GoodIn wsX4_harbour wsX1_drop := goodIn_r _ [253, 25, 274, 275] (by decide +kernel) (by decide +kernel)
set_option maxRecDepth 20000 in
theorem gX4_harbour_X1_drop : GoodIn wsX4_harbour (wsV RX4 70 RX1 yX1_drop wsX1_drop) := goodIn_app (goodIn_of _ (by decide +kernel)) ggX4_harbour_X1_drop
theorem dX4_harbour_0 : decode cX4_harbour 0 = .ok (.aload_n 0, 1) := by decide +kernel
theorem dX4_harbour_1 : decode cX4_harbour 1 = .ok (.getfield 16, 3) := by decide +kernel
theorem dX4_harbour_4 : decode cX4_harbour 4 = .ok (.aload_n 0, 1) := by decide +kernel
theorem dX4_harbour_5 : decode cX4_harbour 5 = .ok (.getfield 10, 3) := by decide +kernel
theorem dX4_harbour_8 : decode cX4_harbour 8 = .ok (.invokevirtual 62, 3) := by decide +kernel
theorem dX4_harbour_11 : decode cX4_harbour 11 = .ok (.aload_n 0, 1) := by decide +kernel
theorem dX4_harbour_12 : decode cX4_harbour 12 = .ok (.getfield 25, 3) := by decide +kernel
theorem dX4_harbour_15 : decode cX4_harbour 15 = .ok (.aload_n 0, 1) := by decide +kernel
theorem dX4_harbour_16 : decode cX4_harbour 16 = .ok (.getfield 16, 3) := by decide +kernel
theorem dX4_harbour_19 : decode cX4_harbour 19 = .ok (.invokevirtual 66, 3) := by decide +kernel
theorem dX4_harbour_22 : decode cX4_harbour 22 = .ok (.istore_n 1, 1) := by decide +kernel
theorem dX4_harbour_23 : decode cX4_harbour 23 = .ok (.aload_n 0, 1) := by decide +kernel
theorem dX4_harbour_24 : decode cX4_harbour 24 = .ok (.getfield 25, 3) := by decide +kernel
theorem dX4_harbour_27 : decode cX4_harbour 27 = .ok (.invokevirtual 70, 3) := by decide +kernel
theorem dX4_harbour_30 : decode cX4_harbour 30 = .ok (.iload_n 1, 1) := by decide +kernel
theorem dX4_harbour_31 : decode cX4_harbour 31 = .ok (.ifCond .le 14, 3) := by decide +kernel
theorem dX4_harbour_34 : decode cX4_harbour 34 = .ok (.aload_n 0, 1) := by decide +kernel
theorem dX4_harbour_35 : decode cX4_harbour 35 = .ok (.getfield 10, 3) := by decide +kernel
theorem dX4_harbour_38 : decode cX4_harbour 38 = .ok (.aload_n 0, 1) := by decide +kernel
theorem dX4_harbour_39 : decode cX4_harbour 39 = .ok (.getfield 16, 3) := by decide +kernel
theorem dX4_harbour_42 : decode cX4_harbour 42 = .ok (.invokevirtual 62, 3) := by decide +kernel
theorem dX4_harbour_45 : decode cX4_harbour 45 = .ok (.iload_n 1, 1) := by decide +kernel
theorem dX4_harbour_46 : decode cX4_harbour 46 = .ok (.ireturn, 1) := by decide +kernel
set_option maxRecDepth 20000 in
theorem ggX4_tells_X0_hasMan : GoodIn wsX4_tells wsX0_hasMan := goodIn_r _ [6, 7, 77, 78, 79, 80, 81, 82, 83, 84, 85, 86, 87, 88] (by decide +kernel) (by decide +kernel)
set_option maxRecDepth 20000 in
theorem gX4_tells_X0_hasMan : GoodIn wsX4_tells (wsV RX4 73 RX0 yX0_hasMan wsX0_hasMan) := goodIn_app (goodIn_of _ (by decide +kernel)) ggX4_tells_X0_hasMan
set_option maxRecDepth 20000 in
theorem ggX4_tells_X4_refused : GoodIn wsX4_tells wsX4_refused := goodIn_r _ [12, 13, 69, 70, 71, 72, 73, 74, 75, 76] (by decide +kernel) (by decide +kernel)
set_option maxRecDepth 20000 in
theorem gX4_tells_X4_refused : GoodIn wsX4_tells (wsV RX4 51 RX4 yX4_refused wsX4_refused) := goodIn_app (goodIn_of _ (by decide +kernel)) ggX4_tells_X4_refused
set_option maxRecDepth 20000 in
theorem ggX4_tells_X0_canTell : GoodIn wsX4_tells wsX0_canTell := goodIn_r _ [17, 18, 19, 20, 3, 4, 5, 6, 7, 21, 22, 23, 24, 25, 77, 78, 79, 80, 81, 82, 83, 84, 85, 86, 87, 88] (by decide +kernel) (by decide +kernel)
set_option maxRecDepth 20000 in
theorem gX4_tells_X0_canTell : GoodIn wsX4_tells (wsV RX4 77 RX0 yX0_canTell wsX0_canTell) := goodIn_app (goodIn_of _ (by decide +kernel)) ggX4_tells_X0_canTell
set_option maxRecDepth 20000 in
theorem ggX4_tells_X0_word : GoodIn wsX4_tells wsX0_word := goodIn_r _ [29, 18, 30, 31, 32, 33, 34, 35, 19, 36, 15, 16, 5, 17, 20, 3, 4, 6, 7, 21, 22, 23, 24, 25, 37, 38, 39, 40, 41, 42, 43, 44, 45, 46, 47, 48, 49, 50, 51, 52, 53, 54, 55, 56, 57, 58, 59, 60, 61, 62, 63, 64, 65, 66, 67, 68, 77, 78, 79, 80, 81, 82, 83, 84, 85, 86, 87, 88] (by decide +kernel) (by decide +kernel)
set_option maxRecDepth 20000 in
theorem gX4_tells_X0_word : GoodIn wsX4_tells (wsV RX4 80 RX0 yX0_word wsX0_word) := goodIn_app (goodIn_of _ (by decide +kernel)) ggX4_tells_X0_word
theorem dX4_tells_0 : decode cX4_tells 0 = .ok (.aload_n 0, 1) := by decide +kernel
theorem dX4_tells_1 : decode cX4_tells 1 = .ok (.getfield 10, 3) := by decide +kernel
theorem dX4_tells_4 : decode cX4_tells 4 = .ok (.iload_n 1, 1) := by decide +kernel
theorem dX4_tells_5 : decode cX4_tells 5 = .ok (.invokevirtual 73, 3) := by decide +kernel
theorem dX4_tells_8 : decode cX4_tells 8 = .ok (.ifCond .ne 9, 3) := by decide +kernel
theorem dX4_tells_11 : decode cX4_tells 11 = .ok (.aload_n 0, 1) := by decide +kernel
theorem dX4_tells_12 : decode cX4_tells 12 = .ok (.iconst (-1), 1) := by decide +kernel
theorem dX4_tells_13 : decode cX4_tells 13 = .ok (.invokevirtual 51, 3) := by decide +kernel
theorem dX4_tells_16 : decode cX4_tells 16 = .ok (.ireturn, 1) := by decide +kernel
theorem dX4_tells_17 : decode cX4_tells 17 = .ok (.aload_n 0, 1) := by decide +kernel
theorem dX4_tells_18 : decode cX4_tells 18 = .ok (.getfield 10, 3) := by decide +kernel
theorem dX4_tells_21 : decode cX4_tells 21 = .ok (.iload_n 1, 1) := by decide +kernel
theorem dX4_tells_22 : decode cX4_tells 22 = .ok (.invokevirtual 77, 3) := by decide +kernel
theorem dX4_tells_25 : decode cX4_tells 25 = .ok (.ifCond .ne 10, 3) := by decide +kernel
theorem dX4_tells_28 : decode cX4_tells 28 = .ok (.aload_n 0, 1) := by decide +kernel
theorem dX4_tells_29 : decode cX4_tells 29 = .ok (.bipush (-3), 2) := by decide +kernel
theorem dX4_tells_31 : decode cX4_tells 31 = .ok (.invokevirtual 51, 3) := by decide +kernel
theorem dX4_tells_34 : decode cX4_tells 34 = .ok (.ireturn, 1) := by decide +kernel
theorem dX4_tells_35 : decode cX4_tells 35 = .ok (.aload_n 0, 1) := by decide +kernel
theorem dX4_tells_36 : decode cX4_tells 36 = .ok (.getfield 10, 3) := by decide +kernel
theorem dX4_tells_39 : decode cX4_tells 39 = .ok (.iload_n 1, 1) := by decide +kernel
theorem dX4_tells_40 : decode cX4_tells 40 = .ok (.invokevirtual 80, 3) := by decide +kernel
theorem dX4_tells_43 : decode cX4_tells 43 = .ok (.ireturn, 1) := by decide +kernel
set_option maxRecDepth 20000 in
theorem ggX4_boards_X0_hasMan : GoodIn wsX4_boards wsX0_hasMan := goodIn_r _ [7, 8, 28, 29, 30, 31, 32, 33, 34, 35, 36, 37, 38, 39] (by decide +kernel) (by decide +kernel)
set_option maxRecDepth 20000 in
theorem gX4_boards_X0_hasMan : GoodIn wsX4_boards (wsV RX4 73 RX0 yX0_hasMan wsX0_hasMan) := goodIn_app (goodIn_of _ (by decide +kernel)) ggX4_boards_X0_hasMan
set_option maxRecDepth 20000 in
theorem ggX4_boards_X0_hasShip : GoodIn wsX4_boards wsX0_hasShip := goodIn_r _ [12, 13, 28, 29, 30, 31, 32, 33, 34, 35, 36, 37, 38, 39] (by decide +kernel) (by decide +kernel)
set_option maxRecDepth 20000 in
theorem gX4_boards_X0_hasShip : GoodIn wsX4_boards (wsV RX4 83 RX0 yX0_hasShip wsX0_hasShip) := goodIn_app (goodIn_of _ (by decide +kernel)) ggX4_boards_X0_hasShip
set_option maxRecDepth 20000 in
theorem ggX4_boards_X4_refused : GoodIn wsX4_boards wsX4_refused := goodIn_r _ [18, 19, 20, 21, 22, 23, 24, 25, 26, 27] (by decide +kernel) (by decide +kernel)
set_option maxRecDepth 20000 in
theorem gX4_boards_X4_refused : GoodIn wsX4_boards (wsV RX4 51 RX4 yX4_refused wsX4_refused) := goodIn_app (goodIn_of _ (by decide +kernel)) ggX4_boards_X4_refused
theorem dX4_boards_0 : decode cX4_boards 0 = .ok (.aload_n 0, 1) := by decide +kernel
theorem dX4_boards_1 : decode cX4_boards 1 = .ok (.getfield 10, 3) := by decide +kernel
theorem dX4_boards_4 : decode cX4_boards 4 = .ok (.iload_n 1, 1) := by decide +kernel
theorem dX4_boards_5 : decode cX4_boards 5 = .ok (.invokevirtual 73, 3) := by decide +kernel
theorem dX4_boards_8 : decode cX4_boards 8 = .ok (.ifCond .eq 14, 3) := by decide +kernel
theorem dX4_boards_11 : decode cX4_boards 11 = .ok (.aload_n 0, 1) := by decide +kernel
theorem dX4_boards_12 : decode cX4_boards 12 = .ok (.getfield 10, 3) := by decide +kernel
theorem dX4_boards_15 : decode cX4_boards 15 = .ok (.iload_n 2, 1) := by decide +kernel
theorem dX4_boards_16 : decode cX4_boards 16 = .ok (.invokevirtual 83, 3) := by decide +kernel
theorem dX4_boards_19 : decode cX4_boards 19 = .ok (.ifCond .ne 9, 3) := by decide +kernel
theorem dX4_boards_22 : decode cX4_boards 22 = .ok (.aload_n 0, 1) := by decide +kernel
theorem dX4_boards_23 : decode cX4_boards 23 = .ok (.iconst (-1), 1) := by decide +kernel
theorem dX4_boards_24 : decode cX4_boards 24 = .ok (.invokevirtual 51, 3) := by decide +kernel
theorem dX4_boards_27 : decode cX4_boards 27 = .ok (.ireturn, 1) := by decide +kernel
theorem dX4_boards_28 : decode cX4_boards 28 = .ok (.aload_n 0, 1) := by decide +kernel
theorem dX4_boards_29 : decode cX4_boards 29 = .ok (.getfield 10, 3) := by decide +kernel
theorem dX4_boards_32 : decode cX4_boards 32 = .ok (.getfield 86, 3) := by decide +kernel
theorem dX4_boards_35 : decode cX4_boards 35 = .ok (.iload_n 1, 1) := by decide +kernel
theorem dX4_boards_36 : decode cX4_boards 36 = .ok (.iaload, 1) := by decide +kernel
theorem dX4_boards_37 : decode cX4_boards 37 = .ok (.istore_n 3, 1) := by decide +kernel
theorem dX4_boards_38 : decode cX4_boards 38 = .ok (.aload_n 0, 1) := by decide +kernel
theorem dX4_boards_39 : decode cX4_boards 39 = .ok (.getfield 10, 3) := by decide +kernel
theorem dX4_boards_42 : decode cX4_boards 42 = .ok (.getfield 86, 3) := by decide +kernel
theorem dX4_boards_45 : decode cX4_boards 45 = .ok (.iload_n 1, 1) := by decide +kernel
theorem dX4_boards_46 : decode cX4_boards 46 = .ok (.iload_n 2, 1) := by decide +kernel
theorem dX4_boards_47 : decode cX4_boards 47 = .ok (.iastore, 1) := by decide +kernel
theorem dX4_boards_48 : decode cX4_boards 48 = .ok (.iload_n 3, 1) := by decide +kernel
theorem dX4_boards_49 : decode cX4_boards 49 = .ok (.ireturn, 1) := by decide +kernel
set_option maxRecDepth 20000 in
theorem ggX4_sins_X0_hasMan : GoodIn wsX4_sins wsX0_hasMan := goodIn_r _ [7, 8, 23, 24, 25, 26, 27, 28, 29, 30, 31, 32, 33, 34] (by decide +kernel) (by decide +kernel)
set_option maxRecDepth 20000 in
theorem gX4_sins_X0_hasMan : GoodIn wsX4_sins (wsV RX4 73 RX0 yX0_hasMan wsX0_hasMan) := goodIn_app (goodIn_of _ (by decide +kernel)) ggX4_sins_X0_hasMan
set_option maxRecDepth 20000 in
theorem ggX4_sins_X4_refused : GoodIn wsX4_sins wsX4_refused := goodIn_r _ [13, 14, 15, 16, 17, 18, 19, 20, 21, 22] (by decide +kernel) (by decide +kernel)
set_option maxRecDepth 20000 in
theorem gX4_sins_X4_refused : GoodIn wsX4_sins (wsV RX4 51 RX4 yX4_refused wsX4_refused) := goodIn_app (goodIn_of _ (by decide +kernel)) ggX4_sins_X4_refused
theorem dX4_sins_0 : decode cX4_sins 0 = .ok (.aload_n 0, 1) := by decide +kernel
theorem dX4_sins_1 : decode cX4_sins 1 = .ok (.getfield 10, 3) := by decide +kernel
theorem dX4_sins_4 : decode cX4_sins 4 = .ok (.iload_n 1, 1) := by decide +kernel
theorem dX4_sins_5 : decode cX4_sins 5 = .ok (.invokevirtual 73, 3) := by decide +kernel
theorem dX4_sins_8 : decode cX4_sins 8 = .ok (.ifCond .ne 9, 3) := by decide +kernel
theorem dX4_sins_11 : decode cX4_sins 11 = .ok (.aload_n 0, 1) := by decide +kernel
theorem dX4_sins_12 : decode cX4_sins 12 = .ok (.iconst (-1), 1) := by decide +kernel
theorem dX4_sins_13 : decode cX4_sins 13 = .ok (.invokevirtual 51, 3) := by decide +kernel
theorem dX4_sins_16 : decode cX4_sins 16 = .ok (.ireturn, 1) := by decide +kernel
theorem dX4_sins_17 : decode cX4_sins 17 = .ok (.iload_n 2, 1) := by decide +kernel
theorem dX4_sins_18 : decode cX4_sins 18 = .ok (.ifCond .ge 10, 3) := by decide +kernel
theorem dX4_sins_21 : decode cX4_sins 21 = .ok (.aload_n 0, 1) := by decide +kernel
theorem dX4_sins_22 : decode cX4_sins 22 = .ok (.bipush (-4), 2) := by decide +kernel
theorem dX4_sins_24 : decode cX4_sins 24 = .ok (.invokevirtual 51, 3) := by decide +kernel
theorem dX4_sins_27 : decode cX4_sins 27 = .ok (.ireturn, 1) := by decide +kernel
theorem dX4_sins_28 : decode cX4_sins 28 = .ok (.iload_n 2, 1) := by decide +kernel
theorem dX4_sins_29 : decode cX4_sins 29 = .ok (.bipush 9, 2) := by decide +kernel
theorem dX4_sins_31 : decode cX4_sins 31 = .ok (.if_icmp .le 10, 3) := by decide +kernel
theorem dX4_sins_34 : decode cX4_sins 34 = .ok (.aload_n 0, 1) := by decide +kernel
theorem dX4_sins_35 : decode cX4_sins 35 = .ok (.bipush (-6), 2) := by decide +kernel
theorem dX4_sins_37 : decode cX4_sins 37 = .ok (.invokevirtual 51, 3) := by decide +kernel
theorem dX4_sins_40 : decode cX4_sins 40 = .ok (.ireturn, 1) := by decide +kernel
theorem dX4_sins_41 : decode cX4_sins 41 = .ok (.aload_n 0, 1) := by decide +kernel
theorem dX4_sins_42 : decode cX4_sins 42 = .ok (.getfield 10, 3) := by decide +kernel
theorem dX4_sins_45 : decode cX4_sins 45 = .ok (.getfield 89, 3) := by decide +kernel
theorem dX4_sins_48 : decode cX4_sins 48 = .ok (.iload_n 1, 1) := by decide +kernel
theorem dX4_sins_49 : decode cX4_sins 49 = .ok (.iaload, 1) := by decide +kernel
theorem dX4_sins_50 : decode cX4_sins 50 = .ok (.istore_n 3, 1) := by decide +kernel
theorem dX4_sins_51 : decode cX4_sins 51 = .ok (.aload_n 0, 1) := by decide +kernel
theorem dX4_sins_52 : decode cX4_sins 52 = .ok (.getfield 10, 3) := by decide +kernel
theorem dX4_sins_55 : decode cX4_sins 55 = .ok (.getfield 89, 3) := by decide +kernel
theorem dX4_sins_58 : decode cX4_sins 58 = .ok (.iload_n 1, 1) := by decide +kernel
theorem dX4_sins_59 : decode cX4_sins 59 = .ok (.iload_n 2, 1) := by decide +kernel
theorem dX4_sins_60 : decode cX4_sins 60 = .ok (.iastore, 1) := by decide +kernel
theorem dX4_sins_61 : decode cX4_sins 61 = .ok (.iload_n 3, 1) := by decide +kernel
theorem dX4_sins_62 : decode cX4_sins 62 = .ok (.ireturn, 1) := by decide +kernel
set_option maxRecDepth 20000 in
theorem ggX4_loads_X0_hasShip : GoodIn wsX4_loads wsX0_hasShip := goodIn_r _ [7, 8, 23, 24, 25, 26, 27, 28, 29, 30, 31, 32, 33, 34] (by decide +kernel) (by decide +kernel)
set_option maxRecDepth 20000 in
theorem gX4_loads_X0_hasShip : GoodIn wsX4_loads (wsV RX4 83 RX0 yX0_hasShip wsX0_hasShip) := goodIn_app (goodIn_of _ (by decide +kernel)) ggX4_loads_X0_hasShip
set_option maxRecDepth 20000 in
theorem ggX4_loads_X4_refused : GoodIn wsX4_loads wsX4_refused := goodIn_r _ [13, 14, 15, 16, 17, 18, 19, 20, 21, 22] (by decide +kernel) (by decide +kernel)
set_option maxRecDepth 20000 in
theorem gX4_loads_X4_refused : GoodIn wsX4_loads (wsV RX4 51 RX4 yX4_refused wsX4_refused) := goodIn_app (goodIn_of _ (by decide +kernel)) ggX4_loads_X4_refused
theorem dX4_loads_0 : decode cX4_loads 0 = .ok (.aload_n 0, 1) := by decide +kernel
theorem dX4_loads_1 : decode cX4_loads 1 = .ok (.getfield 10, 3) := by decide +kernel
theorem dX4_loads_4 : decode cX4_loads 4 = .ok (.iload_n 1, 1) := by decide +kernel
theorem dX4_loads_5 : decode cX4_loads 5 = .ok (.invokevirtual 83, 3) := by decide +kernel
theorem dX4_loads_8 : decode cX4_loads 8 = .ok (.ifCond .ne 9, 3) := by decide +kernel
theorem dX4_loads_11 : decode cX4_loads 11 = .ok (.aload_n 0, 1) := by decide +kernel
theorem dX4_loads_12 : decode cX4_loads 12 = .ok (.iconst (-1), 1) := by decide +kernel
theorem dX4_loads_13 : decode cX4_loads 13 = .ok (.invokevirtual 51, 3) := by decide +kernel
theorem dX4_loads_16 : decode cX4_loads 16 = .ok (.ireturn, 1) := by decide +kernel
theorem dX4_loads_17 : decode cX4_loads 17 = .ok (.iload_n 2, 1) := by decide +kernel
theorem dX4_loads_18 : decode cX4_loads 18 = .ok (.ifCond .ge 10, 3) := by decide +kernel
theorem dX4_loads_21 : decode cX4_loads 21 = .ok (.aload_n 0, 1) := by decide +kernel
theorem dX4_loads_22 : decode cX4_loads 22 = .ok (.bipush (-4), 2) := by decide +kernel
theorem dX4_loads_24 : decode cX4_loads 24 = .ok (.invokevirtual 51, 3) := by decide +kernel
theorem dX4_loads_27 : decode cX4_loads 27 = .ok (.ireturn, 1) := by decide +kernel
theorem dX4_loads_28 : decode cX4_loads 28 = .ok (.iload_n 2, 1) := by decide +kernel
theorem dX4_loads_29 : decode cX4_loads 29 = .ok (.bipush 9, 2) := by decide +kernel
theorem dX4_loads_31 : decode cX4_loads 31 = .ok (.if_icmp .le 10, 3) := by decide +kernel
theorem dX4_loads_34 : decode cX4_loads 34 = .ok (.aload_n 0, 1) := by decide +kernel
theorem dX4_loads_35 : decode cX4_loads 35 = .ok (.bipush (-6), 2) := by decide +kernel
theorem dX4_loads_37 : decode cX4_loads 37 = .ok (.invokevirtual 51, 3) := by decide +kernel
theorem dX4_loads_40 : decode cX4_loads 40 = .ok (.ireturn, 1) := by decide +kernel
theorem dX4_loads_41 : decode cX4_loads 41 = .ok (.aload_n 0, 1) := by decide +kernel
theorem dX4_loads_42 : decode cX4_loads 42 = .ok (.getfield 10, 3) := by decide +kernel
theorem dX4_loads_45 : decode cX4_loads 45 = .ok (.getfield 92, 3) := by decide +kernel
theorem dX4_loads_48 : decode cX4_loads 48 = .ok (.iload_n 1, 1) := by decide +kernel
theorem dX4_loads_49 : decode cX4_loads 49 = .ok (.iaload, 1) := by decide +kernel
theorem dX4_loads_50 : decode cX4_loads 50 = .ok (.istore_n 3, 1) := by decide +kernel
theorem dX4_loads_51 : decode cX4_loads 51 = .ok (.aload_n 0, 1) := by decide +kernel
theorem dX4_loads_52 : decode cX4_loads 52 = .ok (.getfield 10, 3) := by decide +kernel
theorem dX4_loads_55 : decode cX4_loads 55 = .ok (.getfield 92, 3) := by decide +kernel
theorem dX4_loads_58 : decode cX4_loads 58 = .ok (.iload_n 1, 1) := by decide +kernel
theorem dX4_loads_59 : decode cX4_loads 59 = .ok (.iload_n 2, 1) := by decide +kernel
theorem dX4_loads_60 : decode cX4_loads 60 = .ok (.iastore, 1) := by decide +kernel
theorem dX4_loads_61 : decode cX4_loads 61 = .ok (.iload_n 3, 1) := by decide +kernel
theorem dX4_loads_62 : decode cX4_loads 62 = .ok (.ireturn, 1) := by decide +kernel
set_option maxRecDepth 20000 in
theorem ggX4_turn_X0_hasMan : GoodIn wsX4_turn wsX0_hasMan := goodIn_r _ [8, 9, 24, 25, 26, 27, 28, 29, 30, 31, 32, 33, 34, 35] (by decide +kernel) (by decide +kernel)
set_option maxRecDepth 20000 in
theorem gX4_turn_X0_hasMan : GoodIn wsX4_turn (wsV RX4 73 RX0 yX0_hasMan wsX0_hasMan) := goodIn_app (goodIn_of _ (by decide +kernel)) ggX4_turn_X0_hasMan
set_option maxRecDepth 20000 in
theorem ggX4_turn_X4_refused : GoodIn wsX4_turn wsX4_refused := goodIn_r _ [14, 15, 16, 17, 18, 19, 20, 21, 22, 23] (by decide +kernel) (by decide +kernel)
set_option maxRecDepth 20000 in
theorem gX4_turn_X4_refused : GoodIn wsX4_turn (wsV RX4 51 RX4 yX4_refused wsX4_refused) := goodIn_app (goodIn_of _ (by decide +kernel)) ggX4_turn_X4_refused
theorem dX4_turn_0 : decode cX4_turn 0 = .ok (.aload_n 0, 1) := by decide +kernel
theorem dX4_turn_1 : decode cX4_turn 1 = .ok (.getfield 10, 3) := by decide +kernel
theorem dX4_turn_4 : decode cX4_turn 4 = .ok (.iload_n 1, 1) := by decide +kernel
theorem dX4_turn_5 : decode cX4_turn 5 = .ok (.invokevirtual 73, 3) := by decide +kernel
theorem dX4_turn_8 : decode cX4_turn 8 = .ok (.ifCond .ne 9, 3) := by decide +kernel
theorem dX4_turn_11 : decode cX4_turn 11 = .ok (.aload_n 0, 1) := by decide +kernel
theorem dX4_turn_12 : decode cX4_turn 12 = .ok (.iconst (-1), 1) := by decide +kernel
theorem dX4_turn_13 : decode cX4_turn 13 = .ok (.invokevirtual 51, 3) := by decide +kernel
theorem dX4_turn_16 : decode cX4_turn 16 = .ok (.ireturn, 1) := by decide +kernel
theorem dX4_turn_17 : decode cX4_turn 17 = .ok (.iload_n 2, 1) := by decide +kernel
theorem dX4_turn_18 : decode cX4_turn 18 = .ok (.ifCond .lt 9, 3) := by decide +kernel
theorem dX4_turn_21 : decode cX4_turn 21 = .ok (.iload_n 2, 1) := by decide +kernel
theorem dX4_turn_22 : decode cX4_turn 22 = .ok (.bipush 6, 2) := by decide +kernel
theorem dX4_turn_24 : decode cX4_turn 24 = .ok (.if_icmp .lt 10, 3) := by decide +kernel
theorem dX4_turn_27 : decode cX4_turn 27 = .ok (.aload_n 0, 1) := by decide +kernel
theorem dX4_turn_28 : decode cX4_turn 28 = .ok (.bipush (-2), 2) := by decide +kernel
theorem dX4_turn_30 : decode cX4_turn 30 = .ok (.invokevirtual 51, 3) := by decide +kernel
theorem dX4_turn_33 : decode cX4_turn 33 = .ok (.ireturn, 1) := by decide +kernel
theorem dX4_turn_34 : decode cX4_turn 34 = .ok (.iload_n 3, 1) := by decide +kernel
theorem dX4_turn_35 : decode cX4_turn 35 = .ok (.ifCond .ge 10, 3) := by decide +kernel
theorem dX4_turn_38 : decode cX4_turn 38 = .ok (.aload_n 0, 1) := by decide +kernel
theorem dX4_turn_39 : decode cX4_turn 39 = .ok (.bipush (-4), 2) := by decide +kernel
theorem dX4_turn_41 : decode cX4_turn 41 = .ok (.invokevirtual 51, 3) := by decide +kernel
theorem dX4_turn_44 : decode cX4_turn 44 = .ok (.ireturn, 1) := by decide +kernel
theorem dX4_turn_45 : decode cX4_turn 45 = .ok (.iload_n 3, 1) := by decide +kernel
theorem dX4_turn_46 : decode cX4_turn 46 = .ok (.bipush 9, 2) := by decide +kernel
theorem dX4_turn_48 : decode cX4_turn 48 = .ok (.if_icmp .le 10, 3) := by decide +kernel
theorem dX4_turn_51 : decode cX4_turn 51 = .ok (.aload_n 0, 1) := by decide +kernel
theorem dX4_turn_52 : decode cX4_turn 52 = .ok (.bipush (-6), 2) := by decide +kernel
theorem dX4_turn_54 : decode cX4_turn 54 = .ok (.invokevirtual 51, 3) := by decide +kernel
theorem dX4_turn_57 : decode cX4_turn 57 = .ok (.ireturn, 1) := by decide +kernel
theorem dX4_turn_58 : decode cX4_turn 58 = .ok (.bipush 10, 2) := by decide +kernel
theorem dX4_turn_60 : decode cX4_turn 60 = .ok (.aload_n 0, 1) := by decide +kernel
theorem dX4_turn_61 : decode cX4_turn 61 = .ok (.getfield 10, 3) := by decide +kernel
theorem dX4_turn_64 : decode cX4_turn 64 = .ok (.getfield 95, 3) := by decide +kernel
theorem dX4_turn_67 : decode cX4_turn 67 = .ok (.iload_n 1, 1) := by decide +kernel
theorem dX4_turn_68 : decode cX4_turn 68 = .ok (.iaload, 1) := by decide +kernel
theorem dX4_turn_69 : decode cX4_turn 69 = .ok (.imul, 1) := by decide +kernel
theorem dX4_turn_70 : decode cX4_turn 70 = .ok (.aload_n 0, 1) := by decide +kernel
theorem dX4_turn_71 : decode cX4_turn 71 = .ok (.getfield 10, 3) := by decide +kernel
theorem dX4_turn_74 : decode cX4_turn 74 = .ok (.getfield 98, 3) := by decide +kernel
theorem dX4_turn_77 : decode cX4_turn 77 = .ok (.iload_n 1, 1) := by decide +kernel
theorem dX4_turn_78 : decode cX4_turn 78 = .ok (.iaload, 1) := by decide +kernel
theorem dX4_turn_79 : decode cX4_turn 79 = .ok (.iadd, 1) := by decide +kernel
theorem dX4_turn_80 : decode cX4_turn 80 = .ok (.istore 4, 2) := by decide +kernel
theorem dX4_turn_82 : decode cX4_turn 82 = .ok (.aload_n 0, 1) := by decide +kernel
theorem dX4_turn_83 : decode cX4_turn 83 = .ok (.getfield 10, 3) := by decide +kernel
theorem dX4_turn_86 : decode cX4_turn 86 = .ok (.getfield 95, 3) := by decide +kernel
theorem dX4_turn_89 : decode cX4_turn 89 = .ok (.iload_n 1, 1) := by decide +kernel
theorem dX4_turn_90 : decode cX4_turn 90 = .ok (.iload_n 2, 1) := by decide +kernel
theorem dX4_turn_91 : decode cX4_turn 91 = .ok (.iastore, 1) := by decide +kernel
theorem dX4_turn_92 : decode cX4_turn 92 = .ok (.aload_n 0, 1) := by decide +kernel
theorem dX4_turn_93 : decode cX4_turn 93 = .ok (.getfield 10, 3) := by decide +kernel
theorem dX4_turn_96 : decode cX4_turn 96 = .ok (.getfield 98, 3) := by decide +kernel
theorem dX4_turn_99 : decode cX4_turn 99 = .ok (.iload_n 1, 1) := by decide +kernel
theorem dX4_turn_100 : decode cX4_turn 100 = .ok (.iload_n 3, 1) := by decide +kernel
theorem dX4_turn_101 : decode cX4_turn 101 = .ok (.iastore, 1) := by decide +kernel
theorem dX4_turn_102 : decode cX4_turn 102 = .ok (.iload 4, 2) := by decide +kernel
theorem dX4_turn_104 : decode cX4_turn 104 = .ok (.ireturn, 1) := by decide +kernel
set_option maxRecDepth 20000 in
theorem ggX4_tides_X4_refused : GoodIn wsX4_tides wsX4_refused := goodIn_r _ [6, 7, 44, 45, 46, 47, 48, 49, 50, 51] (by decide +kernel) (by decide +kernel)
set_option maxRecDepth 20000 in
theorem gX4_tides_X4_refused : GoodIn wsX4_tides (wsV RX4 51 RX4 yX4_refused wsX4_refused) := goodIn_app (goodIn_of _ (by decide +kernel)) ggX4_tides_X4_refused
set_option maxRecDepth 20000 in
theorem ggX4_tides_X0_hasTidesLeft : GoodIn wsX4_tides wsX0_hasTidesLeft := goodIn_r _ [12, 13, 52, 53, 54, 55, 56, 57, 58, 59, 60, 61, 62, 63] (by decide +kernel) (by decide +kernel)
set_option maxRecDepth 20000 in
theorem gX4_tides_X0_hasTidesLeft : GoodIn wsX4_tides (wsV RX4 101 RX0 yX0_hasTidesLeft wsX0_hasTidesLeft) := goodIn_app (goodIn_of _ (by decide +kernel)) ggX4_tides_X0_hasTidesLeft
set_option maxRecDepth 20000 in
theorem ggX4_tides_X0_passTides : GoodIn wsX4_tides wsX0_passTides := goodIn_r _ [17, 18, 19, 20, 11, 21, 13, 22, 23, 24, 25, 26, 27, 28, 29, 30, 31, 32, 33, 34, 35, 36, 37, 38, 39, 52, 53, 54, 55, 56, 57, 58, 59, 60, 61, 62, 63] (by decide +kernel) (by decide +kernel)
set_option maxRecDepth 20000 in
theorem gX4_tides_X0_passTides : GoodIn wsX4_tides (wsV RX4 104 RX0 yX0_passTides wsX0_passTides) := goodIn_app (goodIn_of _ (by decide +kernel)) ggX4_tides_X0_passTides
set_option maxRecDepth 20000 in
theorem ggX4_tides_X0_outBits : GoodIn wsX4_tides wsX0_outBits := goodIn_r _ [43, 29, 31, 32, 33, 11, 34, 30, 52, 53, 54, 55, 56, 57, 58, 59, 60, 61, 62, 63] (by decide +kernel) (by decide +kernel)
set_option maxRecDepth 20000 in
theorem gX4_tides_X0_outBits : GoodIn wsX4_tides (wsV RX4 108 RX0 yX0_outBits wsX0_outBits) := goodIn_app (goodIn_of _ (by decide +kernel)) ggX4_tides_X0_outBits
theorem dX4_tides_0 : decode cX4_tides 0 = .ok (.iload_n 1, 1) := by decide +kernel
theorem dX4_tides_1 : decode cX4_tides 1 = .ok (.iconst 1, 1) := by decide +kernel
theorem dX4_tides_2 : decode cX4_tides 2 = .ok (.if_icmp .ge 10, 3) := by decide +kernel
theorem dX4_tides_5 : decode cX4_tides 5 = .ok (.aload_n 0, 1) := by decide +kernel
theorem dX4_tides_6 : decode cX4_tides 6 = .ok (.bipush (-4), 2) := by decide +kernel
theorem dX4_tides_8 : decode cX4_tides 8 = .ok (.invokevirtual 51, 3) := by decide +kernel
theorem dX4_tides_11 : decode cX4_tides 11 = .ok (.ireturn, 1) := by decide +kernel
theorem dX4_tides_12 : decode cX4_tides 12 = .ok (.iload_n 1, 1) := by decide +kernel
theorem dX4_tides_13 : decode cX4_tides 13 = .ok (.bipush 60, 2) := by decide +kernel
theorem dX4_tides_15 : decode cX4_tides 15 = .ok (.if_icmp .gt 14, 3) := by decide +kernel
theorem dX4_tides_18 : decode cX4_tides 18 = .ok (.aload_n 0, 1) := by decide +kernel
theorem dX4_tides_19 : decode cX4_tides 19 = .ok (.getfield 10, 3) := by decide +kernel
theorem dX4_tides_22 : decode cX4_tides 22 = .ok (.iload_n 1, 1) := by decide +kernel
theorem dX4_tides_23 : decode cX4_tides 23 = .ok (.invokevirtual 101, 3) := by decide +kernel
theorem dX4_tides_26 : decode cX4_tides 26 = .ok (.ifCond .ne 10, 3) := by decide +kernel
theorem dX4_tides_29 : decode cX4_tides 29 = .ok (.aload_n 0, 1) := by decide +kernel
theorem dX4_tides_30 : decode cX4_tides 30 = .ok (.bipush (-6), 2) := by decide +kernel
theorem dX4_tides_32 : decode cX4_tides 32 = .ok (.invokevirtual 51, 3) := by decide +kernel
theorem dX4_tides_35 : decode cX4_tides 35 = .ok (.ireturn, 1) := by decide +kernel
theorem dX4_tides_36 : decode cX4_tides 36 = .ok (.aload_n 0, 1) := by decide +kernel
theorem dX4_tides_37 : decode cX4_tides 37 = .ok (.getfield 10, 3) := by decide +kernel
theorem dX4_tides_40 : decode cX4_tides 40 = .ok (.iload_n 1, 1) := by decide +kernel
theorem dX4_tides_41 : decode cX4_tides 41 = .ok (.invokevirtual 104, 3) := by decide +kernel
theorem dX4_tides_44 : decode cX4_tides 44 = .ok (.aload_n 0, 1) := by decide +kernel
theorem dX4_tides_45 : decode cX4_tides 45 = .ok (.getfield 10, 3) := by decide +kernel
theorem dX4_tides_48 : decode cX4_tides 48 = .ok (.invokevirtual 108, 3) := by decide +kernel
theorem dX4_tides_51 : decode cX4_tides 51 = .ok (.ireturn, 1) := by decide +kernel
set_option maxRecDepth 20000 in
theorem ggX4_ship_X0_hasShip : GoodIn wsX4_ship wsX0_hasShip := goodIn_r _ [9, 10, 68, 69, 70, 71, 72, 73, 74, 75, 76, 77, 78, 79] (by decide +kernel) (by decide +kernel)
set_option maxRecDepth 20000 in
theorem gX4_ship_X0_hasShip : GoodIn wsX4_ship (wsV RX4 83 RX0 yX0_hasShip wsX0_hasShip) := goodIn_app (goodIn_of _ (by decide +kernel)) ggX4_ship_X0_hasShip
set_option maxRecDepth 20000 in
theorem ggX4_ship_X4_refused : GoodIn wsX4_ship wsX4_refused := goodIn_r _ [15, 16, 60, 61, 62, 63, 64, 65, 66, 67] (by decide +kernel) (by decide +kernel)
set_option maxRecDepth 20000 in
theorem gX4_ship_X4_refused : GoodIn wsX4_ship (wsV RX4 51 RX4 yX4_refused wsX4_refused) := goodIn_app (goodIn_of _ (by decide +kernel)) ggX4_ship_X4_refused
set_option maxRecDepth 20000 in
theorem ggX4_ship_X0_holds : GoodIn wsX4_ship wsX0_holds := goodIn_r _ [20, 21, 22, 23, 24, 25, 8, 26, 27, 68, 69, 70, 71, 72, 73, 74, 75, 76, 77, 78, 79] (by decide +kernel) (by decide +kernel)
set_option maxRecDepth 20000 in
theorem gX4_ship_X0_holds : GoodIn wsX4_ship (wsV RX4 118 RX0 yX0_holds wsX0_holds) := goodIn_app (goodIn_of _ (by decide +kernel)) ggX4_ship_X0_holds
set_option maxRecDepth 20000 in
theorem ggX4_ship_X0_lacks : GoodIn wsX4_ship wsX0_lacks := goodIn_r _ [31, 32, 33, 34, 35, 36, 37, 38, 39, 8, 40, 41, 42, 18, 19, 20, 21, 22, 23, 24, 25, 26, 27, 68, 69, 70, 71, 72, 73, 74, 75, 76, 77, 78, 79] (by decide +kernel) (by decide +kernel)
set_option maxRecDepth 20000 in
theorem gX4_ship_X0_lacks : GoodIn wsX4_ship (wsV RX4 121 RX0 yX0_lacks wsX0_lacks) := goodIn_app (goodIn_of _ (by decide +kernel)) ggX4_ship_X0_lacks
set_option maxRecDepth 20000 in
theorem ggX4_ship_X0_pool : GoodIn wsX4_ship wsX0_pool := goodIn_r _ [46, 47, 48, 49, 50, 51, 52, 8, 53, 54, 55, 33, 34, 35, 36, 23, 24, 25, 26, 27, 68, 69, 70, 71, 72, 73, 74, 75, 76, 77, 78, 79] (by decide +kernel) (by decide +kernel)
set_option maxRecDepth 20000 in
theorem gX4_ship_X0_pool : GoodIn wsX4_ship (wsV RX4 124 RX0 yX0_pool wsX0_pool) := goodIn_app (goodIn_of _ (by decide +kernel)) ggX4_ship_X0_pool
set_option maxRecDepth 20000 in
theorem ggX4_ship_X0_crew : GoodIn wsX4_ship wsX0_crew := goodIn_r _ [59, 47, 48, 68, 69, 70, 71, 72, 73, 74, 75, 76, 77, 78, 79] (by decide +kernel) (by decide +kernel)
set_option maxRecDepth 20000 in
theorem gX4_ship_X0_crew : GoodIn wsX4_ship (wsV RX4 127 RX0 yX0_crew wsX0_crew) := goodIn_app (goodIn_of _ (by decide +kernel)) ggX4_ship_X0_crew
theorem dX4_ship_0 : decode cX4_ship 0 = .ok (.aload_n 0, 1) := by decide +kernel
theorem dX4_ship_1 : decode cX4_ship 1 = .ok (.getfield 10, 3) := by decide +kernel
theorem dX4_ship_4 : decode cX4_ship 4 = .ok (.iload_n 1, 1) := by decide +kernel
theorem dX4_ship_5 : decode cX4_ship 5 = .ok (.invokevirtual 83, 3) := by decide +kernel
theorem dX4_ship_8 : decode cX4_ship 8 = .ok (.ifCond .ne 9, 3) := by decide +kernel
theorem dX4_ship_11 : decode cX4_ship 11 = .ok (.aload_n 0, 1) := by decide +kernel
theorem dX4_ship_12 : decode cX4_ship 12 = .ok (.iconst (-1), 1) := by decide +kernel
theorem dX4_ship_13 : decode cX4_ship 13 = .ok (.invokevirtual 51, 3) := by decide +kernel
theorem dX4_ship_16 : decode cX4_ship 16 = .ok (.ireturn, 1) := by decide +kernel
theorem dX4_ship_17 : decode cX4_ship 17 = .ok (.iload_n 2, 1) := by decide +kernel
theorem dX4_ship_18 : decode cX4_ship 18 = .ok (.tableswitch 108 0 6 #[42, 52, 62, 72, 81, 90, 99], 42) := by decide +kernel
theorem dX4_ship_60 : decode cX4_ship 60 = .ok (.aload_n 0, 1) := by decide +kernel
theorem dX4_ship_61 : decode cX4_ship 61 = .ok (.getfield 10, 3) := by decide +kernel
theorem dX4_ship_64 : decode cX4_ship 64 = .ok (.getfield 92, 3) := by decide +kernel
theorem dX4_ship_67 : decode cX4_ship 67 = .ok (.iload_n 1, 1) := by decide +kernel
theorem dX4_ship_68 : decode cX4_ship 68 = .ok (.iaload, 1) := by decide +kernel
theorem dX4_ship_69 : decode cX4_ship 69 = .ok (.ireturn, 1) := by decide +kernel
theorem dX4_ship_70 : decode cX4_ship 70 = .ok (.aload_n 0, 1) := by decide +kernel
theorem dX4_ship_71 : decode cX4_ship 71 = .ok (.getfield 10, 3) := by decide +kernel
theorem dX4_ship_74 : decode cX4_ship 74 = .ok (.getfield 112, 3) := by decide +kernel
theorem dX4_ship_77 : decode cX4_ship 77 = .ok (.iload_n 1, 1) := by decide +kernel
theorem dX4_ship_78 : decode cX4_ship 78 = .ok (.iaload, 1) := by decide +kernel
theorem dX4_ship_79 : decode cX4_ship 79 = .ok (.ireturn, 1) := by decide +kernel
theorem dX4_ship_80 : decode cX4_ship 80 = .ok (.aload_n 0, 1) := by decide +kernel
theorem dX4_ship_81 : decode cX4_ship 81 = .ok (.getfield 10, 3) := by decide +kernel
theorem dX4_ship_84 : decode cX4_ship 84 = .ok (.getfield 115, 3) := by decide +kernel
theorem dX4_ship_87 : decode cX4_ship 87 = .ok (.iload_n 1, 1) := by decide +kernel
theorem dX4_ship_88 : decode cX4_ship 88 = .ok (.iaload, 1) := by decide +kernel
theorem dX4_ship_89 : decode cX4_ship 89 = .ok (.ireturn, 1) := by decide +kernel
theorem dX4_ship_90 : decode cX4_ship 90 = .ok (.aload_n 0, 1) := by decide +kernel
theorem dX4_ship_91 : decode cX4_ship 91 = .ok (.getfield 10, 3) := by decide +kernel
theorem dX4_ship_94 : decode cX4_ship 94 = .ok (.iload_n 1, 1) := by decide +kernel
theorem dX4_ship_95 : decode cX4_ship 95 = .ok (.invokevirtual 118, 3) := by decide +kernel
theorem dX4_ship_98 : decode cX4_ship 98 = .ok (.ireturn, 1) := by decide +kernel
theorem dX4_ship_99 : decode cX4_ship 99 = .ok (.aload_n 0, 1) := by decide +kernel
theorem dX4_ship_100 : decode cX4_ship 100 = .ok (.getfield 10, 3) := by decide +kernel
theorem dX4_ship_103 : decode cX4_ship 103 = .ok (.iload_n 1, 1) := by decide +kernel
theorem dX4_ship_104 : decode cX4_ship 104 = .ok (.invokevirtual 121, 3) := by decide +kernel
theorem dX4_ship_107 : decode cX4_ship 107 = .ok (.ireturn, 1) := by decide +kernel
theorem dX4_ship_108 : decode cX4_ship 108 = .ok (.aload_n 0, 1) := by decide +kernel
theorem dX4_ship_109 : decode cX4_ship 109 = .ok (.getfield 10, 3) := by decide +kernel
theorem dX4_ship_112 : decode cX4_ship 112 = .ok (.iload_n 1, 1) := by decide +kernel
theorem dX4_ship_113 : decode cX4_ship 113 = .ok (.invokevirtual 124, 3) := by decide +kernel
theorem dX4_ship_116 : decode cX4_ship 116 = .ok (.ireturn, 1) := by decide +kernel
theorem dX4_ship_117 : decode cX4_ship 117 = .ok (.aload_n 0, 1) := by decide +kernel
theorem dX4_ship_118 : decode cX4_ship 118 = .ok (.getfield 10, 3) := by decide +kernel
theorem dX4_ship_121 : decode cX4_ship 121 = .ok (.iload_n 1, 1) := by decide +kernel
theorem dX4_ship_122 : decode cX4_ship 122 = .ok (.invokevirtual 127, 3) := by decide +kernel
theorem dX4_ship_125 : decode cX4_ship 125 = .ok (.ireturn, 1) := by decide +kernel
theorem dX4_ship_126 : decode cX4_ship 126 = .ok (.aload_n 0, 1) := by decide +kernel
theorem dX4_ship_127 : decode cX4_ship 127 = .ok (.bipush (-2), 2) := by decide +kernel
theorem dX4_ship_129 : decode cX4_ship 129 = .ok (.invokevirtual 51, 3) := by decide +kernel
theorem dX4_ship_132 : decode cX4_ship 132 = .ok (.ireturn, 1) := by decide +kernel
set_option maxRecDepth 20000 in
theorem ggX4_man_X0_hasMan : GoodIn wsX4_man wsX0_hasMan := goodIn_r _ [10, 11, 58, 59, 60, 61, 62, 63, 64, 65, 66, 67, 68, 69] (by decide +kernel) (by decide +kernel)
set_option maxRecDepth 20000 in
theorem gX4_man_X0_hasMan : GoodIn wsX4_man (wsV RX4 73 RX0 yX0_hasMan wsX0_hasMan) := goodIn_app (goodIn_of _ (by decide +kernel)) ggX4_man_X0_hasMan
set_option maxRecDepth 20000 in
theorem ggX4_man_X4_refused : GoodIn wsX4_man wsX4_refused := goodIn_r _ [16, 17, 50, 51, 52, 53, 54, 55, 56, 57] (by decide +kernel) (by decide +kernel)
set_option maxRecDepth 20000 in
theorem gX4_man_X4_refused : GoodIn wsX4_man (wsV RX4 51 RX4 yX4_refused wsX4_refused) := goodIn_app (goodIn_of _ (by decide +kernel)) ggX4_man_X4_refused
set_option maxRecDepth 20000 in
theorem ggX4_man_X0_worth : GoodIn wsX4_man wsX0_worth := goodIn_r _ [21, 22, 23, 24, 25, 26, 27, 28, 29, 30, 9, 31, 32, 58, 59, 60, 61, 62, 63, 64, 65, 66, 67, 68, 69] (by decide +kernel) (by decide +kernel)
set_option maxRecDepth 20000 in
theorem gX4_man_X0_worth : GoodIn wsX4_man (wsV RX4 130 RX0 yX0_worth wsX0_worth) := goodIn_app (goodIn_of _ (by decide +kernel)) ggX4_man_X0_worth
set_option maxRecDepth 20000 in
theorem ggX4_man_X0_carried : GoodIn wsX4_man wsX0_carried := goodIn_r _ [36, 23, 37, 19, 20, 9, 21, 22, 24, 25, 26, 27, 28, 29, 30, 31, 32, 58, 59, 60, 61, 62, 63, 64, 65, 66, 67, 68, 69] (by decide +kernel) (by decide +kernel)
set_option maxRecDepth 20000 in
theorem gX4_man_X0_carried : GoodIn wsX4_man (wsV RX4 133 RX0 yX0_carried wsX0_carried) := goodIn_app (goodIn_of _ (by decide +kernel)) ggX4_man_X0_carried
set_option maxRecDepth 20000 in
theorem ggX4_man_X0_canTell : GoodIn wsX4_man wsX0_canTell := goodIn_r _ [41, 42, 43, 44, 7, 8, 9, 10, 11, 45, 46, 47, 48, 49, 58, 59, 60, 61, 62, 63, 64, 65, 66, 67, 68, 69] (by decide +kernel) (by decide +kernel)
set_option maxRecDepth 20000 in
theorem gX4_man_X0_canTell : GoodIn wsX4_man (wsV RX4 77 RX0 yX0_canTell wsX0_canTell) := goodIn_app (goodIn_of _ (by decide +kernel)) ggX4_man_X0_canTell
theorem dX4_man_0 : decode cX4_man 0 = .ok (.aload_n 0, 1) := by decide +kernel
theorem dX4_man_1 : decode cX4_man 1 = .ok (.getfield 10, 3) := by decide +kernel
theorem dX4_man_4 : decode cX4_man 4 = .ok (.iload_n 1, 1) := by decide +kernel
theorem dX4_man_5 : decode cX4_man 5 = .ok (.invokevirtual 73, 3) := by decide +kernel
theorem dX4_man_8 : decode cX4_man 8 = .ok (.ifCond .ne 9, 3) := by decide +kernel
theorem dX4_man_11 : decode cX4_man 11 = .ok (.aload_n 0, 1) := by decide +kernel
theorem dX4_man_12 : decode cX4_man 12 = .ok (.iconst (-1), 1) := by decide +kernel
theorem dX4_man_13 : decode cX4_man 13 = .ok (.invokevirtual 51, 3) := by decide +kernel
theorem dX4_man_16 : decode cX4_man 16 = .ok (.ireturn, 1) := by decide +kernel
theorem dX4_man_17 : decode cX4_man 17 = .ok (.iload_n 2, 1) := by decide +kernel
theorem dX4_man_18 : decode cX4_man 18 = .ok (.tableswitch 117 0 6 #[42, 52, 62, 72, 82, 91, 100], 42) := by decide +kernel
theorem dX4_man_60 : decode cX4_man 60 = .ok (.aload_n 0, 1) := by decide +kernel
theorem dX4_man_61 : decode cX4_man 61 = .ok (.getfield 10, 3) := by decide +kernel
theorem dX4_man_64 : decode cX4_man 64 = .ok (.getfield 95, 3) := by decide +kernel
theorem dX4_man_67 : decode cX4_man 67 = .ok (.iload_n 1, 1) := by decide +kernel
theorem dX4_man_68 : decode cX4_man 68 = .ok (.iaload, 1) := by decide +kernel
theorem dX4_man_69 : decode cX4_man 69 = .ok (.ireturn, 1) := by decide +kernel
theorem dX4_man_70 : decode cX4_man 70 = .ok (.aload_n 0, 1) := by decide +kernel
theorem dX4_man_71 : decode cX4_man 71 = .ok (.getfield 10, 3) := by decide +kernel
theorem dX4_man_74 : decode cX4_man 74 = .ok (.getfield 98, 3) := by decide +kernel
theorem dX4_man_77 : decode cX4_man 77 = .ok (.iload_n 1, 1) := by decide +kernel
theorem dX4_man_78 : decode cX4_man 78 = .ok (.iaload, 1) := by decide +kernel
theorem dX4_man_79 : decode cX4_man 79 = .ok (.ireturn, 1) := by decide +kernel
theorem dX4_man_80 : decode cX4_man 80 = .ok (.aload_n 0, 1) := by decide +kernel
theorem dX4_man_81 : decode cX4_man 81 = .ok (.getfield 10, 3) := by decide +kernel
theorem dX4_man_84 : decode cX4_man 84 = .ok (.getfield 89, 3) := by decide +kernel
theorem dX4_man_87 : decode cX4_man 87 = .ok (.iload_n 1, 1) := by decide +kernel
theorem dX4_man_88 : decode cX4_man 88 = .ok (.iaload, 1) := by decide +kernel
theorem dX4_man_89 : decode cX4_man 89 = .ok (.ireturn, 1) := by decide +kernel
theorem dX4_man_90 : decode cX4_man 90 = .ok (.aload_n 0, 1) := by decide +kernel
theorem dX4_man_91 : decode cX4_man 91 = .ok (.getfield 10, 3) := by decide +kernel
theorem dX4_man_94 : decode cX4_man 94 = .ok (.getfield 86, 3) := by decide +kernel
theorem dX4_man_97 : decode cX4_man 97 = .ok (.iload_n 1, 1) := by decide +kernel
theorem dX4_man_98 : decode cX4_man 98 = .ok (.iaload, 1) := by decide +kernel
theorem dX4_man_99 : decode cX4_man 99 = .ok (.ireturn, 1) := by decide +kernel
theorem dX4_man_100 : decode cX4_man 100 = .ok (.aload_n 0, 1) := by decide +kernel
theorem dX4_man_101 : decode cX4_man 101 = .ok (.getfield 10, 3) := by decide +kernel
theorem dX4_man_104 : decode cX4_man 104 = .ok (.iload_n 1, 1) := by decide +kernel
theorem dX4_man_105 : decode cX4_man 105 = .ok (.invokevirtual 130, 3) := by decide +kernel
theorem dX4_man_108 : decode cX4_man 108 = .ok (.ireturn, 1) := by decide +kernel
theorem dX4_man_109 : decode cX4_man 109 = .ok (.aload_n 0, 1) := by decide +kernel
theorem dX4_man_110 : decode cX4_man 110 = .ok (.getfield 10, 3) := by decide +kernel
theorem dX4_man_113 : decode cX4_man 113 = .ok (.iload_n 1, 1) := by decide +kernel
theorem dX4_man_114 : decode cX4_man 114 = .ok (.invokevirtual 133, 3) := by decide +kernel
theorem dX4_man_117 : decode cX4_man 117 = .ok (.ireturn, 1) := by decide +kernel
theorem dX4_man_118 : decode cX4_man 118 = .ok (.aload_n 0, 1) := by decide +kernel
theorem dX4_man_119 : decode cX4_man 119 = .ok (.getfield 10, 3) := by decide +kernel
theorem dX4_man_122 : decode cX4_man 122 = .ok (.iload_n 1, 1) := by decide +kernel
theorem dX4_man_123 : decode cX4_man 123 = .ok (.invokevirtual 77, 3) := by decide +kernel
theorem dX4_man_126 : decode cX4_man 126 = .ok (.ifCond .eq 7, 3) := by decide +kernel
theorem dX4_man_129 : decode cX4_man 129 = .ok (.iconst 1, 1) := by decide +kernel
theorem dX4_man_130 : decode cX4_man 130 = .ok (.goto 4, 3) := by decide +kernel
theorem dX4_man_133 : decode cX4_man 133 = .ok (.iconst 0, 1) := by decide +kernel
theorem dX4_man_134 : decode cX4_man 134 = .ok (.ireturn, 1) := by decide +kernel
theorem dX4_man_135 : decode cX4_man 135 = .ok (.aload_n 0, 1) := by decide +kernel
theorem dX4_man_136 : decode cX4_man 136 = .ok (.bipush (-2), 2) := by decide +kernel
theorem dX4_man_138 : decode cX4_man 138 = .ok (.invokevirtual 51, 3) := by decide +kernel
theorem dX4_man_141 : decode cX4_man 141 = .ok (.ireturn, 1) := by decide +kernel
set_option maxRecDepth 20000 in
theorem ggX4_shipThen_X0_hasShip : GoodIn wsX4_shipThen wsX0_hasShip := goodIn_r _ [8, 9, 66, 67, 68, 69, 70, 71, 72, 73, 74, 75, 76, 77] (by decide +kernel) (by decide +kernel)
set_option maxRecDepth 20000 in
theorem gX4_shipThen_X0_hasShip : GoodIn wsX4_shipThen (wsV RX4 83 RX0 yX0_hasShip wsX0_hasShip) := goodIn_app (goodIn_of _ (by decide +kernel)) ggX4_shipThen_X0_hasShip
set_option maxRecDepth 20000 in
theorem ggX4_shipThen_X4_refused : GoodIn wsX4_shipThen wsX4_refused := goodIn_r _ [14, 15, 58, 59, 60, 61, 62, 63, 64, 65] (by decide +kernel) (by decide +kernel)
set_option maxRecDepth 20000 in
theorem gX4_shipThen_X4_refused : GoodIn wsX4_shipThen (wsV RX4 51 RX4 yX4_refused wsX4_refused) := goodIn_app (goodIn_of _ (by decide +kernel)) ggX4_shipThen_X4_refused
set_option maxRecDepth 20000 in
theorem ggX4_shipThen_X0_copyFrom : GoodIn wsX4_shipThen wsX0_copyFrom := goodIn_r _ [19, 9, 20, 21, 22, 23, 24, 25, 26, 27, 28, 29, 66, 67, 68, 69, 70, 71, 72, 73, 74, 75, 76, 77] (by decide +kernel) (by decide +kernel)
set_option maxRecDepth 20000 in
theorem gX4_shipThen_X0_copyFrom : GoodIn wsX4_shipThen (wsV RX4 62 RX0 yX0_copyFrom wsX0_copyFrom) := goodIn_app (goodIn_of _ (by decide +kernel)) ggX4_shipThen_X0_copyFrom
set_option maxRecDepth 20000 in
theorem ggX4_shipThen_X0_passTides : GoodIn wsX4_shipThen wsX0_passTides := goodIn_r _ [33, 34, 35, 36, 7, 37, 22, 20, 29, 28, 38, 39, 40, 41, 9, 25, 42, 43, 44, 45, 46, 47, 48, 49, 26, 66, 67, 68, 69, 70, 71, 72, 73, 74, 75, 76, 77] (by decide +kernel) (by decide +kernel)
set_option maxRecDepth 20000 in
theorem gX4_shipThen_X0_passTides : GoodIn wsX4_shipThen (wsV RX4 104 RX0 yX0_passTides wsX0_passTides) := goodIn_app (goodIn_of _ (by decide +kernel)) ggX4_shipThen_X0_passTides
set_option maxRecDepth 20000 in
theorem ggX4_shipThen_X0_holds : GoodIn wsX4_shipThen wsX0_holds := goodIn_r _ [53, 23, 21, 54, 55, 56, 7, 57, 22, 66, 67, 68, 69, 70, 71, 72, 73, 74, 75, 76, 77] (by decide +kernel) (by decide +kernel)
set_option maxRecDepth 20000 in
theorem gX4_shipThen_X0_holds : GoodIn wsX4_shipThen (wsV RX4 118 RX0 yX0_holds wsX0_holds) := goodIn_app (goodIn_of _ (by decide +kernel)) ggX4_shipThen_X0_holds
theorem dX4_shipThen_0 : decode cX4_shipThen 0 = .ok (.aload_n 0, 1) := by decide +kernel
theorem dX4_shipThen_1 : decode cX4_shipThen 1 = .ok (.getfield 10, 3) := by decide +kernel
theorem dX4_shipThen_4 : decode cX4_shipThen 4 = .ok (.iload_n 1, 1) := by decide +kernel
theorem dX4_shipThen_5 : decode cX4_shipThen 5 = .ok (.invokevirtual 83, 3) := by decide +kernel
theorem dX4_shipThen_8 : decode cX4_shipThen 8 = .ok (.ifCond .ne 9, 3) := by decide +kernel
theorem dX4_shipThen_11 : decode cX4_shipThen 11 = .ok (.aload_n 0, 1) := by decide +kernel
theorem dX4_shipThen_12 : decode cX4_shipThen 12 = .ok (.iconst (-1), 1) := by decide +kernel
theorem dX4_shipThen_13 : decode cX4_shipThen 13 = .ok (.invokevirtual 51, 3) := by decide +kernel
theorem dX4_shipThen_16 : decode cX4_shipThen 16 = .ok (.ireturn, 1) := by decide +kernel
theorem dX4_shipThen_17 : decode cX4_shipThen 17 = .ok (.iload_n 2, 1) := by decide +kernel
theorem dX4_shipThen_18 : decode cX4_shipThen 18 = .ok (.ifCond .ge 10, 3) := by decide +kernel
theorem dX4_shipThen_21 : decode cX4_shipThen 21 = .ok (.aload_n 0, 1) := by decide +kernel
theorem dX4_shipThen_22 : decode cX4_shipThen 22 = .ok (.bipush (-4), 2) := by decide +kernel
theorem dX4_shipThen_24 : decode cX4_shipThen 24 = .ok (.invokevirtual 51, 3) := by decide +kernel
theorem dX4_shipThen_27 : decode cX4_shipThen 27 = .ok (.ireturn, 1) := by decide +kernel
theorem dX4_shipThen_28 : decode cX4_shipThen 28 = .ok (.iload_n 2, 1) := by decide +kernel
theorem dX4_shipThen_29 : decode cX4_shipThen 29 = .ok (.bipush 60, 2) := by decide +kernel
theorem dX4_shipThen_31 : decode cX4_shipThen 31 = .ok (.if_icmp .le 10, 3) := by decide +kernel
theorem dX4_shipThen_34 : decode cX4_shipThen 34 = .ok (.aload_n 0, 1) := by decide +kernel
theorem dX4_shipThen_35 : decode cX4_shipThen 35 = .ok (.bipush (-6), 2) := by decide +kernel
theorem dX4_shipThen_37 : decode cX4_shipThen 37 = .ok (.invokevirtual 51, 3) := by decide +kernel
theorem dX4_shipThen_40 : decode cX4_shipThen 40 = .ok (.ireturn, 1) := by decide +kernel
theorem dX4_shipThen_41 : decode cX4_shipThen 41 = .ok (.iload_n 3, 1) := by decide +kernel
theorem dX4_shipThen_42 : decode cX4_shipThen 42 = .ok (.ifCond .eq 15, 3) := by decide +kernel
theorem dX4_shipThen_45 : decode cX4_shipThen 45 = .ok (.iload_n 3, 1) := by decide +kernel
theorem dX4_shipThen_46 : decode cX4_shipThen 46 = .ok (.iconst 1, 1) := by decide +kernel
theorem dX4_shipThen_47 : decode cX4_shipThen 47 = .ok (.if_icmp .eq 10, 3) := by decide +kernel
theorem dX4_shipThen_50 : decode cX4_shipThen 50 = .ok (.aload_n 0, 1) := by decide +kernel
theorem dX4_shipThen_51 : decode cX4_shipThen 51 = .ok (.bipush (-2), 2) := by decide +kernel
theorem dX4_shipThen_53 : decode cX4_shipThen 53 = .ok (.invokevirtual 51, 3) := by decide +kernel
theorem dX4_shipThen_56 : decode cX4_shipThen 56 = .ok (.ireturn, 1) := by decide +kernel
theorem dX4_shipThen_57 : decode cX4_shipThen 57 = .ok (.aload_n 0, 1) := by decide +kernel
theorem dX4_shipThen_58 : decode cX4_shipThen 58 = .ok (.getfield 16, 3) := by decide +kernel
theorem dX4_shipThen_61 : decode cX4_shipThen 61 = .ok (.aload_n 0, 1) := by decide +kernel
theorem dX4_shipThen_62 : decode cX4_shipThen 62 = .ok (.getfield 10, 3) := by decide +kernel
theorem dX4_shipThen_65 : decode cX4_shipThen 65 = .ok (.invokevirtual 62, 3) := by decide +kernel
theorem dX4_shipThen_68 : decode cX4_shipThen 68 = .ok (.aload_n 0, 1) := by decide +kernel
theorem dX4_shipThen_69 : decode cX4_shipThen 69 = .ok (.getfield 16, 3) := by decide +kernel
theorem dX4_shipThen_72 : decode cX4_shipThen 72 = .ok (.iload_n 2, 1) := by decide +kernel
theorem dX4_shipThen_73 : decode cX4_shipThen 73 = .ok (.invokevirtual 104, 3) := by decide +kernel
theorem dX4_shipThen_76 : decode cX4_shipThen 76 = .ok (.iload_n 3, 1) := by decide +kernel
theorem dX4_shipThen_77 : decode cX4_shipThen 77 = .ok (.ifCond .ne 15, 3) := by decide +kernel
theorem dX4_shipThen_80 : decode cX4_shipThen 80 = .ok (.aload_n 0, 1) := by decide +kernel
theorem dX4_shipThen_81 : decode cX4_shipThen 81 = .ok (.getfield 16, 3) := by decide +kernel
theorem dX4_shipThen_84 : decode cX4_shipThen 84 = .ok (.getfield 115, 3) := by decide +kernel
theorem dX4_shipThen_87 : decode cX4_shipThen 87 = .ok (.iload_n 1, 1) := by decide +kernel
theorem dX4_shipThen_88 : decode cX4_shipThen 88 = .ok (.iaload, 1) := by decide +kernel
theorem dX4_shipThen_89 : decode cX4_shipThen 89 = .ok (.goto 11, 3) := by decide +kernel
theorem dX4_shipThen_92 : decode cX4_shipThen 92 = .ok (.aload_n 0, 1) := by decide +kernel
theorem dX4_shipThen_93 : decode cX4_shipThen 93 = .ok (.getfield 16, 3) := by decide +kernel
theorem dX4_shipThen_96 : decode cX4_shipThen 96 = .ok (.iload_n 1, 1) := by decide +kernel
theorem dX4_shipThen_97 : decode cX4_shipThen 97 = .ok (.invokevirtual 118, 3) := by decide +kernel
theorem dX4_shipThen_100 : decode cX4_shipThen 100 = .ok (.ireturn, 1) := by decide +kernel
set_option maxRecDepth 20000 in
theorem ggX4_sinsThen_X0_hasMan : GoodIn wsX4_sinsThen wsX0_hasMan := goodIn_r _ [8, 9, 58, 59, 60, 61, 62, 63, 64, 65, 66, 67, 68, 69] (by decide +kernel) (by decide +kernel)
set_option maxRecDepth 20000 in
theorem gX4_sinsThen_X0_hasMan : GoodIn wsX4_sinsThen (wsV RX4 73 RX0 yX0_hasMan wsX0_hasMan) := goodIn_app (goodIn_of _ (by decide +kernel)) ggX4_sinsThen_X0_hasMan
set_option maxRecDepth 20000 in
theorem ggX4_sinsThen_X4_refused : GoodIn wsX4_sinsThen wsX4_refused := goodIn_r _ [14, 15, 50, 51, 52, 53, 54, 55, 56, 57] (by decide +kernel) (by decide +kernel)
set_option maxRecDepth 20000 in
theorem gX4_sinsThen_X4_refused : GoodIn wsX4_sinsThen (wsV RX4 51 RX4 yX4_refused wsX4_refused) := goodIn_app (goodIn_of _ (by decide +kernel)) ggX4_sinsThen_X4_refused
set_option maxRecDepth 20000 in
theorem ggX4_sinsThen_X0_copyFrom : GoodIn wsX4_sinsThen wsX0_copyFrom := goodIn_r _ [19, 20, 9, 21, 22, 23, 24, 25, 26, 27, 28, 29, 58, 59, 60, 61, 62, 63, 64, 65, 66, 67, 68, 69] (by decide +kernel) (by decide +kernel)
set_option maxRecDepth 20000 in
theorem gX4_sinsThen_X0_copyFrom : GoodIn wsX4_sinsThen (wsV RX4 62 RX0 yX0_copyFrom wsX0_copyFrom) := goodIn_app (goodIn_of _ (by decide +kernel)) ggX4_sinsThen_X0_copyFrom
set_option maxRecDepth 20000 in
theorem ggX4_sinsThen_X0_passTides : GoodIn wsX4_sinsThen wsX0_passTides := goodIn_r _ [33, 34, 35, 36, 7, 37, 22, 9, 29, 28, 38, 39, 40, 41, 20, 25, 42, 43, 44, 45, 46, 47, 48, 49, 26, 58, 59, 60, 61, 62, 63, 64, 65, 66, 67, 68, 69] (by decide +kernel) (by decide +kernel)
set_option maxRecDepth 20000 in
theorem gX4_sinsThen_X0_passTides : GoodIn wsX4_sinsThen (wsV RX4 104 RX0 yX0_passTides wsX0_passTides) := goodIn_app (goodIn_of _ (by decide +kernel)) ggX4_sinsThen_X0_passTides
theorem dX4_sinsThen_0 : decode cX4_sinsThen 0 = .ok (.aload_n 0, 1) := by decide +kernel
theorem dX4_sinsThen_1 : decode cX4_sinsThen 1 = .ok (.getfield 10, 3) := by decide +kernel
theorem dX4_sinsThen_4 : decode cX4_sinsThen 4 = .ok (.iload_n 1, 1) := by decide +kernel
theorem dX4_sinsThen_5 : decode cX4_sinsThen 5 = .ok (.invokevirtual 73, 3) := by decide +kernel
theorem dX4_sinsThen_8 : decode cX4_sinsThen 8 = .ok (.ifCond .ne 9, 3) := by decide +kernel
theorem dX4_sinsThen_11 : decode cX4_sinsThen 11 = .ok (.aload_n 0, 1) := by decide +kernel
theorem dX4_sinsThen_12 : decode cX4_sinsThen 12 = .ok (.iconst (-1), 1) := by decide +kernel
theorem dX4_sinsThen_13 : decode cX4_sinsThen 13 = .ok (.invokevirtual 51, 3) := by decide +kernel
theorem dX4_sinsThen_16 : decode cX4_sinsThen 16 = .ok (.ireturn, 1) := by decide +kernel
theorem dX4_sinsThen_17 : decode cX4_sinsThen 17 = .ok (.iload_n 2, 1) := by decide +kernel
theorem dX4_sinsThen_18 : decode cX4_sinsThen 18 = .ok (.ifCond .ge 10, 3) := by decide +kernel
theorem dX4_sinsThen_21 : decode cX4_sinsThen 21 = .ok (.aload_n 0, 1) := by decide +kernel
theorem dX4_sinsThen_22 : decode cX4_sinsThen 22 = .ok (.bipush (-4), 2) := by decide +kernel
theorem dX4_sinsThen_24 : decode cX4_sinsThen 24 = .ok (.invokevirtual 51, 3) := by decide +kernel
theorem dX4_sinsThen_27 : decode cX4_sinsThen 27 = .ok (.ireturn, 1) := by decide +kernel
theorem dX4_sinsThen_28 : decode cX4_sinsThen 28 = .ok (.iload_n 2, 1) := by decide +kernel
theorem dX4_sinsThen_29 : decode cX4_sinsThen 29 = .ok (.bipush 60, 2) := by decide +kernel
theorem dX4_sinsThen_31 : decode cX4_sinsThen 31 = .ok (.if_icmp .le 10, 3) := by decide +kernel
theorem dX4_sinsThen_34 : decode cX4_sinsThen 34 = .ok (.aload_n 0, 1) := by decide +kernel
theorem dX4_sinsThen_35 : decode cX4_sinsThen 35 = .ok (.bipush (-6), 2) := by decide +kernel
theorem dX4_sinsThen_37 : decode cX4_sinsThen 37 = .ok (.invokevirtual 51, 3) := by decide +kernel
theorem dX4_sinsThen_40 : decode cX4_sinsThen 40 = .ok (.ireturn, 1) := by decide +kernel
theorem dX4_sinsThen_41 : decode cX4_sinsThen 41 = .ok (.aload_n 0, 1) := by decide +kernel
theorem dX4_sinsThen_42 : decode cX4_sinsThen 42 = .ok (.getfield 16, 3) := by decide +kernel
theorem dX4_sinsThen_45 : decode cX4_sinsThen 45 = .ok (.aload_n 0, 1) := by decide +kernel
theorem dX4_sinsThen_46 : decode cX4_sinsThen 46 = .ok (.getfield 10, 3) := by decide +kernel
theorem dX4_sinsThen_49 : decode cX4_sinsThen 49 = .ok (.invokevirtual 62, 3) := by decide +kernel
theorem dX4_sinsThen_52 : decode cX4_sinsThen 52 = .ok (.aload_n 0, 1) := by decide +kernel
theorem dX4_sinsThen_53 : decode cX4_sinsThen 53 = .ok (.getfield 16, 3) := by decide +kernel
theorem dX4_sinsThen_56 : decode cX4_sinsThen 56 = .ok (.iload_n 2, 1) := by decide +kernel
theorem dX4_sinsThen_57 : decode cX4_sinsThen 57 = .ok (.invokevirtual 104, 3) := by decide +kernel
theorem dX4_sinsThen_60 : decode cX4_sinsThen 60 = .ok (.aload_n 0, 1) := by decide +kernel
theorem dX4_sinsThen_61 : decode cX4_sinsThen 61 = .ok (.getfield 16, 3) := by decide +kernel
theorem dX4_sinsThen_64 : decode cX4_sinsThen 64 = .ok (.getfield 89, 3) := by decide +kernel
theorem dX4_sinsThen_67 : decode cX4_sinsThen 67 = .ok (.iload_n 1, 1) := by decide +kernel
theorem dX4_sinsThen_68 : decode cX4_sinsThen 68 = .ok (.iaload, 1) := by decide +kernel
theorem dX4_sinsThen_69 : decode cX4_sinsThen 69 = .ok (.ireturn, 1) := by decide +kernel
set_option maxRecDepth 20000 in
theorem ggX4_fixture_X0_isIn : GoodIn wsX4_fixture wsX0_isIn := goodIn_r _ [7, 8, 55, 56, 57, 58, 59, 60, 61, 62, 63, 64, 65, 66] (by decide +kernel) (by decide +kernel)
set_option maxRecDepth 20000 in
theorem gX4_fixture_X0_isIn : GoodIn wsX4_fixture (wsV RX4 140 RX0 yX0_isIn wsX0_isIn) := goodIn_app (goodIn_of _ (by decide +kernel)) ggX4_fixture_X0_isIn
set_option maxRecDepth 20000 in
theorem ggX4_fixture_X0_canRise : GoodIn wsX4_fixture wsX0_canRise := goodIn_r _ [12, 13, 4, 5, 6, 7, 8, 14, 15, 16, 17, 18, 19, 20, 21, 22, 23, 24, 25, 26, 27, 28, 29, 30, 31, 32, 33, 34, 35, 36, 37, 38, 39, 40, 41, 42, 43, 44, 45, 46, 55, 56, 57, 58, 59, 60, 61, 62, 63, 64, 65, 66] (by decide +kernel) (by decide +kernel)
set_option maxRecDepth 20000 in
theorem gX4_fixture_X0_canRise : GoodIn wsX4_fixture (wsV RX4 143 RX0 yX0_canRise wsX0_canRise) := goodIn_app (goodIn_of _ (by decide +kernel)) ggX4_fixture_X0_canRise
theorem dX4_fixture_0 : decode cX4_fixture 0 = .ok (.iconst 0, 1) := by decide +kernel
theorem dX4_fixture_1 : decode cX4_fixture 1 = .ok (.istore_n 1, 1) := by decide +kernel
theorem dX4_fixture_2 : decode cX4_fixture 2 = .ok (.iconst 0, 1) := by decide +kernel
theorem dX4_fixture_3 : decode cX4_fixture 3 = .ok (.istore_n 2, 1) := by decide +kernel
theorem dX4_fixture_4 : decode cX4_fixture 4 = .ok (.iload_n 2, 1) := by decide +kernel
theorem dX4_fixture_5 : decode cX4_fixture 5 = .ok (.aload_n 0, 1) := by decide +kernel
theorem dX4_fixture_6 : decode cX4_fixture 6 = .ok (.getfield 10, 3) := by decide +kernel
theorem dX4_fixture_9 : decode cX4_fixture 9 = .ok (.getfield 136, 3) := by decide +kernel
theorem dX4_fixture_12 : decode cX4_fixture 12 = .ok (.if_icmp .ge 37, 3) := by decide +kernel
theorem dX4_fixture_15 : decode cX4_fixture 15 = .ok (.aload_n 0, 1) := by decide +kernel
theorem dX4_fixture_16 : decode cX4_fixture 16 = .ok (.getfield 10, 3) := by decide +kernel
theorem dX4_fixture_19 : decode cX4_fixture 19 = .ok (.iload_n 2, 1) := by decide +kernel
theorem dX4_fixture_20 : decode cX4_fixture 20 = .ok (.invokevirtual 140, 3) := by decide +kernel
theorem dX4_fixture_23 : decode cX4_fixture 23 = .ok (.ifCond .eq 20, 3) := by decide +kernel
theorem dX4_fixture_26 : decode cX4_fixture 26 = .ok (.aload_n 0, 1) := by decide +kernel
theorem dX4_fixture_27 : decode cX4_fixture 27 = .ok (.getfield 10, 3) := by decide +kernel
theorem dX4_fixture_30 : decode cX4_fixture 30 = .ok (.iload_n 2, 1) := by decide +kernel
theorem dX4_fixture_31 : decode cX4_fixture 31 = .ok (.invokevirtual 143, 3) := by decide +kernel
theorem dX4_fixture_34 : decode cX4_fixture 34 = .ok (.ifCond .ne 9, 3) := by decide +kernel
theorem dX4_fixture_37 : decode cX4_fixture 37 = .ok (.iload_n 1, 1) := by decide +kernel
theorem dX4_fixture_38 : decode cX4_fixture 38 = .ok (.iconst 1, 1) := by decide +kernel
theorem dX4_fixture_39 : decode cX4_fixture 39 = .ok (.iload_n 2, 1) := by decide +kernel
theorem dX4_fixture_40 : decode cX4_fixture 40 = .ok (.ishl, 1) := by decide +kernel
theorem dX4_fixture_41 : decode cX4_fixture 41 = .ok (.ior, 1) := by decide +kernel
theorem dX4_fixture_42 : decode cX4_fixture 42 = .ok (.istore_n 1, 1) := by decide +kernel
theorem dX4_fixture_43 : decode cX4_fixture 43 = .ok (.iinc 2 1, 3) := by decide +kernel
theorem dX4_fixture_46 : decode cX4_fixture 46 = .ok (.goto (-42), 3) := by decide +kernel
theorem dX4_fixture_49 : decode cX4_fixture 49 = .ok (.iload_n 1, 1) := by decide +kernel
theorem dX4_fixture_50 : decode cX4_fixture 50 = .ok (.ireturn, 1) := by decide +kernel
set_option maxRecDepth 20000 in
theorem ggX4_fewest_X0_hasShip : GoodIn wsX4_fewest wsX0_hasShip := goodIn_r _ [6, 7, 70, 71, 72, 73, 74, 75, 76, 77, 78, 79, 80, 81] (by decide +kernel) (by decide +kernel)
set_option maxRecDepth 20000 in
theorem gX4_fewest_X0_hasShip : GoodIn wsX4_fewest (wsV RX4 83 RX0 yX0_hasShip wsX0_hasShip) := goodIn_app (goodIn_of _ (by decide +kernel)) ggX4_fewest_X0_hasShip
set_option maxRecDepth 20000 in
theorem ggX4_fewest_X4_refused : GoodIn wsX4_fewest wsX4_refused := goodIn_r _ [12, 13, 62, 63, 64, 65, 66, 67, 68, 69] (by decide +kernel) (by decide +kernel)
set_option maxRecDepth 20000 in
theorem gX4_fewest_X4_refused : GoodIn wsX4_fewest (wsV RX4 51 RX4 yX4_refused wsX4_refused) := goodIn_app (goodIn_of _ (by decide +kernel)) ggX4_fewest_X4_refused
set_option maxRecDepth 20000 in
theorem ggX4_fewest_X0_isIn : GoodIn wsX4_fewest wsX0_isIn := goodIn_r _ [17, 18, 70, 71, 72, 73, 74, 75, 76, 77, 78, 79, 80, 81] (by decide +kernel) (by decide +kernel)
set_option maxRecDepth 20000 in
theorem gX4_fewest_X0_isIn : GoodIn wsX4_fewest (wsV RX4 140 RX0 yX0_isIn wsX0_isIn) := goodIn_app (goodIn_of _ (by decide +kernel)) ggX4_fewest_X0_isIn
set_option maxRecDepth 20000 in
theorem ggX4_fewest_X0_fewestWords : GoodIn wsX4_fewest wsX0_fewestWords := goodIn_r _ [22, 23, 24, 25, 26, 5, 27, 28, 29, 30, 31, 32, 33, 15, 16, 17, 18, 34, 35, 36, 37, 38, 39, 40, 41, 42, 43, 44, 45, 46, 47, 48, 49, 50, 51, 52, 53, 54, 55, 56, 57, 70, 71, 72, 73, 74, 75, 76, 77, 78, 79, 80, 81] (by decide +kernel) (by decide +kernel)
set_option maxRecDepth 20000 in
theorem gX4_fewest_X0_fewestWords : GoodIn wsX4_fewest (wsV RX4 146 RX0 yX0_fewestWords wsX0_fewestWords) := goodIn_app (goodIn_of _ (by decide +kernel)) ggX4_fewest_X0_fewestWords
set_option maxRecDepth 20000 in
theorem ggX4_fewest_X0_mostAsked : GoodIn wsX4_fewest wsX0_mostAsked := goodIn_r _ [61, 49, 23, 70, 71, 72, 73, 74, 75, 76, 77, 78, 79, 80, 81] (by decide +kernel) (by decide +kernel)
set_option maxRecDepth 20000 in
theorem gX4_fewest_X0_mostAsked : GoodIn wsX4_fewest (wsV RX4 149 RX0 yX0_mostAsked wsX0_mostAsked) := goodIn_app (goodIn_of _ (by decide +kernel)) ggX4_fewest_X0_mostAsked
theorem dX4_fewest_0 : decode cX4_fewest 0 = .ok (.aload_n 0, 1) := by decide +kernel
theorem dX4_fewest_1 : decode cX4_fewest 1 = .ok (.getfield 10, 3) := by decide +kernel
theorem dX4_fewest_4 : decode cX4_fewest 4 = .ok (.iload_n 1, 1) := by decide +kernel
theorem dX4_fewest_5 : decode cX4_fewest 5 = .ok (.invokevirtual 83, 3) := by decide +kernel
theorem dX4_fewest_8 : decode cX4_fewest 8 = .ok (.ifCond .ne 9, 3) := by decide +kernel
theorem dX4_fewest_11 : decode cX4_fewest 11 = .ok (.aload_n 0, 1) := by decide +kernel
theorem dX4_fewest_12 : decode cX4_fewest 12 = .ok (.iconst (-1), 1) := by decide +kernel
theorem dX4_fewest_13 : decode cX4_fewest 13 = .ok (.invokevirtual 51, 3) := by decide +kernel
theorem dX4_fewest_16 : decode cX4_fewest 16 = .ok (.ireturn, 1) := by decide +kernel
theorem dX4_fewest_17 : decode cX4_fewest 17 = .ok (.iload_n 2, 1) := by decide +kernel
theorem dX4_fewest_18 : decode cX4_fewest 18 = .ok (.ifCond .eq 15, 3) := by decide +kernel
theorem dX4_fewest_21 : decode cX4_fewest 21 = .ok (.iload_n 2, 1) := by decide +kernel
theorem dX4_fewest_22 : decode cX4_fewest 22 = .ok (.iconst 1, 1) := by decide +kernel
theorem dX4_fewest_23 : decode cX4_fewest 23 = .ok (.if_icmp .eq 10, 3) := by decide +kernel
theorem dX4_fewest_26 : decode cX4_fewest 26 = .ok (.aload_n 0, 1) := by decide +kernel
theorem dX4_fewest_27 : decode cX4_fewest 27 = .ok (.bipush (-2), 2) := by decide +kernel
theorem dX4_fewest_29 : decode cX4_fewest 29 = .ok (.invokevirtual 51, 3) := by decide +kernel
theorem dX4_fewest_32 : decode cX4_fewest 32 = .ok (.ireturn, 1) := by decide +kernel
theorem dX4_fewest_33 : decode cX4_fewest 33 = .ok (.aload_n 0, 1) := by decide +kernel
theorem dX4_fewest_34 : decode cX4_fewest 34 = .ok (.getfield 10, 3) := by decide +kernel
theorem dX4_fewest_37 : decode cX4_fewest 37 = .ok (.iload_n 1, 1) := by decide +kernel
theorem dX4_fewest_38 : decode cX4_fewest 38 = .ok (.invokevirtual 140, 3) := by decide +kernel
theorem dX4_fewest_41 : decode cX4_fewest 41 = .ok (.ifCond .ne 10, 3) := by decide +kernel
theorem dX4_fewest_44 : decode cX4_fewest 44 = .ok (.aload_n 0, 1) := by decide +kernel
theorem dX4_fewest_45 : decode cX4_fewest 45 = .ok (.bipush (-3), 2) := by decide +kernel
theorem dX4_fewest_47 : decode cX4_fewest 47 = .ok (.invokevirtual 51, 3) := by decide +kernel
theorem dX4_fewest_50 : decode cX4_fewest 50 = .ok (.ireturn, 1) := by decide +kernel
theorem dX4_fewest_51 : decode cX4_fewest 51 = .ok (.aload_n 0, 1) := by decide +kernel
theorem dX4_fewest_52 : decode cX4_fewest 52 = .ok (.getfield 10, 3) := by decide +kernel
theorem dX4_fewest_55 : decode cX4_fewest 55 = .ok (.iload_n 1, 1) := by decide +kernel
theorem dX4_fewest_56 : decode cX4_fewest 56 = .ok (.invokevirtual 146, 3) := by decide +kernel
theorem dX4_fewest_59 : decode cX4_fewest 59 = .ok (.istore_n 3, 1) := by decide +kernel
theorem dX4_fewest_60 : decode cX4_fewest 60 = .ok (.iload_n 2, 1) := by decide +kernel
theorem dX4_fewest_61 : decode cX4_fewest 61 = .ok (.ifCond .eq 9, 3) := by decide +kernel
theorem dX4_fewest_64 : decode cX4_fewest 64 = .ok (.iload_n 3, 1) := by decide +kernel
theorem dX4_fewest_65 : decode cX4_fewest 65 = .ok (.bipush (-9), 2) := by decide +kernel
theorem dX4_fewest_67 : decode cX4_fewest 67 = .ok (.if_icmp .ne 7, 3) := by decide +kernel
theorem dX4_fewest_70 : decode cX4_fewest 70 = .ok (.iload_n 3, 1) := by decide +kernel
theorem dX4_fewest_71 : decode cX4_fewest 71 = .ok (.goto 10, 3) := by decide +kernel
theorem dX4_fewest_74 : decode cX4_fewest 74 = .ok (.aload_n 0, 1) := by decide +kernel
theorem dX4_fewest_75 : decode cX4_fewest 75 = .ok (.getfield 10, 3) := by decide +kernel
theorem dX4_fewest_78 : decode cX4_fewest 78 = .ok (.invokevirtual 149, 3) := by decide +kernel
theorem dX4_fewest_81 : decode cX4_fewest 81 = .ok (.ireturn, 1) := by decide +kernel
set_option maxRecDepth 20000 in
theorem ggX4_when_X0_hasShip : GoodIn wsX4_when wsX0_hasShip := goodIn_r _ [7, 8, 86, 87, 88, 89, 90, 91, 92, 93, 94, 95, 96, 97] (by decide +kernel) (by decide +kernel)
set_option maxRecDepth 20000 in
theorem gX4_when_X0_hasShip : GoodIn wsX4_when (wsV RX4 83 RX0 yX0_hasShip wsX0_hasShip) := goodIn_app (goodIn_of _ (by decide +kernel)) ggX4_when_X0_hasShip
set_option maxRecDepth 20000 in
theorem ggX4_when_X4_refused : GoodIn wsX4_when wsX4_refused := goodIn_r _ [13, 14, 78, 79, 80, 81, 82, 83, 84, 85] (by decide +kernel) (by decide +kernel)
set_option maxRecDepth 20000 in
theorem gX4_when_X4_refused : GoodIn wsX4_when (wsV RX4 51 RX4 yX4_refused wsX4_refused) := goodIn_app (goodIn_of _ (by decide +kernel)) ggX4_when_X4_refused
set_option maxRecDepth 20000 in
theorem ggX4_when_X0_copyFrom : GoodIn wsX4_when wsX0_copyFrom := goodIn_r _ [18, 8, 19, 20, 21, 22, 23, 24, 25, 26, 27, 28, 86, 87, 88, 89, 90, 91, 92, 93, 94, 95, 96, 97] (by decide +kernel) (by decide +kernel)
set_option maxRecDepth 20000 in
theorem gX4_when_X0_copyFrom : GoodIn wsX4_when (wsV RX4 62 RX0 yX0_copyFrom wsX0_copyFrom) := goodIn_app (goodIn_of _ (by decide +kernel)) ggX4_when_X0_copyFrom
set_option maxRecDepth 20000 in
theorem ggX4_when_X0_isIn : GoodIn wsX4_when wsX0_isIn := goodIn_r _ [32, 24, 86, 87, 88, 89, 90, 91, 92, 93, 94, 95, 96, 97] (by decide +kernel) (by decide +kernel)
set_option maxRecDepth 20000 in
theorem gX4_when_X0_isIn : GoodIn wsX4_when (wsV RX4 140 RX0 yX0_isIn wsX0_isIn) := goodIn_app (goodIn_of _ (by decide +kernel)) ggX4_when_X0_isIn
set_option maxRecDepth 20000 in
theorem ggX4_when_X0_fewestWords : GoodIn wsX4_when wsX0_fewestWords := goodIn_r _ [36, 37, 38, 39, 40, 6, 41, 23, 42, 43, 44, 45, 46, 30, 31, 32, 24, 47, 48, 49, 50, 22, 20, 51, 52, 53, 54, 21, 55, 56, 57, 58, 19, 28, 27, 59, 60, 61, 62, 26, 25, 86, 87, 88, 89, 90, 91, 92, 93, 94, 95, 96, 97] (by decide +kernel) (by decide +kernel)
set_option maxRecDepth 20000 in
theorem gX4_when_X0_fewestWords : GoodIn wsX4_when (wsV RX4 146 RX0 yX0_fewestWords wsX0_fewestWords) := goodIn_app (goodIn_of _ (by decide +kernel)) ggX4_when_X0_fewestWords
set_option maxRecDepth 20000 in
theorem ggX4_when_X0_passTides : GoodIn wsX4_when wsX0_passTides := goodIn_r _ [66, 67, 68, 69, 6, 70, 21, 19, 28, 27, 71, 72, 44, 73, 8, 24, 46, 30, 31, 32, 74, 75, 76, 77, 25, 86, 87, 88, 89, 90, 91, 92, 93, 94, 95, 96, 97] (by decide +kernel) (by decide +kernel)
set_option maxRecDepth 20000 in
theorem gX4_when_X0_passTides : GoodIn wsX4_when (wsV RX4 104 RX0 yX0_passTides wsX0_passTides) := goodIn_app (goodIn_of _ (by decide +kernel)) ggX4_when_X0_passTides
theorem dX4_when_0 : decode cX4_when 0 = .ok (.aload_n 0, 1) := by decide +kernel
theorem dX4_when_1 : decode cX4_when 1 = .ok (.getfield 10, 3) := by decide +kernel
theorem dX4_when_4 : decode cX4_when 4 = .ok (.iload_n 1, 1) := by decide +kernel
theorem dX4_when_5 : decode cX4_when 5 = .ok (.invokevirtual 83, 3) := by decide +kernel
theorem dX4_when_8 : decode cX4_when 8 = .ok (.ifCond .ne 9, 3) := by decide +kernel
theorem dX4_when_11 : decode cX4_when 11 = .ok (.aload_n 0, 1) := by decide +kernel
theorem dX4_when_12 : decode cX4_when 12 = .ok (.iconst (-1), 1) := by decide +kernel
theorem dX4_when_13 : decode cX4_when 13 = .ok (.invokevirtual 51, 3) := by decide +kernel
theorem dX4_when_16 : decode cX4_when 16 = .ok (.ireturn, 1) := by decide +kernel
theorem dX4_when_17 : decode cX4_when 17 = .ok (.iload_n 2, 1) := by decide +kernel
theorem dX4_when_18 : decode cX4_when 18 = .ok (.ifCond .ge 10, 3) := by decide +kernel
theorem dX4_when_21 : decode cX4_when 21 = .ok (.aload_n 0, 1) := by decide +kernel
theorem dX4_when_22 : decode cX4_when 22 = .ok (.bipush (-4), 2) := by decide +kernel
theorem dX4_when_24 : decode cX4_when 24 = .ok (.invokevirtual 51, 3) := by decide +kernel
theorem dX4_when_27 : decode cX4_when 27 = .ok (.ireturn, 1) := by decide +kernel
theorem dX4_when_28 : decode cX4_when 28 = .ok (.iload_n 2, 1) := by decide +kernel
theorem dX4_when_29 : decode cX4_when 29 = .ok (.bipush 20, 2) := by decide +kernel
theorem dX4_when_31 : decode cX4_when 31 = .ok (.if_icmp .le 10, 3) := by decide +kernel
theorem dX4_when_34 : decode cX4_when 34 = .ok (.aload_n 0, 1) := by decide +kernel
theorem dX4_when_35 : decode cX4_when 35 = .ok (.bipush (-6), 2) := by decide +kernel
theorem dX4_when_37 : decode cX4_when 37 = .ok (.invokevirtual 51, 3) := by decide +kernel
theorem dX4_when_40 : decode cX4_when 40 = .ok (.ireturn, 1) := by decide +kernel
theorem dX4_when_41 : decode cX4_when 41 = .ok (.aload_n 0, 1) := by decide +kernel
theorem dX4_when_42 : decode cX4_when 42 = .ok (.getfield 16, 3) := by decide +kernel
theorem dX4_when_45 : decode cX4_when 45 = .ok (.aload_n 0, 1) := by decide +kernel
theorem dX4_when_46 : decode cX4_when 46 = .ok (.getfield 10, 3) := by decide +kernel
theorem dX4_when_49 : decode cX4_when 49 = .ok (.invokevirtual 62, 3) := by decide +kernel
theorem dX4_when_52 : decode cX4_when 52 = .ok (.iconst 0, 1) := by decide +kernel
theorem dX4_when_53 : decode cX4_when 53 = .ok (.istore_n 3, 1) := by decide +kernel
theorem dX4_when_54 : decode cX4_when 54 = .ok (.iload_n 3, 1) := by decide +kernel
theorem dX4_when_55 : decode cX4_when 55 = .ok (.bipush 60, 2) := by decide +kernel
theorem dX4_when_57 : decode cX4_when 57 = .ok (.if_icmp .gt 58, 3) := by decide +kernel
theorem dX4_when_60 : decode cX4_when 60 = .ok (.aload_n 0, 1) := by decide +kernel
theorem dX4_when_61 : decode cX4_when 61 = .ok (.getfield 16, 3) := by decide +kernel
theorem dX4_when_64 : decode cX4_when 64 = .ok (.iload_n 1, 1) := by decide +kernel
theorem dX4_when_65 : decode cX4_when 65 = .ok (.invokevirtual 140, 3) := by decide +kernel
theorem dX4_when_68 : decode cX4_when 68 = .ok (.ifCond .eq 14, 3) := by decide +kernel
theorem dX4_when_71 : decode cX4_when 71 = .ok (.aload_n 0, 1) := by decide +kernel
theorem dX4_when_72 : decode cX4_when 72 = .ok (.getfield 16, 3) := by decide +kernel
theorem dX4_when_75 : decode cX4_when 75 = .ok (.iload_n 1, 1) := by decide +kernel
theorem dX4_when_76 : decode cX4_when 76 = .ok (.invokevirtual 146, 3) := by decide +kernel
theorem dX4_when_79 : decode cX4_when 79 = .ok (.goto 5, 3) := by decide +kernel
theorem dX4_when_82 : decode cX4_when 82 = .ok (.bipush (-9), 2) := by decide +kernel
theorem dX4_when_84 : decode cX4_when 84 = .ok (.istore 4, 2) := by decide +kernel
theorem dX4_when_86 : decode cX4_when 86 = .ok (.iload 4, 2) := by decide +kernel
theorem dX4_when_88 : decode cX4_when 88 = .ok (.bipush (-9), 2) := by decide +kernel
theorem dX4_when_90 : decode cX4_when 90 = .ok (.if_icmp .eq 11, 3) := by decide +kernel
theorem dX4_when_93 : decode cX4_when 93 = .ok (.iload 4, 2) := by decide +kernel
theorem dX4_when_95 : decode cX4_when 95 = .ok (.iload_n 2, 1) := by decide +kernel
theorem dX4_when_96 : decode cX4_when 96 = .ok (.if_icmp .gt 5, 3) := by decide +kernel
theorem dX4_when_99 : decode cX4_when 99 = .ok (.iload_n 3, 1) := by decide +kernel
theorem dX4_when_100 : decode cX4_when 100 = .ok (.ireturn, 1) := by decide +kernel
theorem dX4_when_101 : decode cX4_when 101 = .ok (.aload_n 0, 1) := by decide +kernel
theorem dX4_when_102 : decode cX4_when 102 = .ok (.getfield 16, 3) := by decide +kernel
theorem dX4_when_105 : decode cX4_when 105 = .ok (.iconst 1, 1) := by decide +kernel
theorem dX4_when_106 : decode cX4_when 106 = .ok (.invokevirtual 104, 3) := by decide +kernel
theorem dX4_when_109 : decode cX4_when 109 = .ok (.iinc 3 1, 3) := by decide +kernel
theorem dX4_when_112 : decode cX4_when 112 = .ok (.goto (-58), 3) := by decide +kernel
theorem dX4_when_115 : decode cX4_when 115 = .ok (.bipush (-9), 2) := by decide +kernel
theorem dX4_when_117 : decode cX4_when 117 = .ok (.ireturn, 1) := by decide +kernel
set_option maxRecDepth 20000 in
theorem ggX4_cheapest_X0_isIn : GoodIn wsX4_cheapest wsX0_isIn := goodIn_r _ [7, 8, 56, 57, 58, 59, 60, 61, 62, 63, 64, 65, 66, 67] (by decide +kernel) (by decide +kernel)
set_option maxRecDepth 20000 in
theorem gX4_cheapest_X0_isIn : GoodIn wsX4_cheapest (wsV RX4 140 RX0 yX0_isIn wsX0_isIn) := goodIn_app (goodIn_of _ (by decide +kernel)) ggX4_cheapest_X0_isIn
set_option maxRecDepth 20000 in
theorem ggX4_cheapest_X0_fewestWords : GoodIn wsX4_cheapest wsX0_fewestWords := goodIn_r _ [12, 13, 14, 15, 16, 6, 17, 18, 19, 20, 21, 22, 23, 4, 5, 7, 8, 24, 25, 26, 27, 28, 29, 30, 31, 32, 33, 34, 35, 36, 37, 38, 39, 40, 41, 42, 43, 44, 45, 46, 47, 56, 57, 58, 59, 60, 61, 62, 63, 64, 65, 66, 67] (by decide +kernel) (by decide +kernel)
set_option maxRecDepth 20000 in
theorem gX4_cheapest_X0_fewestWords : GoodIn wsX4_cheapest (wsV RX4 146 RX0 yX0_fewestWords wsX0_fewestWords) := goodIn_app (goodIn_of _ (by decide +kernel)) ggX4_cheapest_X0_fewestWords
theorem dX4_cheapest_0 : decode cX4_cheapest 0 = .ok (.bipush (-9), 2) := by decide +kernel
theorem dX4_cheapest_2 : decode cX4_cheapest 2 = .ok (.istore_n 1, 1) := by decide +kernel
theorem dX4_cheapest_3 : decode cX4_cheapest 3 = .ok (.bipush (-9), 2) := by decide +kernel
theorem dX4_cheapest_5 : decode cX4_cheapest 5 = .ok (.istore_n 2, 1) := by decide +kernel
theorem dX4_cheapest_6 : decode cX4_cheapest 6 = .ok (.iconst 0, 1) := by decide +kernel
theorem dX4_cheapest_7 : decode cX4_cheapest 7 = .ok (.istore_n 3, 1) := by decide +kernel
theorem dX4_cheapest_8 : decode cX4_cheapest 8 = .ok (.iload_n 3, 1) := by decide +kernel
theorem dX4_cheapest_9 : decode cX4_cheapest 9 = .ok (.aload_n 0, 1) := by decide +kernel
theorem dX4_cheapest_10 : decode cX4_cheapest 10 = .ok (.getfield 10, 3) := by decide +kernel
theorem dX4_cheapest_13 : decode cX4_cheapest 13 = .ok (.getfield 136, 3) := by decide +kernel
theorem dX4_cheapest_16 : decode cX4_cheapest 16 = .ok (.if_icmp .ge 59, 3) := by decide +kernel
theorem dX4_cheapest_19 : decode cX4_cheapest 19 = .ok (.aload_n 0, 1) := by decide +kernel
theorem dX4_cheapest_20 : decode cX4_cheapest 20 = .ok (.getfield 10, 3) := by decide +kernel
theorem dX4_cheapest_23 : decode cX4_cheapest 23 = .ok (.iload_n 3, 1) := by decide +kernel
theorem dX4_cheapest_24 : decode cX4_cheapest 24 = .ok (.invokevirtual 140, 3) := by decide +kernel
theorem dX4_cheapest_27 : decode cX4_cheapest 27 = .ok (.ifCond .eq 14, 3) := by decide +kernel
theorem dX4_cheapest_30 : decode cX4_cheapest 30 = .ok (.aload_n 0, 1) := by decide +kernel
theorem dX4_cheapest_31 : decode cX4_cheapest 31 = .ok (.getfield 10, 3) := by decide +kernel
theorem dX4_cheapest_34 : decode cX4_cheapest 34 = .ok (.iload_n 3, 1) := by decide +kernel
theorem dX4_cheapest_35 : decode cX4_cheapest 35 = .ok (.invokevirtual 146, 3) := by decide +kernel
theorem dX4_cheapest_38 : decode cX4_cheapest 38 = .ok (.goto 5, 3) := by decide +kernel
theorem dX4_cheapest_41 : decode cX4_cheapest 41 = .ok (.bipush (-9), 2) := by decide +kernel
theorem dX4_cheapest_43 : decode cX4_cheapest 43 = .ok (.istore 4, 2) := by decide +kernel
theorem dX4_cheapest_45 : decode cX4_cheapest 45 = .ok (.iload 4, 2) := by decide +kernel
theorem dX4_cheapest_47 : decode cX4_cheapest 47 = .ok (.bipush (-9), 2) := by decide +kernel
theorem dX4_cheapest_49 : decode cX4_cheapest 49 = .ok (.if_icmp .eq 20, 3) := by decide +kernel
theorem dX4_cheapest_52 : decode cX4_cheapest 52 = .ok (.iload_n 1, 1) := by decide +kernel
theorem dX4_cheapest_53 : decode cX4_cheapest 53 = .ok (.bipush (-9), 2) := by decide +kernel
theorem dX4_cheapest_55 : decode cX4_cheapest 55 = .ok (.if_icmp .eq 9, 3) := by decide +kernel
theorem dX4_cheapest_58 : decode cX4_cheapest 58 = .ok (.iload 4, 2) := by decide +kernel
theorem dX4_cheapest_60 : decode cX4_cheapest 60 = .ok (.iload_n 2, 1) := by decide +kernel
theorem dX4_cheapest_61 : decode cX4_cheapest 61 = .ok (.if_icmp .ge 8, 3) := by decide +kernel
theorem dX4_cheapest_64 : decode cX4_cheapest 64 = .ok (.iload 4, 2) := by decide +kernel
theorem dX4_cheapest_66 : decode cX4_cheapest 66 = .ok (.istore_n 2, 1) := by decide +kernel
theorem dX4_cheapest_67 : decode cX4_cheapest 67 = .ok (.iload_n 3, 1) := by decide +kernel
theorem dX4_cheapest_68 : decode cX4_cheapest 68 = .ok (.istore_n 1, 1) := by decide +kernel
theorem dX4_cheapest_69 : decode cX4_cheapest 69 = .ok (.iinc 3 1, 3) := by decide +kernel
theorem dX4_cheapest_72 : decode cX4_cheapest 72 = .ok (.goto (-64), 3) := by decide +kernel
theorem dX4_cheapest_75 : decode cX4_cheapest 75 = .ok (.iload_n 1, 1) := by decide +kernel
theorem dX4_cheapest_76 : decode cX4_cheapest 76 = .ok (.ireturn, 1) := by decide +kernel
set_option maxRecDepth 20000 in
theorem ggX4_berth_X0_hasMan : GoodIn wsX4_berth wsX0_hasMan := goodIn_r _ [9, 10, 76, 77, 78, 79, 80, 81, 82, 83, 84, 85, 86, 87] (by decide +kernel) (by decide +kernel)
set_option maxRecDepth 20000 in
theorem gX4_berth_X0_hasMan : GoodIn wsX4_berth (wsV RX4 73 RX0 yX0_hasMan wsX0_hasMan) := goodIn_app (goodIn_of _ (by decide +kernel)) ggX4_berth_X0_hasMan
set_option maxRecDepth 20000 in
theorem ggX4_berth_X4_refused : GoodIn wsX4_berth wsX4_refused := goodIn_r _ [15, 16, 68, 69, 70, 71, 72, 73, 74, 75] (by decide +kernel) (by decide +kernel)
set_option maxRecDepth 20000 in
theorem gX4_berth_X4_refused : GoodIn wsX4_berth (wsV RX4 51 RX4 yX4_refused wsX4_refused) := goodIn_app (goodIn_of _ (by decide +kernel)) ggX4_berth_X4_refused
set_option maxRecDepth 20000 in
theorem ggX4_berth_X0_countRisable : GoodIn wsX4_berth wsX0_countRisable := goodIn_r _ [20, 21, 22, 23, 24, 8, 25, 26, 27, 28, 29, 30, 31, 32, 33, 34, 10, 35, 36, 37, 38, 39, 40, 41, 42, 43, 44, 45, 46, 47, 48, 49, 50, 51, 52, 53, 54, 55, 56, 57, 58, 59, 60, 61, 62, 76, 77, 78, 79, 80, 81, 82, 83, 84, 85, 86, 87] (by decide +kernel) (by decide +kernel)
set_option maxRecDepth 20000 in
theorem gX4_berth_X0_countRisable : GoodIn wsX4_berth (wsV RX4 152 RX0 yX0_countRisable wsX0_countRisable) := goodIn_app (goodIn_of _ (by decide +kernel)) ggX4_berth_X0_countRisable
set_option maxRecDepth 20000 in
theorem ggX4_berth_X0_copyFrom : GoodIn wsX4_berth wsX0_copyFrom := goodIn_r _ [66, 21, 10, 62, 51, 61, 56, 30, 42, 41, 36, 35, 76, 77, 78, 79, 80, 81, 82, 83, 84, 85, 86, 87] (by decide +kernel) (by decide +kernel)
set_option maxRecDepth 20000 in
theorem gX4_berth_X0_copyFrom : GoodIn wsX4_berth (wsV RX4 62 RX0 yX0_copyFrom wsX0_copyFrom) := goodIn_app (goodIn_of _ (by decide +kernel)) ggX4_berth_X0_copyFrom
set_option maxRecDepth 20000 in
theorem ggX4_berth_X0_isIn : GoodIn wsX4_berth wsX0_isIn := goodIn_r _ [29, 30, 76, 77, 78, 79, 80, 81, 82, 83, 84, 85, 86, 87] (by decide +kernel) (by decide +kernel)
set_option maxRecDepth 20000 in
theorem gX4_berth_X0_isIn : GoodIn wsX4_berth (wsV RX4 140 RX0 yX0_isIn wsX0_isIn) := goodIn_app (goodIn_of _ (by decide +kernel)) ggX4_berth_X0_isIn
theorem dX4_berth_0 : decode cX4_berth 0 = .ok (.aload_n 0, 1) := by decide +kernel
theorem dX4_berth_1 : decode cX4_berth 1 = .ok (.getfield 10, 3) := by decide +kernel
theorem dX4_berth_4 : decode cX4_berth 4 = .ok (.iload_n 1, 1) := by decide +kernel
theorem dX4_berth_5 : decode cX4_berth 5 = .ok (.invokevirtual 73, 3) := by decide +kernel
theorem dX4_berth_8 : decode cX4_berth 8 = .ok (.ifCond .ne 9, 3) := by decide +kernel
theorem dX4_berth_11 : decode cX4_berth 11 = .ok (.aload_n 0, 1) := by decide +kernel
theorem dX4_berth_12 : decode cX4_berth 12 = .ok (.iconst (-1), 1) := by decide +kernel
theorem dX4_berth_13 : decode cX4_berth 13 = .ok (.invokevirtual 51, 3) := by decide +kernel
theorem dX4_berth_16 : decode cX4_berth 16 = .ok (.ireturn, 1) := by decide +kernel
theorem dX4_berth_17 : decode cX4_berth 17 = .ok (.bipush (-9), 2) := by decide +kernel
theorem dX4_berth_19 : decode cX4_berth 19 = .ok (.istore_n 2, 1) := by decide +kernel
theorem dX4_berth_20 : decode cX4_berth 20 = .ok (.aload_n 0, 1) := by decide +kernel
theorem dX4_berth_21 : decode cX4_berth 21 = .ok (.getfield 10, 3) := by decide +kernel
theorem dX4_berth_24 : decode cX4_berth 24 = .ok (.invokevirtual 152, 3) := by decide +kernel
theorem dX4_berth_27 : decode cX4_berth 27 = .ok (.istore_n 3, 1) := by decide +kernel
theorem dX4_berth_28 : decode cX4_berth 28 = .ok (.aload_n 0, 1) := by decide +kernel
theorem dX4_berth_29 : decode cX4_berth 29 = .ok (.getfield 16, 3) := by decide +kernel
theorem dX4_berth_32 : decode cX4_berth 32 = .ok (.aload_n 0, 1) := by decide +kernel
theorem dX4_berth_33 : decode cX4_berth 33 = .ok (.getfield 10, 3) := by decide +kernel
theorem dX4_berth_36 : decode cX4_berth 36 = .ok (.invokevirtual 62, 3) := by decide +kernel
theorem dX4_berth_39 : decode cX4_berth 39 = .ok (.iconst 0, 1) := by decide +kernel
theorem dX4_berth_40 : decode cX4_berth 40 = .ok (.istore 4, 2) := by decide +kernel
theorem dX4_berth_42 : decode cX4_berth 42 = .ok (.iload 4, 2) := by decide +kernel
theorem dX4_berth_44 : decode cX4_berth 44 = .ok (.aload_n 0, 1) := by decide +kernel
theorem dX4_berth_45 : decode cX4_berth 45 = .ok (.getfield 10, 3) := by decide +kernel
theorem dX4_berth_48 : decode cX4_berth 48 = .ok (.getfield 136, 3) := by decide +kernel
theorem dX4_berth_51 : decode cX4_berth 51 = .ok (.if_icmp .ge 53, 3) := by decide +kernel
theorem dX4_berth_54 : decode cX4_berth 54 = .ok (.aload_n 0, 1) := by decide +kernel
theorem dX4_berth_55 : decode cX4_berth 55 = .ok (.getfield 16, 3) := by decide +kernel
theorem dX4_berth_58 : decode cX4_berth 58 = .ok (.getfield 86, 3) := by decide +kernel
theorem dX4_berth_61 : decode cX4_berth 61 = .ok (.iload_n 1, 1) := by decide +kernel
theorem dX4_berth_62 : decode cX4_berth 62 = .ok (.iload 4, 2) := by decide +kernel
theorem dX4_berth_64 : decode cX4_berth 64 = .ok (.iastore, 1) := by decide +kernel
theorem dX4_berth_65 : decode cX4_berth 65 = .ok (.aload_n 0, 1) := by decide +kernel
theorem dX4_berth_66 : decode cX4_berth 66 = .ok (.getfield 16, 3) := by decide +kernel
theorem dX4_berth_69 : decode cX4_berth 69 = .ok (.invokevirtual 152, 3) := by decide +kernel
theorem dX4_berth_72 : decode cX4_berth 72 = .ok (.istore 5, 2) := by decide +kernel
theorem dX4_berth_74 : decode cX4_berth 74 = .ok (.aload_n 0, 1) := by decide +kernel
theorem dX4_berth_75 : decode cX4_berth 75 = .ok (.getfield 10, 3) := by decide +kernel
theorem dX4_berth_78 : decode cX4_berth 78 = .ok (.iload 4, 2) := by decide +kernel
theorem dX4_berth_80 : decode cX4_berth 80 = .ok (.invokevirtual 140, 3) := by decide +kernel
theorem dX4_berth_83 : decode cX4_berth 83 = .ok (.ifCond .eq 15, 3) := by decide +kernel
theorem dX4_berth_86 : decode cX4_berth 86 = .ok (.iload 5, 2) := by decide +kernel
theorem dX4_berth_88 : decode cX4_berth 88 = .ok (.iload_n 3, 1) := by decide +kernel
theorem dX4_berth_89 : decode cX4_berth 89 = .ok (.if_icmp .le 9, 3) := by decide +kernel
theorem dX4_berth_92 : decode cX4_berth 92 = .ok (.iload 5, 2) := by decide +kernel
theorem dX4_berth_94 : decode cX4_berth 94 = .ok (.istore_n 3, 1) := by decide +kernel
theorem dX4_berth_95 : decode cX4_berth 95 = .ok (.iload 4, 2) := by decide +kernel
theorem dX4_berth_97 : decode cX4_berth 97 = .ok (.istore_n 2, 1) := by decide +kernel
theorem dX4_berth_98 : decode cX4_berth 98 = .ok (.iinc 4 1, 3) := by decide +kernel
theorem dX4_berth_101 : decode cX4_berth 101 = .ok (.goto (-59), 3) := by decide +kernel
theorem dX4_berth_104 : decode cX4_berth 104 = .ok (.iload_n 2, 1) := by decide +kernel
theorem dX4_berth_105 : decode cX4_berth 105 = .ok (.ireturn, 1) := by decide +kernel
set_option maxRecDepth 20000 in
theorem ggX4_rise_X0_countRisable : GoodIn wsX4_rise wsX0_countRisable := goodIn_r _ [6, 7, 8, 9, 10, 5, 11, 12, 13, 14, 15, 16, 17, 18, 19, 20, 21, 22, 23, 24, 25, 26, 27, 28, 29, 30, 31, 32, 33, 34, 35, 36, 37, 38, 39, 40, 41, 42, 43, 44, 45, 46, 47, 48, 49, 58, 59, 60, 61, 62, 63, 64, 65, 66, 67, 68, 69] (by decide +kernel) (by decide +kernel)
set_option maxRecDepth 20000 in
theorem gX4_rise_X0_countRisable : GoodIn wsX4_rise (wsV RX4 152 RX0 yX0_countRisable wsX0_countRisable) := goodIn_app (goodIn_of _ (by decide +kernel)) ggX4_rise_X0_countRisable
theorem dX4_rise_0 : decode cX4_rise 0 = .ok (.aload_n 0, 1) := by decide +kernel
theorem dX4_rise_1 : decode cX4_rise 1 = .ok (.getfield 10, 3) := by decide +kernel
theorem dX4_rise_4 : decode cX4_rise 4 = .ok (.invokevirtual 152, 3) := by decide +kernel
theorem dX4_rise_7 : decode cX4_rise 7 = .ok (.ireturn, 1) := by decide +kernel
set_option maxRecDepth 20000 in
theorem ggX4_deal_X0_countRisable : GoodIn wsX4_deal wsX0_countRisable := goodIn_r _ [8, 9, 10, 11, 12, 7, 13, 14, 15, 16, 17, 18, 19, 20, 21, 22, 23, 24, 25, 26, 27, 28, 29, 30, 31, 32, 33, 34, 35, 36, 37, 38, 39, 40, 41, 42, 43, 44, 45, 46, 47, 48, 49, 50, 51, 70, 71, 72, 73, 74, 75, 76, 77, 78, 79, 80, 81] (by decide +kernel) (by decide +kernel)
set_option maxRecDepth 20000 in
theorem gX4_deal_X0_countRisable : GoodIn wsX4_deal (wsV RX4 152 RX0 yX0_countRisable wsX0_countRisable) := goodIn_app (goodIn_of _ (by decide +kernel)) ggX4_deal_X0_countRisable
set_option maxRecDepth 20000 in
theorem ggX4_deal_X4_risableHavingChanged : GoodIn wsX4_deal wsX4_risableHavingChanged := goodIn_r _ [56, 57, 1, 3, 58, 59, 60, 7, 61, 9, 23, 51, 40, 50, 45, 18, 31, 30, 25, 24, 4, 5, 6, 8, 10, 11, 12, 13, 14, 15, 16, 17, 19, 20, 21, 22, 26, 27, 28, 29, 32, 33, 34, 35, 36, 37, 38, 39, 41, 42, 43, 44, 46, 47, 48, 49, 62, 63, 64, 65, 66, 67, 68, 69, 70, 71, 72, 73, 74, 75, 76, 77, 78, 79, 80, 81] (by decide +kernel) (by decide +kernel)
set_option maxRecDepth 20000 in
theorem gX4_deal_X4_risableHavingChanged : GoodIn wsX4_deal (wsV RX4 158 RX4 yX4_risableHavingChanged wsX4_risableHavingChanged) := goodIn_app (goodIn_of _ (by decide +kernel)) ggX4_deal_X4_risableHavingChanged
theorem dX4_deal_0 : decode cX4_deal 0 = .ok (.bipush (-9), 2) := by decide +kernel
theorem dX4_deal_2 : decode cX4_deal 2 = .ok (.istore_n 1, 1) := by decide +kernel
theorem dX4_deal_3 : decode cX4_deal 3 = .ok (.aload_n 0, 1) := by decide +kernel
theorem dX4_deal_4 : decode cX4_deal 4 = .ok (.getfield 10, 3) := by decide +kernel
theorem dX4_deal_7 : decode cX4_deal 7 = .ok (.invokevirtual 152, 3) := by decide +kernel
theorem dX4_deal_10 : decode cX4_deal 10 = .ok (.istore_n 2, 1) := by decide +kernel
theorem dX4_deal_11 : decode cX4_deal 11 = .ok (.iconst 0, 1) := by decide +kernel
theorem dX4_deal_12 : decode cX4_deal 12 = .ok (.istore_n 3, 1) := by decide +kernel
theorem dX4_deal_13 : decode cX4_deal 13 = .ok (.iload_n 3, 1) := by decide +kernel
theorem dX4_deal_14 : decode cX4_deal 14 = .ok (.aload_n 0, 1) := by decide +kernel
theorem dX4_deal_15 : decode cX4_deal 15 = .ok (.getfield 10, 3) := by decide +kernel
theorem dX4_deal_18 : decode cX4_deal 18 = .ok (.getfield 155, 3) := by decide +kernel
theorem dX4_deal_21 : decode cX4_deal 21 = .ok (.if_icmp .ge 80, 3) := by decide +kernel
theorem dX4_deal_24 : decode cX4_deal 24 = .ok (.iload_n 3, 1) := by decide +kernel
theorem dX4_deal_25 : decode cX4_deal 25 = .ok (.iconst 1, 1) := by decide +kernel
theorem dX4_deal_26 : decode cX4_deal 26 = .ok (.iadd, 1) := by decide +kernel
theorem dX4_deal_27 : decode cX4_deal 27 = .ok (.istore 4, 2) := by decide +kernel
theorem dX4_deal_29 : decode cX4_deal 29 = .ok (.iload 4, 2) := by decide +kernel
theorem dX4_deal_31 : decode cX4_deal 31 = .ok (.aload_n 0, 1) := by decide +kernel
theorem dX4_deal_32 : decode cX4_deal 32 = .ok (.getfield 10, 3) := by decide +kernel
theorem dX4_deal_35 : decode cX4_deal 35 = .ok (.getfield 155, 3) := by decide +kernel
theorem dX4_deal_38 : decode cX4_deal 38 = .ok (.if_icmp .ge 57, 3) := by decide +kernel
theorem dX4_deal_41 : decode cX4_deal 41 = .ok (.aload_n 0, 1) := by decide +kernel
theorem dX4_deal_42 : decode cX4_deal 42 = .ok (.iload_n 3, 1) := by decide +kernel
theorem dX4_deal_43 : decode cX4_deal 43 = .ok (.iload 4, 2) := by decide +kernel
theorem dX4_deal_45 : decode cX4_deal 45 = .ok (.invokevirtual 158, 3) := by decide +kernel
theorem dX4_deal_48 : decode cX4_deal 48 = .ok (.istore 5, 2) := by decide +kernel
theorem dX4_deal_50 : decode cX4_deal 50 = .ok (.aload_n 0, 1) := by decide +kernel
theorem dX4_deal_51 : decode cX4_deal 51 = .ok (.getfield 10, 3) := by decide +kernel
theorem dX4_deal_54 : decode cX4_deal 54 = .ok (.getfield 86, 3) := by decide +kernel
theorem dX4_deal_57 : decode cX4_deal 57 = .ok (.iload_n 3, 1) := by decide +kernel
theorem dX4_deal_58 : decode cX4_deal 58 = .ok (.iaload, 1) := by decide +kernel
theorem dX4_deal_59 : decode cX4_deal 59 = .ok (.aload_n 0, 1) := by decide +kernel
theorem dX4_deal_60 : decode cX4_deal 60 = .ok (.getfield 10, 3) := by decide +kernel
theorem dX4_deal_63 : decode cX4_deal 63 = .ok (.getfield 86, 3) := by decide +kernel
theorem dX4_deal_66 : decode cX4_deal 66 = .ok (.iload 4, 2) := by decide +kernel
theorem dX4_deal_68 : decode cX4_deal 68 = .ok (.iaload, 1) := by decide +kernel
theorem dX4_deal_69 : decode cX4_deal 69 = .ok (.if_icmp .eq 20, 3) := by decide +kernel
theorem dX4_deal_72 : decode cX4_deal 72 = .ok (.iload 5, 2) := by decide +kernel
theorem dX4_deal_74 : decode cX4_deal 74 = .ok (.iload_n 2, 1) := by decide +kernel
theorem dX4_deal_75 : decode cX4_deal 75 = .ok (.if_icmp .le 14, 3) := by decide +kernel
theorem dX4_deal_78 : decode cX4_deal 78 = .ok (.iload 5, 2) := by decide +kernel
theorem dX4_deal_80 : decode cX4_deal 80 = .ok (.istore_n 2, 1) := by decide +kernel
theorem dX4_deal_81 : decode cX4_deal 81 = .ok (.bipush 10, 2) := by decide +kernel
theorem dX4_deal_83 : decode cX4_deal 83 = .ok (.iload_n 3, 1) := by decide +kernel
theorem dX4_deal_84 : decode cX4_deal 84 = .ok (.imul, 1) := by decide +kernel
theorem dX4_deal_85 : decode cX4_deal 85 = .ok (.iload 4, 2) := by decide +kernel
theorem dX4_deal_87 : decode cX4_deal 87 = .ok (.iadd, 1) := by decide +kernel
theorem dX4_deal_88 : decode cX4_deal 88 = .ok (.istore_n 1, 1) := by decide +kernel
theorem dX4_deal_89 : decode cX4_deal 89 = .ok (.iinc 4 1, 3) := by decide +kernel
theorem dX4_deal_92 : decode cX4_deal 92 = .ok (.goto (-63), 3) := by decide +kernel
theorem dX4_deal_95 : decode cX4_deal 95 = .ok (.iinc 3 1, 3) := by decide +kernel
theorem dX4_deal_98 : decode cX4_deal 98 = .ok (.goto (-85), 3) := by decide +kernel
theorem dX4_deal_101 : decode cX4_deal 101 = .ok (.iload_n 1, 1) := by decide +kernel
theorem dX4_deal_102 : decode cX4_deal 102 = .ok (.ireturn, 1) := by decide +kernel
set_option maxRecDepth 20000 in
theorem ggX4_risableHavingChanged_X0_copyFrom : GoodIn wsX4_risableHavingChanged wsX0_copyFrom := goodIn_r _ [8, 9, 10, 11, 12, 13, 14, 15, 16, 17, 18, 19, 64, 65, 66, 67, 68, 69, 70, 71, 72, 73, 74, 75] (by decide +kernel) (by decide +kernel)
set_option maxRecDepth 20000 in
theorem gX4_risableHavingChanged_X0_copyFrom : GoodIn wsX4_risableHavingChanged (wsV RX4 62 RX0 yX0_copyFrom wsX0_copyFrom) := goodIn_app (goodIn_of _ (by decide +kernel)) ggX4_risableHavingChanged_X0_copyFrom
set_option maxRecDepth 20000 in
theorem ggX4_risableHavingChanged_X0_countRisable : GoodIn wsX4_risableHavingChanged wsX0_countRisable := goodIn_r _ [23, 9, 24, 25, 26, 7, 27, 28, 29, 30, 31, 15, 32, 33, 34, 35, 10, 19, 18, 36, 37, 38, 39, 17, 16, 40, 41, 42, 43, 44, 45, 46, 47, 12, 48, 49, 50, 51, 14, 52, 53, 54, 55, 13, 11, 64, 65, 66, 67, 68, 69, 70, 71, 72, 73, 74, 75] (by decide +kernel) (by decide +kernel)
set_option maxRecDepth 20000 in
theorem gX4_risableHavingChanged_X0_countRisable : GoodIn wsX4_risableHavingChanged (wsV RX4 152 RX0 yX0_countRisable wsX0_countRisable) := goodIn_app (goodIn_of _ (by decide +kernel)) ggX4_risableHavingChanged_X0_countRisable
theorem dX4_risableHavingChanged_0 : decode cX4_risableHavingChanged 0 = .ok (.aload_n 0, 1) := by decide +kernel
theorem dX4_risableHavingChanged_1 : decode cX4_risableHavingChanged 1 = .ok (.getfield 16, 3) := by decide +kernel
theorem dX4_risableHavingChanged_4 : decode cX4_risableHavingChanged 4 = .ok (.aload_n 0, 1) := by decide +kernel
theorem dX4_risableHavingChanged_5 : decode cX4_risableHavingChanged 5 = .ok (.getfield 10, 3) := by decide +kernel
theorem dX4_risableHavingChanged_8 : decode cX4_risableHavingChanged 8 = .ok (.invokevirtual 62, 3) := by decide +kernel
theorem dX4_risableHavingChanged_11 : decode cX4_risableHavingChanged 11 = .ok (.aload_n 0, 1) := by decide +kernel
theorem dX4_risableHavingChanged_12 : decode cX4_risableHavingChanged 12 = .ok (.getfield 16, 3) := by decide +kernel
theorem dX4_risableHavingChanged_15 : decode cX4_risableHavingChanged 15 = .ok (.getfield 86, 3) := by decide +kernel
theorem dX4_risableHavingChanged_18 : decode cX4_risableHavingChanged 18 = .ok (.iload_n 1, 1) := by decide +kernel
theorem dX4_risableHavingChanged_19 : decode cX4_risableHavingChanged 19 = .ok (.aload_n 0, 1) := by decide +kernel
theorem dX4_risableHavingChanged_20 : decode cX4_risableHavingChanged 20 = .ok (.getfield 10, 3) := by decide +kernel
theorem dX4_risableHavingChanged_23 : decode cX4_risableHavingChanged 23 = .ok (.getfield 86, 3) := by decide +kernel
theorem dX4_risableHavingChanged_26 : decode cX4_risableHavingChanged 26 = .ok (.iload_n 2, 1) := by decide +kernel
theorem dX4_risableHavingChanged_27 : decode cX4_risableHavingChanged 27 = .ok (.iaload, 1) := by decide +kernel
theorem dX4_risableHavingChanged_28 : decode cX4_risableHavingChanged 28 = .ok (.iastore, 1) := by decide +kernel
theorem dX4_risableHavingChanged_29 : decode cX4_risableHavingChanged 29 = .ok (.aload_n 0, 1) := by decide +kernel
theorem dX4_risableHavingChanged_30 : decode cX4_risableHavingChanged 30 = .ok (.getfield 16, 3) := by decide +kernel
theorem dX4_risableHavingChanged_33 : decode cX4_risableHavingChanged 33 = .ok (.getfield 86, 3) := by decide +kernel
theorem dX4_risableHavingChanged_36 : decode cX4_risableHavingChanged 36 = .ok (.iload_n 2, 1) := by decide +kernel
theorem dX4_risableHavingChanged_37 : decode cX4_risableHavingChanged 37 = .ok (.aload_n 0, 1) := by decide +kernel
theorem dX4_risableHavingChanged_38 : decode cX4_risableHavingChanged 38 = .ok (.getfield 10, 3) := by decide +kernel
theorem dX4_risableHavingChanged_41 : decode cX4_risableHavingChanged 41 = .ok (.getfield 86, 3) := by decide +kernel
theorem dX4_risableHavingChanged_44 : decode cX4_risableHavingChanged 44 = .ok (.iload_n 1, 1) := by decide +kernel
theorem dX4_risableHavingChanged_45 : decode cX4_risableHavingChanged 45 = .ok (.iaload, 1) := by decide +kernel
theorem dX4_risableHavingChanged_46 : decode cX4_risableHavingChanged 46 = .ok (.iastore, 1) := by decide +kernel
theorem dX4_risableHavingChanged_47 : decode cX4_risableHavingChanged 47 = .ok (.aload_n 0, 1) := by decide +kernel
theorem dX4_risableHavingChanged_48 : decode cX4_risableHavingChanged 48 = .ok (.getfield 16, 3) := by decide +kernel
theorem dX4_risableHavingChanged_51 : decode cX4_risableHavingChanged 51 = .ok (.invokevirtual 152, 3) := by decide +kernel
theorem dX4_risableHavingChanged_54 : decode cX4_risableHavingChanged 54 = .ok (.ireturn, 1) := by decide +kernel
set_option maxRecDepth 20000 in
theorem ggX4_hush_X0_canRise : GoodIn wsX4_hush wsX0_canRise := goodIn_r _ [9, 10, 11, 12, 8, 13, 14, 15, 16, 17, 18, 19, 20, 21, 22, 23, 24, 25, 26, 27, 28, 29, 30, 31, 32, 33, 34, 35, 36, 37, 38, 39, 40, 41, 42, 43, 44, 45, 46, 47, 59, 60, 61, 62, 63, 64, 65, 66, 67, 68, 69, 70] (by decide +kernel) (by decide +kernel)
set_option maxRecDepth 20000 in
theorem gX4_hush_X0_canRise : GoodIn wsX4_hush (wsV RX4 143 RX0 yX0_canRise wsX0_canRise) := goodIn_app (goodIn_of _ (by decide +kernel)) ggX4_hush_X0_canRise
set_option maxRecDepth 20000 in
theorem ggX4_hush_X0_pool : GoodIn wsX4_hush wsX0_pool := goodIn_r _ [18, 19, 20, 21, 22, 23, 24, 8, 25, 26, 27, 28, 29, 30, 31, 32, 33, 34, 35, 36, 59, 60, 61, 62, 63, 64, 65, 66, 67, 68, 69, 70] (by decide +kernel) (by decide +kernel)
set_option maxRecDepth 20000 in
theorem gX4_hush_X0_pool : GoodIn wsX4_hush (wsV RX4 124 RX0 yX0_pool wsX0_pool) := goodIn_app (goodIn_of _ (by decide +kernel)) ggX4_hush_X0_pool
set_option maxRecDepth 20000 in
theorem ggX4_hush_X0_worth : GoodIn wsX4_hush wsX0_worth := goodIn_r _ [25, 26, 27, 28, 29, 30, 31, 32, 33, 34, 8, 35, 36, 59, 60, 61, 62, 63, 64, 65, 66, 67, 68, 69, 70] (by decide +kernel) (by decide +kernel)
set_option maxRecDepth 20000 in
theorem gX4_hush_X0_worth : GoodIn wsX4_hush (wsV RX4 130 RX0 yX0_worth wsX0_worth) := goodIn_app (goodIn_of _ (by decide +kernel)) ggX4_hush_X0_worth
set_option maxRecDepth 20000 in
theorem ggX4_hush_X0_lacks : GoodIn wsX4_hush wsX0_lacks := goodIn_r _ [40, 41, 28, 29, 30, 31, 10, 11, 12, 8, 13, 14, 42, 43, 44, 45, 46, 47, 32, 33, 34, 35, 36, 59, 60, 61, 62, 63, 64, 65, 66, 67, 68, 69, 70] (by decide +kernel) (by decide +kernel)
set_option maxRecDepth 20000 in
theorem gX4_hush_X0_lacks : GoodIn wsX4_hush (wsV RX4 121 RX0 yX0_lacks wsX0_lacks) := goodIn_app (goodIn_of _ (by decide +kernel)) ggX4_hush_X0_lacks
theorem dX4_hush_0 : decode cX4_hush 0 = .ok (.iconst 0, 1) := by decide +kernel
theorem dX4_hush_1 : decode cX4_hush 1 = .ok (.istore_n 1, 1) := by decide +kernel
theorem dX4_hush_2 : decode cX4_hush 2 = .ok (.iconst 0, 1) := by decide +kernel
theorem dX4_hush_3 : decode cX4_hush 3 = .ok (.istore_n 2, 1) := by decide +kernel
theorem dX4_hush_4 : decode cX4_hush 4 = .ok (.iload_n 2, 1) := by decide +kernel
theorem dX4_hush_5 : decode cX4_hush 5 = .ok (.aload_n 0, 1) := by decide +kernel
theorem dX4_hush_6 : decode cX4_hush 6 = .ok (.getfield 10, 3) := by decide +kernel
theorem dX4_hush_9 : decode cX4_hush 9 = .ok (.getfield 155, 3) := by decide +kernel
theorem dX4_hush_12 : decode cX4_hush 12 = .ok (.if_icmp .ge 74, 3) := by decide +kernel
theorem dX4_hush_15 : decode cX4_hush 15 = .ok (.aload_n 0, 1) := by decide +kernel
theorem dX4_hush_16 : decode cX4_hush 16 = .ok (.getfield 10, 3) := by decide +kernel
theorem dX4_hush_19 : decode cX4_hush 19 = .ok (.getfield 86, 3) := by decide +kernel
theorem dX4_hush_22 : decode cX4_hush 22 = .ok (.iload_n 2, 1) := by decide +kernel
theorem dX4_hush_23 : decode cX4_hush 23 = .ok (.iaload, 1) := by decide +kernel
theorem dX4_hush_24 : decode cX4_hush 24 = .ok (.istore_n 3, 1) := by decide +kernel
theorem dX4_hush_25 : decode cX4_hush 25 = .ok (.aload_n 0, 1) := by decide +kernel
theorem dX4_hush_26 : decode cX4_hush 26 = .ok (.getfield 10, 3) := by decide +kernel
theorem dX4_hush_29 : decode cX4_hush 29 = .ok (.iload_n 3, 1) := by decide +kernel
theorem dX4_hush_30 : decode cX4_hush 30 = .ok (.invokevirtual 143, 3) := by decide +kernel
theorem dX4_hush_33 : decode cX4_hush 33 = .ok (.ifCond .eq 47, 3) := by decide +kernel
theorem dX4_hush_36 : decode cX4_hush 36 = .ok (.aload_n 0, 1) := by decide +kernel
theorem dX4_hush_37 : decode cX4_hush 37 = .ok (.getfield 10, 3) := by decide +kernel
theorem dX4_hush_40 : decode cX4_hush 40 = .ok (.iload_n 3, 1) := by decide +kernel
theorem dX4_hush_41 : decode cX4_hush 41 = .ok (.invokevirtual 124, 3) := by decide +kernel
theorem dX4_hush_44 : decode cX4_hush 44 = .ok (.aload_n 0, 1) := by decide +kernel
theorem dX4_hush_45 : decode cX4_hush 45 = .ok (.getfield 10, 3) := by decide +kernel
theorem dX4_hush_48 : decode cX4_hush 48 = .ok (.getfield 89, 3) := by decide +kernel
theorem dX4_hush_51 : decode cX4_hush 51 = .ok (.iload_n 2, 1) := by decide +kernel
theorem dX4_hush_52 : decode cX4_hush 52 = .ok (.iaload, 1) := by decide +kernel
theorem dX4_hush_53 : decode cX4_hush 53 = .ok (.aload_n 0, 1) := by decide +kernel
theorem dX4_hush_54 : decode cX4_hush 54 = .ok (.getfield 10, 3) := by decide +kernel
theorem dX4_hush_57 : decode cX4_hush 57 = .ok (.iload_n 2, 1) := by decide +kernel
theorem dX4_hush_58 : decode cX4_hush 58 = .ok (.invokevirtual 130, 3) := by decide +kernel
theorem dX4_hush_61 : decode cX4_hush 61 = .ok (.imul, 1) := by decide +kernel
theorem dX4_hush_62 : decode cX4_hush 62 = .ok (.isub, 1) := by decide +kernel
theorem dX4_hush_63 : decode cX4_hush 63 = .ok (.aload_n 0, 1) := by decide +kernel
theorem dX4_hush_64 : decode cX4_hush 64 = .ok (.getfield 10, 3) := by decide +kernel
theorem dX4_hush_67 : decode cX4_hush 67 = .ok (.iload_n 3, 1) := by decide +kernel
theorem dX4_hush_68 : decode cX4_hush 68 = .ok (.invokevirtual 121, 3) := by decide +kernel
theorem dX4_hush_71 : decode cX4_hush 71 = .ok (.if_icmp .ge 9, 3) := by decide +kernel
theorem dX4_hush_74 : decode cX4_hush 74 = .ok (.iload_n 1, 1) := by decide +kernel
theorem dX4_hush_75 : decode cX4_hush 75 = .ok (.iconst 1, 1) := by decide +kernel
theorem dX4_hush_76 : decode cX4_hush 76 = .ok (.iload_n 2, 1) := by decide +kernel
theorem dX4_hush_77 : decode cX4_hush 77 = .ok (.ishl, 1) := by decide +kernel
theorem dX4_hush_78 : decode cX4_hush 78 = .ok (.ior, 1) := by decide +kernel
theorem dX4_hush_79 : decode cX4_hush 79 = .ok (.istore_n 1, 1) := by decide +kernel
theorem dX4_hush_80 : decode cX4_hush 80 = .ok (.iinc 2 1, 3) := by decide +kernel
theorem dX4_hush_83 : decode cX4_hush 83 = .ok (.goto (-79), 3) := by decide +kernel
theorem dX4_hush_86 : decode cX4_hush 86 = .ok (.iload_n 1, 1) := by decide +kernel
theorem dX4_hush_87 : decode cX4_hush 87 = .ok (.ireturn, 1) := by decide +kernel
set_option maxRecDepth 20000 in
theorem ggX4_loudest_X4_refused : GoodIn wsX4_loudest wsX4_refused := goodIn_r _ [8, 9, 74, 75, 76, 77, 78, 79, 80, 81] (by decide +kernel) (by decide +kernel)
set_option maxRecDepth 20000 in
theorem gX4_loudest_X4_refused : GoodIn wsX4_loudest (wsV RX4 51 RX4 yX4_refused wsX4_refused) := goodIn_app (goodIn_of _ (by decide +kernel)) ggX4_loudest_X4_refused
set_option maxRecDepth 20000 in
theorem ggX4_loudest_X0_copyFrom : GoodIn wsX4_loudest wsX0_copyFrom := goodIn_r _ [14, 15, 16, 17, 18, 19, 20, 21, 22, 23, 24, 25, 82, 83, 84, 85, 86, 87, 88, 89, 90, 91, 92, 93] (by decide +kernel) (by decide +kernel)
set_option maxRecDepth 20000 in
theorem gX4_loudest_X0_copyFrom : GoodIn wsX4_loudest (wsV RX4 62 RX0 yX0_copyFrom wsX0_copyFrom) := goodIn_app (goodIn_of _ (by decide +kernel)) ggX4_loudest_X0_copyFrom
set_option maxRecDepth 20000 in
theorem ggX4_loudest_X0_canTell : GoodIn wsX4_loudest wsX0_canTell := goodIn_r _ [29, 24, 25, 30, 31, 32, 13, 33, 16, 34, 35, 36, 37, 21, 82, 83, 84, 85, 86, 87, 88, 89, 90, 91, 92, 93] (by decide +kernel) (by decide +kernel)
set_option maxRecDepth 20000 in
theorem gX4_loudest_X0_canTell : GoodIn wsX4_loudest (wsV RX4 77 RX0 yX0_canTell wsX0_canTell) := goodIn_app (goodIn_of _ (by decide +kernel)) ggX4_loudest_X0_canTell
set_option maxRecDepth 20000 in
theorem ggX4_loudest_X0_word : GoodIn wsX4_loudest wsX0_word := goodIn_r _ [41, 24, 17, 42, 43, 44, 45, 15, 25, 46, 27, 28, 13, 29, 30, 31, 32, 33, 16, 34, 35, 36, 37, 21, 47, 48, 49, 50, 23, 22, 51, 52, 53, 54, 55, 56, 57, 18, 58, 59, 60, 61, 62, 63, 64, 65, 20, 66, 67, 68, 69, 70, 71, 72, 73, 19, 82, 83, 84, 85, 86, 87, 88, 89, 90, 91, 92, 93] (by decide +kernel) (by decide +kernel)
set_option maxRecDepth 20000 in
theorem gX4_loudest_X0_word : GoodIn wsX4_loudest (wsV RX4 80 RX0 yX0_word wsX0_word) := goodIn_app (goodIn_of _ (by decide +kernel)) ggX4_loudest_X0_word
theorem dX4_loudest_0 : decode cX4_loudest 0 = .ok (.iload_n 1, 1) := by decide +kernel
theorem dX4_loudest_1 : decode cX4_loudest 1 = .ok (.ifCond .eq 15, 3) := by decide +kernel
theorem dX4_loudest_4 : decode cX4_loudest 4 = .ok (.iload_n 1, 1) := by decide +kernel
theorem dX4_loudest_5 : decode cX4_loudest 5 = .ok (.iconst 1, 1) := by decide +kernel
theorem dX4_loudest_6 : decode cX4_loudest 6 = .ok (.if_icmp .eq 10, 3) := by decide +kernel
theorem dX4_loudest_9 : decode cX4_loudest 9 = .ok (.aload_n 0, 1) := by decide +kernel
theorem dX4_loudest_10 : decode cX4_loudest 10 = .ok (.bipush (-2), 2) := by decide +kernel
theorem dX4_loudest_12 : decode cX4_loudest 12 = .ok (.invokevirtual 51, 3) := by decide +kernel
theorem dX4_loudest_15 : decode cX4_loudest 15 = .ok (.ireturn, 1) := by decide +kernel
theorem dX4_loudest_16 : decode cX4_loudest 16 = .ok (.bipush (-9), 2) := by decide +kernel
theorem dX4_loudest_18 : decode cX4_loudest 18 = .ok (.istore_n 2, 1) := by decide +kernel
theorem dX4_loudest_19 : decode cX4_loudest 19 = .ok (.bipush (-9), 2) := by decide +kernel
theorem dX4_loudest_21 : decode cX4_loudest 21 = .ok (.istore_n 3, 1) := by decide +kernel
theorem dX4_loudest_22 : decode cX4_loudest 22 = .ok (.iconst 0, 1) := by decide +kernel
theorem dX4_loudest_23 : decode cX4_loudest 23 = .ok (.istore 4, 2) := by decide +kernel
theorem dX4_loudest_25 : decode cX4_loudest 25 = .ok (.iload 4, 2) := by decide +kernel
theorem dX4_loudest_27 : decode cX4_loudest 27 = .ok (.aload_n 0, 1) := by decide +kernel
theorem dX4_loudest_28 : decode cX4_loudest 28 = .ok (.getfield 10, 3) := by decide +kernel
theorem dX4_loudest_31 : decode cX4_loudest 31 = .ok (.getfield 155, 3) := by decide +kernel
theorem dX4_loudest_34 : decode cX4_loudest 34 = .ok (.if_icmp .ge 60, 3) := by decide +kernel
theorem dX4_loudest_37 : decode cX4_loudest 37 = .ok (.aload_n 0, 1) := by decide +kernel
theorem dX4_loudest_38 : decode cX4_loudest 38 = .ok (.getfield 16, 3) := by decide +kernel
theorem dX4_loudest_41 : decode cX4_loudest 41 = .ok (.aload_n 0, 1) := by decide +kernel
theorem dX4_loudest_42 : decode cX4_loudest 42 = .ok (.getfield 10, 3) := by decide +kernel
theorem dX4_loudest_45 : decode cX4_loudest 45 = .ok (.invokevirtual 62, 3) := by decide +kernel
theorem dX4_loudest_48 : decode cX4_loudest 48 = .ok (.aload_n 0, 1) := by decide +kernel
theorem dX4_loudest_49 : decode cX4_loudest 49 = .ok (.getfield 16, 3) := by decide +kernel
theorem dX4_loudest_52 : decode cX4_loudest 52 = .ok (.iload 4, 2) := by decide +kernel
theorem dX4_loudest_54 : decode cX4_loudest 54 = .ok (.invokevirtual 77, 3) := by decide +kernel
theorem dX4_loudest_57 : decode cX4_loudest 57 = .ok (.ifCond .eq 15, 3) := by decide +kernel
theorem dX4_loudest_60 : decode cX4_loudest 60 = .ok (.aload_n 0, 1) := by decide +kernel
theorem dX4_loudest_61 : decode cX4_loudest 61 = .ok (.getfield 16, 3) := by decide +kernel
theorem dX4_loudest_64 : decode cX4_loudest 64 = .ok (.iload 4, 2) := by decide +kernel
theorem dX4_loudest_66 : decode cX4_loudest 66 = .ok (.invokevirtual 80, 3) := by decide +kernel
theorem dX4_loudest_69 : decode cX4_loudest 69 = .ok (.goto 5, 3) := by decide +kernel
theorem dX4_loudest_72 : decode cX4_loudest 72 = .ok (.bipush (-9), 2) := by decide +kernel
theorem dX4_loudest_74 : decode cX4_loudest 74 = .ok (.istore 5, 2) := by decide +kernel
theorem dX4_loudest_76 : decode cX4_loudest 76 = .ok (.iload 5, 2) := by decide +kernel
theorem dX4_loudest_78 : decode cX4_loudest 78 = .ok (.iload_n 3, 1) := by decide +kernel
theorem dX4_loudest_79 : decode cX4_loudest 79 = .ok (.if_icmp .le 9, 3) := by decide +kernel
theorem dX4_loudest_82 : decode cX4_loudest 82 = .ok (.iload 5, 2) := by decide +kernel
theorem dX4_loudest_84 : decode cX4_loudest 84 = .ok (.istore_n 3, 1) := by decide +kernel
theorem dX4_loudest_85 : decode cX4_loudest 85 = .ok (.iload 4, 2) := by decide +kernel
theorem dX4_loudest_87 : decode cX4_loudest 87 = .ok (.istore_n 2, 1) := by decide +kernel
theorem dX4_loudest_88 : decode cX4_loudest 88 = .ok (.iinc 4 1, 3) := by decide +kernel
theorem dX4_loudest_91 : decode cX4_loudest 91 = .ok (.goto (-66), 3) := by decide +kernel
theorem dX4_loudest_94 : decode cX4_loudest 94 = .ok (.iload_n 1, 1) := by decide +kernel
theorem dX4_loudest_95 : decode cX4_loudest 95 = .ok (.ifCond .ne 7, 3) := by decide +kernel
theorem dX4_loudest_98 : decode cX4_loudest 98 = .ok (.iload_n 2, 1) := by decide +kernel
theorem dX4_loudest_99 : decode cX4_loudest 99 = .ok (.goto 4, 3) := by decide +kernel
theorem dX4_loudest_102 : decode cX4_loudest 102 = .ok (.iload_n 3, 1) := by decide +kernel
theorem dX4_loudest_103 : decode cX4_loudest 103 = .ok (.ireturn, 1) := by decide +kernel
set_option maxRecDepth 20000 in
theorem ggX4_spree_X4_refused : GoodIn wsX4_spree wsX4_refused := goodIn_r _ [9, 10, 85, 86, 87, 88, 89, 90, 91, 92] (by decide +kernel) (by decide +kernel)
set_option maxRecDepth 20000 in
theorem gX4_spree_X4_refused : GoodIn wsX4_spree (wsV RX4 51 RX4 yX4_refused wsX4_refused) := goodIn_app (goodIn_of _ (by decide +kernel)) ggX4_spree_X4_refused
set_option maxRecDepth 20000 in
theorem ggX4_spree_X0_copyFrom : GoodIn wsX4_spree wsX0_copyFrom := goodIn_r _ [15, 16, 17, 18, 19, 20, 21, 22, 23, 24, 25, 26, 93, 94, 95, 96, 97, 98, 99, 100, 101, 102, 103, 104] (by decide +kernel) (by decide +kernel)
set_option maxRecDepth 20000 in
theorem gX4_spree_X0_copyFrom : GoodIn wsX4_spree (wsV RX4 62 RX0 yX0_copyFrom wsX0_copyFrom) := goodIn_app (goodIn_of _ (by decide +kernel)) ggX4_spree_X0_copyFrom
set_option maxRecDepth 20000 in
theorem ggX4_spree_X0_word : GoodIn wsX4_spree wsX0_word := goodIn_r _ [30, 25, 18, 31, 32, 33, 34, 16, 26, 35, 36, 37, 14, 38, 39, 40, 41, 42, 17, 43, 44, 45, 46, 22, 47, 48, 49, 50, 24, 23, 51, 52, 53, 54, 55, 56, 57, 19, 58, 59, 60, 61, 62, 63, 64, 65, 21, 66, 67, 68, 69, 70, 71, 72, 73, 20, 93, 94, 95, 96, 97, 98, 99, 100, 101, 102, 103, 104] (by decide +kernel) (by decide +kernel)
set_option maxRecDepth 20000 in
theorem gX4_spree_X0_word : GoodIn wsX4_spree (wsV RX4 80 RX0 yX0_word wsX0_word) := goodIn_app (goodIn_of _ (by decide +kernel)) ggX4_spree_X0_word
set_option maxRecDepth 20000 in
theorem ggX4_spree_X0_outBits : GoodIn wsX4_spree wsX0_outBits := goodIn_r _ [77, 16, 43, 44, 45, 14, 46, 22, 93, 94, 95, 96, 97, 98, 99, 100, 101, 102, 103, 104] (by decide +kernel) (by decide +kernel)
set_option maxRecDepth 20000 in
theorem gX4_spree_X0_outBits : GoodIn wsX4_spree (wsV RX4 108 RX0 yX0_outBits wsX0_outBits) := goodIn_app (goodIn_of _ (by decide +kernel)) ggX4_spree_X0_outBits
set_option maxRecDepth 20000 in
theorem ggX4_spree_J6_bitCount_0f7a4 : GoodIn wsX4_spree wsJ6_bitCount_0f7a4 := goodIn_r _ [81, 82, 83, 84] (by decide +kernel) (by decide +kernel)
set_option maxRecDepth 20000 in
theorem gX4_spree_J6_bitCount_0f7a4 : GoodIn wsX4_spree (va_wsS RX4 162 yJ6_bitCount_0f7a4 wsJ6_bitCount_0f7a4) := goodIn_app (goodIn_of _ (by decide +kernel)) ggX4_spree_J6_bitCount_0f7a4
theorem dX4_spree_0 : decode cX4_spree 0 = .ok (.iload_n 1, 1) := by decide +kernel
theorem dX4_spree_1 : decode cX4_spree 1 = .ok (.ifCond .eq 15, 3) := by decide +kernel
theorem dX4_spree_4 : decode cX4_spree 4 = .ok (.iload_n 1, 1) := by decide +kernel
theorem dX4_spree_5 : decode cX4_spree 5 = .ok (.iconst 1, 1) := by decide +kernel
theorem dX4_spree_6 : decode cX4_spree 6 = .ok (.if_icmp .eq 10, 3) := by decide +kernel
theorem dX4_spree_9 : decode cX4_spree 9 = .ok (.aload_n 0, 1) := by decide +kernel
theorem dX4_spree_10 : decode cX4_spree 10 = .ok (.bipush (-2), 2) := by decide +kernel
theorem dX4_spree_12 : decode cX4_spree 12 = .ok (.invokevirtual 51, 3) := by decide +kernel
theorem dX4_spree_15 : decode cX4_spree 15 = .ok (.ireturn, 1) := by decide +kernel
theorem dX4_spree_16 : decode cX4_spree 16 = .ok (.aload_n 0, 1) := by decide +kernel
theorem dX4_spree_17 : decode cX4_spree 17 = .ok (.getfield 16, 3) := by decide +kernel
theorem dX4_spree_20 : decode cX4_spree 20 = .ok (.aload_n 0, 1) := by decide +kernel
theorem dX4_spree_21 : decode cX4_spree 21 = .ok (.getfield 10, 3) := by decide +kernel
theorem dX4_spree_24 : decode cX4_spree 24 = .ok (.invokevirtual 62, 3) := by decide +kernel
theorem dX4_spree_27 : decode cX4_spree 27 = .ok (.iconst 0, 1) := by decide +kernel
theorem dX4_spree_28 : decode cX4_spree 28 = .ok (.istore_n 2, 1) := by decide +kernel
theorem dX4_spree_29 : decode cX4_spree 29 = .ok (.iload_n 2, 1) := by decide +kernel
theorem dX4_spree_30 : decode cX4_spree 30 = .ok (.aload_n 0, 1) := by decide +kernel
theorem dX4_spree_31 : decode cX4_spree 31 = .ok (.getfield 10, 3) := by decide +kernel
theorem dX4_spree_34 : decode cX4_spree 34 = .ok (.getfield 155, 3) := by decide +kernel
theorem dX4_spree_37 : decode cX4_spree 37 = .ok (.if_icmp .ge 18, 3) := by decide +kernel
theorem dX4_spree_40 : decode cX4_spree 40 = .ok (.aload_n 0, 1) := by decide +kernel
theorem dX4_spree_41 : decode cX4_spree 41 = .ok (.getfield 16, 3) := by decide +kernel
theorem dX4_spree_44 : decode cX4_spree 44 = .ok (.iload_n 2, 1) := by decide +kernel
theorem dX4_spree_45 : decode cX4_spree 45 = .ok (.invokevirtual 80, 3) := by decide +kernel
theorem dX4_spree_48 : decode cX4_spree 48 = .ok (.pop, 1) := by decide +kernel
theorem dX4_spree_49 : decode cX4_spree 49 = .ok (.iinc 2 1, 3) := by decide +kernel
theorem dX4_spree_52 : decode cX4_spree 52 = .ok (.goto (-23), 3) := by decide +kernel
theorem dX4_spree_55 : decode cX4_spree 55 = .ok (.iload_n 1, 1) := by decide +kernel
theorem dX4_spree_56 : decode cX4_spree 56 = .ok (.ifCond .ne 16, 3) := by decide +kernel
theorem dX4_spree_59 : decode cX4_spree 59 = .ok (.aload_n 0, 1) := by decide +kernel
theorem dX4_spree_60 : decode cX4_spree 60 = .ok (.getfield 16, 3) := by decide +kernel
theorem dX4_spree_63 : decode cX4_spree 63 = .ok (.invokevirtual 108, 3) := by decide +kernel
theorem dX4_spree_66 : decode cX4_spree 66 = .ok (.invokestatic 162, 3) := by decide +kernel
theorem dX4_spree_69 : decode cX4_spree 69 = .ok (.goto 10, 3) := by decide +kernel
theorem dX4_spree_72 : decode cX4_spree 72 = .ok (.aload_n 0, 1) := by decide +kernel
theorem dX4_spree_73 : decode cX4_spree 73 = .ok (.getfield 16, 3) := by decide +kernel
theorem dX4_spree_76 : decode cX4_spree 76 = .ok (.getfield 167, 3) := by decide +kernel
theorem dX4_spree_79 : decode cX4_spree 79 = .ok (.ireturn, 1) := by decide +kernel
set_option maxRecDepth 20000 in
theorem ggX4_keep_X0_hasMan : GoodIn wsX4_keep wsX0_hasMan := goodIn_r _ [6, 7, 103, 104, 105, 106, 107, 108, 109, 110, 111, 112, 113, 114] (by decide +kernel) (by decide +kernel)
set_option maxRecDepth 20000 in
theorem gX4_keep_X0_hasMan : GoodIn wsX4_keep (wsV RX4 73 RX0 yX0_hasMan wsX0_hasMan) := goodIn_app (goodIn_of _ (by decide +kernel)) ggX4_keep_X0_hasMan
set_option maxRecDepth 20000 in
theorem ggX4_keep_X4_refused : GoodIn wsX4_keep wsX4_refused := goodIn_r _ [12, 13, 95, 96, 97, 98, 99, 100, 101, 102] (by decide +kernel) (by decide +kernel)
set_option maxRecDepth 20000 in
theorem gX4_keep_X4_refused : GoodIn wsX4_keep (wsV RX4 51 RX4 yX4_refused wsX4_refused) := goodIn_app (goodIn_of _ (by decide +kernel)) ggX4_keep_X4_refused
set_option maxRecDepth 20000 in
theorem ggX4_keep_X0_canTell : GoodIn wsX4_keep wsX0_canTell := goodIn_r _ [17, 18, 19, 20, 3, 4, 5, 6, 7, 21, 22, 23, 24, 25, 103, 104, 105, 106, 107, 108, 109, 110, 111, 112, 113, 114] (by decide +kernel) (by decide +kernel)
set_option maxRecDepth 20000 in
theorem gX4_keep_X0_canTell : GoodIn wsX4_keep (wsV RX4 77 RX0 yX0_canTell wsX0_canTell) := goodIn_app (goodIn_of _ (by decide +kernel)) ggX4_keep_X0_canTell
set_option maxRecDepth 20000 in
theorem ggX4_keep_X4_lacksBehindWord : GoodIn wsX4_keep wsX4_lacksBehindWord := goodIn_r _ [29, 30, 1, 31, 32, 33, 34, 5, 35, 36, 7, 37, 38, 39, 40, 25, 41, 42, 18, 19, 43, 44, 45, 46, 47, 48, 49, 50, 51, 52, 53, 54, 21, 22, 23, 24, 55, 56, 57, 58, 59, 60, 61, 62, 63, 15, 16, 17, 20, 3, 4, 6, 64, 65, 66, 67, 68, 69, 70, 71, 72, 73, 74, 75, 76, 77, 78, 79, 80, 81, 82, 83, 84, 85, 86, 87, 88, 89, 90, 91, 92, 93, 94, 95, 96, 97, 98, 99, 100, 101, 102, 103, 104, 105, 106, 107, 108, 109, 110, 111, 112, 113, 114] (by decide +kernel) (by decide +kernel)
set_option maxRecDepth 20000 in
theorem gX4_keep_X4_lacksBehindWord : GoodIn wsX4_keep (wsV RX4 170 RX4 yX4_lacksBehindWord wsX4_lacksBehindWord) := goodIn_app (goodIn_of _ (by decide +kernel)) ggX4_keep_X4_lacksBehindWord
theorem dX4_keep_0 : decode cX4_keep 0 = .ok (.aload_n 0, 1) := by decide +kernel
theorem dX4_keep_1 : decode cX4_keep 1 = .ok (.getfield 10, 3) := by decide +kernel
theorem dX4_keep_4 : decode cX4_keep 4 = .ok (.iload_n 1, 1) := by decide +kernel
theorem dX4_keep_5 : decode cX4_keep 5 = .ok (.invokevirtual 73, 3) := by decide +kernel
theorem dX4_keep_8 : decode cX4_keep 8 = .ok (.ifCond .ne 9, 3) := by decide +kernel
theorem dX4_keep_11 : decode cX4_keep 11 = .ok (.aload_n 0, 1) := by decide +kernel
theorem dX4_keep_12 : decode cX4_keep 12 = .ok (.iconst (-1), 1) := by decide +kernel
theorem dX4_keep_13 : decode cX4_keep 13 = .ok (.invokevirtual 51, 3) := by decide +kernel
theorem dX4_keep_16 : decode cX4_keep 16 = .ok (.ireturn, 1) := by decide +kernel
theorem dX4_keep_17 : decode cX4_keep 17 = .ok (.aload_n 0, 1) := by decide +kernel
theorem dX4_keep_18 : decode cX4_keep 18 = .ok (.getfield 10, 3) := by decide +kernel
theorem dX4_keep_21 : decode cX4_keep 21 = .ok (.iload_n 1, 1) := by decide +kernel
theorem dX4_keep_22 : decode cX4_keep 22 = .ok (.invokevirtual 77, 3) := by decide +kernel
theorem dX4_keep_25 : decode cX4_keep 25 = .ok (.ifCond .ne 10, 3) := by decide +kernel
theorem dX4_keep_28 : decode cX4_keep 28 = .ok (.aload_n 0, 1) := by decide +kernel
theorem dX4_keep_29 : decode cX4_keep 29 = .ok (.bipush (-3), 2) := by decide +kernel
theorem dX4_keep_31 : decode cX4_keep 31 = .ok (.invokevirtual 51, 3) := by decide +kernel
theorem dX4_keep_34 : decode cX4_keep 34 = .ok (.ireturn, 1) := by decide +kernel
theorem dX4_keep_35 : decode cX4_keep 35 = .ok (.aload_n 0, 1) := by decide +kernel
theorem dX4_keep_36 : decode cX4_keep 36 = .ok (.iload_n 1, 1) := by decide +kernel
theorem dX4_keep_37 : decode cX4_keep 37 = .ok (.iconst 0, 1) := by decide +kernel
theorem dX4_keep_38 : decode cX4_keep 38 = .ok (.invokevirtual 170, 3) := by decide +kernel
theorem dX4_keep_41 : decode cX4_keep 41 = .ok (.aload_n 0, 1) := by decide +kernel
theorem dX4_keep_42 : decode cX4_keep 42 = .ok (.iload_n 1, 1) := by decide +kernel
theorem dX4_keep_43 : decode cX4_keep 43 = .ok (.iconst 1, 1) := by decide +kernel
theorem dX4_keep_44 : decode cX4_keep 44 = .ok (.invokevirtual 170, 3) := by decide +kernel
theorem dX4_keep_47 : decode cX4_keep 47 = .ok (.if_icmp .gt 7, 3) := by decide +kernel
theorem dX4_keep_50 : decode cX4_keep 50 = .ok (.iconst 1, 1) := by decide +kernel
theorem dX4_keep_51 : decode cX4_keep 51 = .ok (.goto 4, 3) := by decide +kernel
theorem dX4_keep_54 : decode cX4_keep 54 = .ok (.iconst 0, 1) := by decide +kernel
theorem dX4_keep_55 : decode cX4_keep 55 = .ok (.ireturn, 1) := by decide +kernel
set_option maxRecDepth 20000 in
theorem ggX4_lacksBehindWord_X0_copyFrom : GoodIn wsX4_lacksBehindWord wsX0_copyFrom := goodIn_r _ [8, 9, 10, 11, 12, 13, 14, 15, 16, 17, 18, 19, 91, 92, 93, 94, 95, 96, 97, 98, 99, 100, 101, 102] (by decide +kernel) (by decide +kernel)
set_option maxRecDepth 20000 in
theorem gX4_lacksBehindWord_X0_copyFrom : GoodIn wsX4_lacksBehindWord (wsV RX4 62 RX0 yX0_copyFrom wsX0_copyFrom) := goodIn_app (goodIn_of _ (by decide +kernel)) ggX4_lacksBehindWord_X0_copyFrom
set_option maxRecDepth 20000 in
theorem ggX4_lacksBehindWord_X0_passTides : GoodIn wsX4_lacksBehindWord wsX0_passTides := goodIn_r _ [23, 24, 25, 26, 7, 27, 12, 10, 19, 18, 28, 29, 30, 31, 9, 15, 32, 33, 34, 35, 36, 37, 38, 39, 16, 91, 92, 93, 94, 95, 96, 97, 98, 99, 100, 101, 102] (by decide +kernel) (by decide +kernel)
set_option maxRecDepth 20000 in
theorem gX4_lacksBehindWord_X0_passTides : GoodIn wsX4_lacksBehindWord (wsV RX4 104 RX0 yX0_passTides wsX0_passTides) := goodIn_app (goodIn_of _ (by decide +kernel)) ggX4_lacksBehindWord_X0_passTides
set_option maxRecDepth 20000 in
theorem ggX4_lacksBehindWord_X0_word : GoodIn wsX4_lacksBehindWord wsX0_word := goodIn_r _ [43, 18, 11, 28, 29, 30, 31, 9, 19, 44, 45, 46, 7, 47, 48, 49, 50, 51, 10, 32, 33, 34, 35, 15, 52, 53, 54, 55, 17, 16, 56, 57, 58, 59, 60, 61, 62, 12, 63, 64, 65, 66, 67, 68, 69, 70, 14, 71, 72, 73, 74, 75, 76, 77, 78, 13, 91, 92, 93, 94, 95, 96, 97, 98, 99, 100, 101, 102] (by decide +kernel) (by decide +kernel)
set_option maxRecDepth 20000 in
theorem gX4_lacksBehindWord_X0_word : GoodIn wsX4_lacksBehindWord (wsV RX4 80 RX0 yX0_word wsX0_word) := goodIn_app (goodIn_of _ (by decide +kernel)) ggX4_lacksBehindWord_X0_word
set_option maxRecDepth 20000 in
theorem ggX4_lacksBehindWord_X0_lacks : GoodIn wsX4_lacksBehindWord wsX0_lacks := goodIn_r _ [82, 14, 56, 57, 30, 58, 32, 33, 34, 7, 35, 15, 75, 76, 77, 78, 13, 11, 59, 60, 61, 62, 12, 91, 92, 93, 94, 95, 96, 97, 98, 99, 100, 101, 102] (by decide +kernel) (by decide +kernel)
set_option maxRecDepth 20000 in
theorem gX4_lacksBehindWord_X0_lacks : GoodIn wsX4_lacksBehindWord (wsV RX4 121 RX0 yX0_lacks wsX0_lacks) := goodIn_app (goodIn_of _ (by decide +kernel)) ggX4_lacksBehindWord_X0_lacks
theorem dX4_lacksBehindWord_0 : decode cX4_lacksBehindWord 0 = .ok (.aload_n 0, 1) := by decide +kernel
theorem dX4_lacksBehindWord_1 : decode cX4_lacksBehindWord 1 = .ok (.getfield 16, 3) := by decide +kernel
theorem dX4_lacksBehindWord_4 : decode cX4_lacksBehindWord 4 = .ok (.aload_n 0, 1) := by decide +kernel
theorem dX4_lacksBehindWord_5 : decode cX4_lacksBehindWord 5 = .ok (.getfield 10, 3) := by decide +kernel
theorem dX4_lacksBehindWord_8 : decode cX4_lacksBehindWord 8 = .ok (.invokevirtual 62, 3) := by decide +kernel
theorem dX4_lacksBehindWord_11 : decode cX4_lacksBehindWord 11 = .ok (.aload_n 0, 1) := by decide +kernel
theorem dX4_lacksBehindWord_12 : decode cX4_lacksBehindWord 12 = .ok (.getfield 16, 3) := by decide +kernel
theorem dX4_lacksBehindWord_15 : decode cX4_lacksBehindWord 15 = .ok (.iload_n 2, 1) := by decide +kernel
theorem dX4_lacksBehindWord_16 : decode cX4_lacksBehindWord 16 = .ok (.invokevirtual 104, 3) := by decide +kernel
theorem dX4_lacksBehindWord_19 : decode cX4_lacksBehindWord 19 = .ok (.aload_n 0, 1) := by decide +kernel
theorem dX4_lacksBehindWord_20 : decode cX4_lacksBehindWord 20 = .ok (.getfield 16, 3) := by decide +kernel
theorem dX4_lacksBehindWord_23 : decode cX4_lacksBehindWord 23 = .ok (.iload_n 1, 1) := by decide +kernel
theorem dX4_lacksBehindWord_24 : decode cX4_lacksBehindWord 24 = .ok (.invokevirtual 80, 3) := by decide +kernel
theorem dX4_lacksBehindWord_27 : decode cX4_lacksBehindWord 27 = .ok (.pop, 1) := by decide +kernel
theorem dX4_lacksBehindWord_28 : decode cX4_lacksBehindWord 28 = .ok (.aload_n 0, 1) := by decide +kernel
theorem dX4_lacksBehindWord_29 : decode cX4_lacksBehindWord 29 = .ok (.getfield 16, 3) := by decide +kernel
theorem dX4_lacksBehindWord_32 : decode cX4_lacksBehindWord 32 = .ok (.aload_n 0, 1) := by decide +kernel
theorem dX4_lacksBehindWord_33 : decode cX4_lacksBehindWord 33 = .ok (.getfield 16, 3) := by decide +kernel
theorem dX4_lacksBehindWord_36 : decode cX4_lacksBehindWord 36 = .ok (.getfield 86, 3) := by decide +kernel
theorem dX4_lacksBehindWord_39 : decode cX4_lacksBehindWord 39 = .ok (.iload_n 1, 1) := by decide +kernel
theorem dX4_lacksBehindWord_40 : decode cX4_lacksBehindWord 40 = .ok (.iaload, 1) := by decide +kernel
theorem dX4_lacksBehindWord_41 : decode cX4_lacksBehindWord 41 = .ok (.invokevirtual 121, 3) := by decide +kernel
theorem dX4_lacksBehindWord_44 : decode cX4_lacksBehindWord 44 = .ok (.ireturn, 1) := by decide +kernel
set_option maxRecDepth 20000 in
theorem ggX4_richest_X4_refused : GoodIn wsX4_richest wsX4_refused := goodIn_r _ [8, 9, 26, 27, 28, 29, 30, 31, 32, 33] (by decide +kernel) (by decide +kernel)
set_option maxRecDepth 20000 in
theorem gX4_richest_X4_refused : GoodIn wsX4_richest (wsV RX4 51 RX4 yX4_refused wsX4_refused) := goodIn_app (goodIn_of _ (by decide +kernel)) ggX4_richest_X4_refused
set_option maxRecDepth 20000 in
theorem ggX4_richest_X0_worth : GoodIn wsX4_richest wsX0_worth := goodIn_r _ [14, 15, 16, 17, 18, 19, 20, 21, 22, 23, 13, 24, 25, 34, 35, 36, 37, 38, 39, 40, 41, 42, 43, 44, 45] (by decide +kernel) (by decide +kernel)
set_option maxRecDepth 20000 in
theorem gX4_richest_X0_worth : GoodIn wsX4_richest (wsV RX4 130 RX0 yX0_worth wsX0_worth) := goodIn_app (goodIn_of _ (by decide +kernel)) ggX4_richest_X0_worth
theorem dX4_richest_0 : decode cX4_richest 0 = .ok (.iload_n 1, 1) := by decide +kernel
theorem dX4_richest_1 : decode cX4_richest 1 = .ok (.ifCond .eq 15, 3) := by decide +kernel
theorem dX4_richest_4 : decode cX4_richest 4 = .ok (.iload_n 1, 1) := by decide +kernel
theorem dX4_richest_5 : decode cX4_richest 5 = .ok (.iconst 1, 1) := by decide +kernel
theorem dX4_richest_6 : decode cX4_richest 6 = .ok (.if_icmp .eq 10, 3) := by decide +kernel
theorem dX4_richest_9 : decode cX4_richest 9 = .ok (.aload_n 0, 1) := by decide +kernel
theorem dX4_richest_10 : decode cX4_richest 10 = .ok (.bipush (-2), 2) := by decide +kernel
theorem dX4_richest_12 : decode cX4_richest 12 = .ok (.invokevirtual 51, 3) := by decide +kernel
theorem dX4_richest_15 : decode cX4_richest 15 = .ok (.ireturn, 1) := by decide +kernel
theorem dX4_richest_16 : decode cX4_richest 16 = .ok (.bipush (-9), 2) := by decide +kernel
theorem dX4_richest_18 : decode cX4_richest 18 = .ok (.istore_n 2, 1) := by decide +kernel
theorem dX4_richest_19 : decode cX4_richest 19 = .ok (.iconst (-1), 1) := by decide +kernel
theorem dX4_richest_20 : decode cX4_richest 20 = .ok (.istore_n 3, 1) := by decide +kernel
theorem dX4_richest_21 : decode cX4_richest 21 = .ok (.iconst 0, 1) := by decide +kernel
theorem dX4_richest_22 : decode cX4_richest 22 = .ok (.istore 4, 2) := by decide +kernel
theorem dX4_richest_24 : decode cX4_richest 24 = .ok (.iload 4, 2) := by decide +kernel
theorem dX4_richest_26 : decode cX4_richest 26 = .ok (.aload_n 0, 1) := by decide +kernel
theorem dX4_richest_27 : decode cX4_richest 27 = .ok (.getfield 10, 3) := by decide +kernel
theorem dX4_richest_30 : decode cX4_richest 30 = .ok (.getfield 155, 3) := by decide +kernel
theorem dX4_richest_33 : decode cX4_richest 33 = .ok (.if_icmp .ge 49, 3) := by decide +kernel
theorem dX4_richest_36 : decode cX4_richest 36 = .ok (.iload_n 1, 1) := by decide +kernel
theorem dX4_richest_37 : decode cX4_richest 37 = .ok (.ifCond .ne 16, 3) := by decide +kernel
theorem dX4_richest_40 : decode cX4_richest 40 = .ok (.aload_n 0, 1) := by decide +kernel
theorem dX4_richest_41 : decode cX4_richest 41 = .ok (.getfield 10, 3) := by decide +kernel
theorem dX4_richest_44 : decode cX4_richest 44 = .ok (.getfield 89, 3) := by decide +kernel
theorem dX4_richest_47 : decode cX4_richest 47 = .ok (.iload 4, 2) := by decide +kernel
theorem dX4_richest_49 : decode cX4_richest 49 = .ok (.iaload, 1) := by decide +kernel
theorem dX4_richest_50 : decode cX4_richest 50 = .ok (.goto 12, 3) := by decide +kernel
theorem dX4_richest_53 : decode cX4_richest 53 = .ok (.aload_n 0, 1) := by decide +kernel
theorem dX4_richest_54 : decode cX4_richest 54 = .ok (.getfield 10, 3) := by decide +kernel
theorem dX4_richest_57 : decode cX4_richest 57 = .ok (.iload 4, 2) := by decide +kernel
theorem dX4_richest_59 : decode cX4_richest 59 = .ok (.invokevirtual 130, 3) := by decide +kernel
theorem dX4_richest_62 : decode cX4_richest 62 = .ok (.istore 5, 2) := by decide +kernel
theorem dX4_richest_64 : decode cX4_richest 64 = .ok (.iload 5, 2) := by decide +kernel
theorem dX4_richest_66 : decode cX4_richest 66 = .ok (.iload_n 3, 1) := by decide +kernel
theorem dX4_richest_67 : decode cX4_richest 67 = .ok (.if_icmp .le 9, 3) := by decide +kernel
theorem dX4_richest_70 : decode cX4_richest 70 = .ok (.iload 5, 2) := by decide +kernel
theorem dX4_richest_72 : decode cX4_richest 72 = .ok (.istore_n 3, 1) := by decide +kernel
theorem dX4_richest_73 : decode cX4_richest 73 = .ok (.iload 4, 2) := by decide +kernel
theorem dX4_richest_75 : decode cX4_richest 75 = .ok (.istore_n 2, 1) := by decide +kernel
theorem dX4_richest_76 : decode cX4_richest 76 = .ok (.iinc 4 1, 3) := by decide +kernel
theorem dX4_richest_79 : decode cX4_richest 79 = .ok (.goto (-55), 3) := by decide +kernel
theorem dX4_richest_82 : decode cX4_richest 82 = .ok (.iload_n 2, 1) := by decide +kernel
theorem dX4_richest_83 : decode cX4_richest 83 = .ok (.ireturn, 1) := by decide +kernel
set_option maxRecDepth 20000 in
theorem ggX4_blameless_X0_sinsAboard : GoodIn wsX4_blameless wsX0_sinsAboard := goodIn_r _ [7, 8, 9, 10, 19, 20, 21, 22, 23, 24, 25, 26, 27, 28, 29, 30] (by decide +kernel) (by decide +kernel)
set_option maxRecDepth 20000 in
theorem gX4_blameless_X0_sinsAboard : GoodIn wsX4_blameless (wsV RX4 173 RX0 yX0_sinsAboard wsX0_sinsAboard) := goodIn_app (goodIn_of _ (by decide +kernel)) ggX4_blameless_X0_sinsAboard
theorem dX4_blameless_0 : decode cX4_blameless 0 = .ok (.iconst 0, 1) := by decide +kernel
theorem dX4_blameless_1 : decode cX4_blameless 1 = .ok (.istore_n 1, 1) := by decide +kernel
theorem dX4_blameless_2 : decode cX4_blameless 2 = .ok (.iconst 0, 1) := by decide +kernel
theorem dX4_blameless_3 : decode cX4_blameless 3 = .ok (.istore_n 2, 1) := by decide +kernel
theorem dX4_blameless_4 : decode cX4_blameless 4 = .ok (.iload_n 2, 1) := by decide +kernel
theorem dX4_blameless_5 : decode cX4_blameless 5 = .ok (.aload_n 0, 1) := by decide +kernel
theorem dX4_blameless_6 : decode cX4_blameless 6 = .ok (.getfield 10, 3) := by decide +kernel
theorem dX4_blameless_9 : decode cX4_blameless 9 = .ok (.getfield 136, 3) := by decide +kernel
theorem dX4_blameless_12 : decode cX4_blameless 12 = .ok (.if_icmp .ge 26, 3) := by decide +kernel
theorem dX4_blameless_15 : decode cX4_blameless 15 = .ok (.aload_n 0, 1) := by decide +kernel
theorem dX4_blameless_16 : decode cX4_blameless 16 = .ok (.getfield 10, 3) := by decide +kernel
theorem dX4_blameless_19 : decode cX4_blameless 19 = .ok (.iload_n 2, 1) := by decide +kernel
theorem dX4_blameless_20 : decode cX4_blameless 20 = .ok (.invokevirtual 173, 3) := by decide +kernel
theorem dX4_blameless_23 : decode cX4_blameless 23 = .ok (.ifCond .ne 9, 3) := by decide +kernel
theorem dX4_blameless_26 : decode cX4_blameless 26 = .ok (.iload_n 1, 1) := by decide +kernel
theorem dX4_blameless_27 : decode cX4_blameless 27 = .ok (.iconst 1, 1) := by decide +kernel
theorem dX4_blameless_28 : decode cX4_blameless 28 = .ok (.iload_n 2, 1) := by decide +kernel
theorem dX4_blameless_29 : decode cX4_blameless 29 = .ok (.ishl, 1) := by decide +kernel
theorem dX4_blameless_30 : decode cX4_blameless 30 = .ok (.ior, 1) := by decide +kernel
theorem dX4_blameless_31 : decode cX4_blameless 31 = .ok (.istore_n 1, 1) := by decide +kernel
theorem dX4_blameless_32 : decode cX4_blameless 32 = .ok (.iinc 2 1, 3) := by decide +kernel
theorem dX4_blameless_35 : decode cX4_blameless 35 = .ok (.goto (-31), 3) := by decide +kernel
theorem dX4_blameless_38 : decode cX4_blameless 38 = .ok (.iload_n 1, 1) := by decide +kernel
theorem dX4_blameless_39 : decode cX4_blameless 39 = .ok (.ireturn, 1) := by decide +kernel
set_option maxRecDepth 20000 in
theorem ggX4_ebb_X0_hasShip : GoodIn wsX4_ebb wsX0_hasShip := goodIn_r _ [9, 10, 55, 56, 57, 58, 59, 60, 61, 62, 63, 64, 65, 66] (by decide +kernel) (by decide +kernel)
set_option maxRecDepth 20000 in
theorem gX4_ebb_X0_hasShip : GoodIn wsX4_ebb (wsV RX4 83 RX0 yX0_hasShip wsX0_hasShip) := goodIn_app (goodIn_of _ (by decide +kernel)) ggX4_ebb_X0_hasShip
set_option maxRecDepth 20000 in
theorem ggX4_ebb_X4_refused : GoodIn wsX4_ebb wsX4_refused := goodIn_r _ [15, 16, 47, 48, 49, 50, 51, 52, 53, 54] (by decide +kernel) (by decide +kernel)
set_option maxRecDepth 20000 in
theorem gX4_ebb_X4_refused : GoodIn wsX4_ebb (wsV RX4 51 RX4 yX4_refused wsX4_refused) := goodIn_app (goodIn_of _ (by decide +kernel)) ggX4_ebb_X4_refused
set_option maxRecDepth 20000 in
theorem ggX4_ebb_X0_copyFrom : GoodIn wsX4_ebb wsX0_copyFrom := goodIn_r _ [20, 10, 21, 22, 23, 24, 25, 26, 27, 28, 29, 30, 55, 56, 57, 58, 59, 60, 61, 62, 63, 64, 65, 66] (by decide +kernel) (by decide +kernel)
set_option maxRecDepth 20000 in
theorem gX4_ebb_X0_copyFrom : GoodIn wsX4_ebb (wsV RX4 62 RX0 yX0_copyFrom wsX0_copyFrom) := goodIn_app (goodIn_of _ (by decide +kernel)) ggX4_ebb_X0_copyFrom
set_option maxRecDepth 20000 in
theorem ggX4_ebb_X0_pool : GoodIn wsX4_ebb wsX0_pool := goodIn_r _ [34, 21, 30, 29, 35, 36, 37, 8, 38, 28, 27, 39, 40, 41, 42, 43, 44, 45, 46, 23, 55, 56, 57, 58, 59, 60, 61, 62, 63, 64, 65, 66] (by decide +kernel) (by decide +kernel)
set_option maxRecDepth 20000 in
theorem gX4_ebb_X0_pool : GoodIn wsX4_ebb (wsV RX4 124 RX0 yX0_pool wsX0_pool) := goodIn_app (goodIn_of _ (by decide +kernel)) ggX4_ebb_X0_pool
theorem dX4_ebb_0 : decode cX4_ebb 0 = .ok (.aload_n 0, 1) := by decide +kernel
theorem dX4_ebb_1 : decode cX4_ebb 1 = .ok (.getfield 10, 3) := by decide +kernel
theorem dX4_ebb_4 : decode cX4_ebb 4 = .ok (.iload_n 1, 1) := by decide +kernel
theorem dX4_ebb_5 : decode cX4_ebb 5 = .ok (.invokevirtual 83, 3) := by decide +kernel
theorem dX4_ebb_8 : decode cX4_ebb 8 = .ok (.ifCond .ne 12, 3) := by decide +kernel
theorem dX4_ebb_11 : decode cX4_ebb 11 = .ok (.ldc 176, 2) := by decide +kernel
theorem dX4_ebb_13 : decode cX4_ebb 13 = .ok (.aload_n 0, 1) := by decide +kernel
theorem dX4_ebb_14 : decode cX4_ebb 14 = .ok (.iconst (-1), 1) := by decide +kernel
theorem dX4_ebb_15 : decode cX4_ebb 15 = .ok (.invokevirtual 51, 3) := by decide +kernel
theorem dX4_ebb_18 : decode cX4_ebb 18 = .ok (.isub, 1) := by decide +kernel
theorem dX4_ebb_19 : decode cX4_ebb 19 = .ok (.ireturn, 1) := by decide +kernel
theorem dX4_ebb_20 : decode cX4_ebb 20 = .ok (.aload_n 0, 1) := by decide +kernel
theorem dX4_ebb_21 : decode cX4_ebb 21 = .ok (.getfield 16, 3) := by decide +kernel
theorem dX4_ebb_24 : decode cX4_ebb 24 = .ok (.aload_n 0, 1) := by decide +kernel
theorem dX4_ebb_25 : decode cX4_ebb 25 = .ok (.getfield 10, 3) := by decide +kernel
theorem dX4_ebb_28 : decode cX4_ebb 28 = .ok (.invokevirtual 62, 3) := by decide +kernel
theorem dX4_ebb_31 : decode cX4_ebb 31 = .ok (.aload_n 0, 1) := by decide +kernel
theorem dX4_ebb_32 : decode cX4_ebb 32 = .ok (.getfield 16, 3) := by decide +kernel
theorem dX4_ebb_35 : decode cX4_ebb 35 = .ok (.dup, 1) := by decide +kernel
theorem dX4_ebb_36 : decode cX4_ebb 36 = .ok (.getfield 177, 3) := by decide +kernel
theorem dX4_ebb_39 : decode cX4_ebb 39 = .ok (.iconst 1, 1) := by decide +kernel
theorem dX4_ebb_40 : decode cX4_ebb 40 = .ok (.iadd, 1) := by decide +kernel
theorem dX4_ebb_41 : decode cX4_ebb 41 = .ok (.putfield 177, 3) := by decide +kernel
theorem dX4_ebb_44 : decode cX4_ebb 44 = .ok (.aload_n 0, 1) := by decide +kernel
theorem dX4_ebb_45 : decode cX4_ebb 45 = .ok (.getfield 16, 3) := by decide +kernel
theorem dX4_ebb_48 : decode cX4_ebb 48 = .ok (.iload_n 1, 1) := by decide +kernel
theorem dX4_ebb_49 : decode cX4_ebb 49 = .ok (.invokevirtual 124, 3) := by decide +kernel
theorem dX4_ebb_52 : decode cX4_ebb 52 = .ok (.aload_n 0, 1) := by decide +kernel
theorem dX4_ebb_53 : decode cX4_ebb 53 = .ok (.getfield 10, 3) := by decide +kernel
theorem dX4_ebb_56 : decode cX4_ebb 56 = .ok (.iload_n 1, 1) := by decide +kernel
theorem dX4_ebb_57 : decode cX4_ebb 57 = .ok (.invokevirtual 124, 3) := by decide +kernel
theorem dX4_ebb_60 : decode cX4_ebb 60 = .ok (.isub, 1) := by decide +kernel
theorem dX4_ebb_61 : decode cX4_ebb 61 = .ok (.ireturn, 1) := by decide +kernel
set_option maxRecDepth 20000 in
theorem ggX4_missing_X0_isIn : GoodIn wsX4_missing wsX0_isIn := goodIn_r _ [11, 12, 52, 53, 54, 55, 56, 57, 58, 59, 60, 61, 62, 63] (by decide +kernel) (by decide +kernel)
set_option maxRecDepth 20000 in
theorem gX4_missing_X0_isIn : GoodIn wsX4_missing (wsV RX4 140 RX0 yX0_isIn wsX0_isIn) := goodIn_app (goodIn_of _ (by decide +kernel)) ggX4_missing_X0_isIn
set_option maxRecDepth 20000 in
theorem ggX4_missing_X0_lacks : GoodIn wsX4_missing wsX0_lacks := goodIn_r _ [16, 17, 18, 4, 5, 6, 19, 8, 9, 10, 11, 12, 20, 21, 22, 23, 24, 25, 26, 27, 28, 29, 30, 52, 53, 54, 55, 56, 57, 58, 59, 60, 61, 62, 63] (by decide +kernel) (by decide +kernel)
set_option maxRecDepth 20000 in
theorem gX4_missing_X0_lacks : GoodIn wsX4_missing (wsV RX4 121 RX0 yX0_lacks wsX0_lacks) := goodIn_app (goodIn_of _ (by decide +kernel)) ggX4_missing_X0_lacks
set_option maxRecDepth 20000 in
theorem ggX4_missing_X0_pool : GoodIn wsX4_missing wsX0_pool := goodIn_r _ [34, 35, 36, 37, 38, 39, 40, 10, 41, 42, 43, 18, 4, 5, 6, 26, 27, 28, 29, 30, 52, 53, 54, 55, 56, 57, 58, 59, 60, 61, 62, 63] (by decide +kernel) (by decide +kernel)
set_option maxRecDepth 20000 in
theorem gX4_missing_X0_pool : GoodIn wsX4_missing (wsV RX4 124 RX0 yX0_pool wsX0_pool) := goodIn_app (goodIn_of _ (by decide +kernel)) ggX4_missing_X0_pool
theorem dX4_missing_0 : decode cX4_missing 0 = .ok (.iconst 0, 1) := by decide +kernel
theorem dX4_missing_1 : decode cX4_missing 1 = .ok (.istore_n 1, 1) := by decide +kernel
theorem dX4_missing_2 : decode cX4_missing 2 = .ok (.iconst 0, 1) := by decide +kernel
theorem dX4_missing_3 : decode cX4_missing 3 = .ok (.istore_n 2, 1) := by decide +kernel
theorem dX4_missing_4 : decode cX4_missing 4 = .ok (.iload_n 2, 1) := by decide +kernel
theorem dX4_missing_5 : decode cX4_missing 5 = .ok (.aload_n 0, 1) := by decide +kernel
theorem dX4_missing_6 : decode cX4_missing 6 = .ok (.getfield 10, 3) := by decide +kernel
theorem dX4_missing_9 : decode cX4_missing 9 = .ok (.getfield 136, 3) := by decide +kernel
theorem dX4_missing_12 : decode cX4_missing 12 = .ok (.if_icmp .ge 44, 3) := by decide +kernel
theorem dX4_missing_15 : decode cX4_missing 15 = .ok (.aload_n 0, 1) := by decide +kernel
theorem dX4_missing_16 : decode cX4_missing 16 = .ok (.getfield 10, 3) := by decide +kernel
theorem dX4_missing_19 : decode cX4_missing 19 = .ok (.iload_n 2, 1) := by decide +kernel
theorem dX4_missing_20 : decode cX4_missing 20 = .ok (.invokevirtual 140, 3) := by decide +kernel
theorem dX4_missing_23 : decode cX4_missing 23 = .ok (.ifCond .eq 27, 3) := by decide +kernel
theorem dX4_missing_26 : decode cX4_missing 26 = .ok (.iload_n 1, 1) := by decide +kernel
theorem dX4_missing_27 : decode cX4_missing 27 = .ok (.iconst 0, 1) := by decide +kernel
theorem dX4_missing_28 : decode cX4_missing 28 = .ok (.aload_n 0, 1) := by decide +kernel
theorem dX4_missing_29 : decode cX4_missing 29 = .ok (.getfield 10, 3) := by decide +kernel
theorem dX4_missing_32 : decode cX4_missing 32 = .ok (.iload_n 2, 1) := by decide +kernel
theorem dX4_missing_33 : decode cX4_missing 33 = .ok (.invokevirtual 121, 3) := by decide +kernel
theorem dX4_missing_36 : decode cX4_missing 36 = .ok (.aload_n 0, 1) := by decide +kernel
theorem dX4_missing_37 : decode cX4_missing 37 = .ok (.getfield 10, 3) := by decide +kernel
theorem dX4_missing_40 : decode cX4_missing 40 = .ok (.iload_n 2, 1) := by decide +kernel
theorem dX4_missing_41 : decode cX4_missing 41 = .ok (.invokevirtual 124, 3) := by decide +kernel
theorem dX4_missing_44 : decode cX4_missing 44 = .ok (.isub, 1) := by decide +kernel
theorem dX4_missing_45 : decode cX4_missing 45 = .ok (.invokestatic 180, 3) := by decide +kernel
theorem dX4_missing_48 : decode cX4_missing 48 = .ok (.iadd, 1) := by decide +kernel
theorem dX4_missing_49 : decode cX4_missing 49 = .ok (.istore_n 1, 1) := by decide +kernel
theorem dX4_missing_50 : decode cX4_missing 50 = .ok (.iinc 2 1, 3) := by decide +kernel
theorem dX4_missing_53 : decode cX4_missing 53 = .ok (.goto (-49), 3) := by decide +kernel
theorem dX4_missing_56 : decode cX4_missing 56 = .ok (.iload_n 1, 1) := by decide +kernel
theorem dX4_missing_57 : decode cX4_missing 57 = .ok (.ireturn, 1) := by decide +kernel
set_option maxRecDepth 20000 in
theorem ggX4_two_X0_hasMan : GoodIn wsX4_two wsX0_hasMan := goodIn_r _ [6, 7, 92, 93, 94, 95, 96, 97, 98, 99, 100, 101, 102, 103] (by decide +kernel) (by decide +kernel)
set_option maxRecDepth 20000 in
theorem gX4_two_X0_hasMan : GoodIn wsX4_two (wsV RX4 73 RX0 yX0_hasMan wsX0_hasMan) := goodIn_app (goodIn_of _ (by decide +kernel)) ggX4_two_X0_hasMan
set_option maxRecDepth 20000 in
theorem ggX4_two_X4_refused : GoodIn wsX4_two wsX4_refused := goodIn_r _ [12, 13, 84, 85, 86, 87, 88, 89, 90, 91] (by decide +kernel) (by decide +kernel)
set_option maxRecDepth 20000 in
theorem gX4_two_X4_refused : GoodIn wsX4_two (wsV RX4 51 RX4 yX4_refused wsX4_refused) := goodIn_app (goodIn_of _ (by decide +kernel)) ggX4_two_X4_refused
set_option maxRecDepth 20000 in
theorem ggX4_two_X0_canTell : GoodIn wsX4_two wsX0_canTell := goodIn_r _ [17, 18, 19, 20, 3, 4, 5, 6, 7, 21, 22, 23, 24, 25, 92, 93, 94, 95, 96, 97, 98, 99, 100, 101, 102, 103] (by decide +kernel) (by decide +kernel)
set_option maxRecDepth 20000 in
theorem gX4_two_X0_canTell : GoodIn wsX4_two (wsV RX4 77 RX0 yX0_canTell wsX0_canTell) := goodIn_app (goodIn_of _ (by decide +kernel)) ggX4_two_X0_canTell
set_option maxRecDepth 20000 in
theorem ggX4_two_X4_isSettled : GoodIn wsX4_two wsX4_isSettled := goodIn_r _ [29, 30, 31, 32, 11, 33, 34, 1, 35, 36, 37, 38, 5, 39, 40, 7, 41, 42, 43, 44, 25, 45, 46, 18, 19, 14, 15, 16, 17, 20, 3, 4, 6, 21, 22, 23, 24, 47, 48, 49, 50, 51, 52, 53, 54, 55, 56, 57, 58, 59, 60, 61, 62, 63, 64, 65, 66, 67, 68, 69, 70, 71, 72, 73, 74, 75, 76, 77, 78, 79, 80, 81, 82, 83, 84, 85, 86, 87, 88, 89, 90, 91, 92, 93, 94, 95, 96, 97, 98, 99, 100, 101, 102, 103] (by decide +kernel) (by decide +kernel)
set_option maxRecDepth 20000 in
theorem gX4_two_X4_isSettled : GoodIn wsX4_two (wsV RX4 185 RX4 yX4_isSettled wsX4_isSettled) := goodIn_app (goodIn_of _ (by decide +kernel)) ggX4_two_X4_isSettled
theorem dX4_two_0 : decode cX4_two 0 = .ok (.aload_n 0, 1) := by decide +kernel
theorem dX4_two_1 : decode cX4_two 1 = .ok (.getfield 10, 3) := by decide +kernel
theorem dX4_two_4 : decode cX4_two 4 = .ok (.iload_n 1, 1) := by decide +kernel
theorem dX4_two_5 : decode cX4_two 5 = .ok (.invokevirtual 73, 3) := by decide +kernel
theorem dX4_two_8 : decode cX4_two 8 = .ok (.ifCond .eq 19, 3) := by decide +kernel
theorem dX4_two_11 : decode cX4_two 11 = .ok (.aload_n 0, 1) := by decide +kernel
theorem dX4_two_12 : decode cX4_two 12 = .ok (.getfield 10, 3) := by decide +kernel
theorem dX4_two_15 : decode cX4_two 15 = .ok (.iload_n 2, 1) := by decide +kernel
theorem dX4_two_16 : decode cX4_two 16 = .ok (.invokevirtual 73, 3) := by decide +kernel
theorem dX4_two_19 : decode cX4_two 19 = .ok (.ifCond .eq 8, 3) := by decide +kernel
theorem dX4_two_22 : decode cX4_two 22 = .ok (.iload_n 1, 1) := by decide +kernel
theorem dX4_two_23 : decode cX4_two 23 = .ok (.iload_n 2, 1) := by decide +kernel
theorem dX4_two_24 : decode cX4_two 24 = .ok (.if_icmp .ne 9, 3) := by decide +kernel
theorem dX4_two_27 : decode cX4_two 27 = .ok (.aload_n 0, 1) := by decide +kernel
theorem dX4_two_28 : decode cX4_two 28 = .ok (.iconst (-1), 1) := by decide +kernel
theorem dX4_two_29 : decode cX4_two 29 = .ok (.invokevirtual 51, 3) := by decide +kernel
theorem dX4_two_32 : decode cX4_two 32 = .ok (.ireturn, 1) := by decide +kernel
theorem dX4_two_33 : decode cX4_two 33 = .ok (.aload_n 0, 1) := by decide +kernel
theorem dX4_two_34 : decode cX4_two 34 = .ok (.getfield 10, 3) := by decide +kernel
theorem dX4_two_37 : decode cX4_two 37 = .ok (.iload_n 1, 1) := by decide +kernel
theorem dX4_two_38 : decode cX4_two 38 = .ok (.invokevirtual 77, 3) := by decide +kernel
theorem dX4_two_41 : decode cX4_two 41 = .ok (.ifCond .eq 14, 3) := by decide +kernel
theorem dX4_two_44 : decode cX4_two 44 = .ok (.aload_n 0, 1) := by decide +kernel
theorem dX4_two_45 : decode cX4_two 45 = .ok (.getfield 10, 3) := by decide +kernel
theorem dX4_two_48 : decode cX4_two 48 = .ok (.iload_n 2, 1) := by decide +kernel
theorem dX4_two_49 : decode cX4_two 49 = .ok (.invokevirtual 77, 3) := by decide +kernel
theorem dX4_two_52 : decode cX4_two 52 = .ok (.ifCond .ne 10, 3) := by decide +kernel
theorem dX4_two_55 : decode cX4_two 55 = .ok (.aload_n 0, 1) := by decide +kernel
theorem dX4_two_56 : decode cX4_two 56 = .ok (.bipush (-3), 2) := by decide +kernel
theorem dX4_two_58 : decode cX4_two 58 = .ok (.invokevirtual 51, 3) := by decide +kernel
theorem dX4_two_61 : decode cX4_two 61 = .ok (.ireturn, 1) := by decide +kernel
theorem dX4_two_62 : decode cX4_two 62 = .ok (.iconst 0, 1) := by decide +kernel
theorem dX4_two_63 : decode cX4_two 63 = .ok (.istore_n 3, 1) := by decide +kernel
theorem dX4_two_64 : decode cX4_two 64 = .ok (.iload_n 3, 1) := by decide +kernel
theorem dX4_two_65 : decode cX4_two 65 = .ok (.iconst 1, 1) := by decide +kernel
theorem dX4_two_66 : decode cX4_two 66 = .ok (.if_icmp .gt 44, 3) := by decide +kernel
theorem dX4_two_69 : decode cX4_two 69 = .ok (.iconst 0, 1) := by decide +kernel
theorem dX4_two_70 : decode cX4_two 70 = .ok (.istore 4, 2) := by decide +kernel
theorem dX4_two_72 : decode cX4_two 72 = .ok (.iload 4, 2) := by decide +kernel
theorem dX4_two_74 : decode cX4_two 74 = .ok (.iconst 1, 1) := by decide +kernel
theorem dX4_two_75 : decode cX4_two 75 = .ok (.if_icmp .gt 29, 3) := by decide +kernel
theorem dX4_two_78 : decode cX4_two 78 = .ok (.aload_n 0, 1) := by decide +kernel
theorem dX4_two_79 : decode cX4_two 79 = .ok (.iload_n 1, 1) := by decide +kernel
theorem dX4_two_80 : decode cX4_two 80 = .ok (.iload_n 2, 1) := by decide +kernel
theorem dX4_two_81 : decode cX4_two 81 = .ok (.iload_n 3, 1) := by decide +kernel
theorem dX4_two_82 : decode cX4_two 82 = .ok (.iload 4, 2) := by decide +kernel
theorem dX4_two_84 : decode cX4_two 84 = .ok (.invokevirtual 185, 3) := by decide +kernel
theorem dX4_two_87 : decode cX4_two 87 = .ok (.ifCond .eq 11, 3) := by decide +kernel
theorem dX4_two_90 : decode cX4_two 90 = .ok (.bipush 10, 2) := by decide +kernel
theorem dX4_two_92 : decode cX4_two 92 = .ok (.iload_n 3, 1) := by decide +kernel
theorem dX4_two_93 : decode cX4_two 93 = .ok (.imul, 1) := by decide +kernel
theorem dX4_two_94 : decode cX4_two 94 = .ok (.iload 4, 2) := by decide +kernel
theorem dX4_two_96 : decode cX4_two 96 = .ok (.iadd, 1) := by decide +kernel
theorem dX4_two_97 : decode cX4_two 97 = .ok (.ireturn, 1) := by decide +kernel
theorem dX4_two_98 : decode cX4_two 98 = .ok (.iinc 4 1, 3) := by decide +kernel
theorem dX4_two_101 : decode cX4_two 101 = .ok (.goto (-29), 3) := by decide +kernel
theorem dX4_two_104 : decode cX4_two 104 = .ok (.iinc 3 1, 3) := by decide +kernel
theorem dX4_two_107 : decode cX4_two 107 = .ok (.goto (-43), 3) := by decide +kernel
theorem dX4_two_110 : decode cX4_two 110 = .ok (.bipush (-9), 2) := by decide +kernel
theorem dX4_two_112 : decode cX4_two 112 = .ok (.ireturn, 1) := by decide +kernel
set_option maxRecDepth 20000 in
theorem ggX4_isSettled_X4_gainOf : GoodIn wsX4_isSettled wsX4_gainOf := goodIn_r _ [5, 6, 7, 8, 9, 10, 11, 12, 13, 14, 15, 16, 17, 18, 19, 20, 21, 22, 23, 24, 25, 26, 27, 28, 29, 30, 31, 32, 33, 34, 35, 36, 37, 38, 39, 40, 41, 42, 43, 44, 45, 46, 47, 48, 49, 50, 51, 52, 53, 54, 55, 56, 57, 58, 59, 60, 61, 62, 63, 64, 65, 66, 67, 68, 69, 70, 71, 72, 73, 74, 75, 76, 77, 78, 79, 80, 81, 82, 83, 84, 85, 86, 87, 88, 89, 90, 91, 92, 93] (by decide +kernel) (by decide +kernel)
set_option maxRecDepth 20000 in
theorem gX4_isSettled_X4_gainOf : GoodIn wsX4_isSettled (wsV RX4 189 RX4 yX4_gainOf wsX4_gainOf) := goodIn_app (goodIn_of _ (by decide +kernel)) ggX4_isSettled_X4_gainOf
theorem dX4_isSettled_0 : decode cX4_isSettled 0 = .ok (.aload_n 0, 1) := by decide +kernel
theorem dX4_isSettled_1 : decode cX4_isSettled 1 = .ok (.iload_n 1, 1) := by decide +kernel
theorem dX4_isSettled_2 : decode cX4_isSettled 2 = .ok (.iload_n 1, 1) := by decide +kernel
theorem dX4_isSettled_3 : decode cX4_isSettled 3 = .ok (.iload_n 2, 1) := by decide +kernel
theorem dX4_isSettled_4 : decode cX4_isSettled 4 = .ok (.iload_n 3, 1) := by decide +kernel
theorem dX4_isSettled_5 : decode cX4_isSettled 5 = .ok (.iload 4, 2) := by decide +kernel
theorem dX4_isSettled_7 : decode cX4_isSettled 7 = .ok (.invokevirtual 189, 3) := by decide +kernel
theorem dX4_isSettled_10 : decode cX4_isSettled 10 = .ok (.aload_n 0, 1) := by decide +kernel
theorem dX4_isSettled_11 : decode cX4_isSettled 11 = .ok (.iload_n 1, 1) := by decide +kernel
theorem dX4_isSettled_12 : decode cX4_isSettled 12 = .ok (.iload_n 1, 1) := by decide +kernel
theorem dX4_isSettled_13 : decode cX4_isSettled 13 = .ok (.iload_n 2, 1) := by decide +kernel
theorem dX4_isSettled_14 : decode cX4_isSettled 14 = .ok (.iconst 1, 1) := by decide +kernel
theorem dX4_isSettled_15 : decode cX4_isSettled 15 = .ok (.iload_n 3, 1) := by decide +kernel
theorem dX4_isSettled_16 : decode cX4_isSettled 16 = .ok (.isub, 1) := by decide +kernel
theorem dX4_isSettled_17 : decode cX4_isSettled 17 = .ok (.iload 4, 2) := by decide +kernel
theorem dX4_isSettled_19 : decode cX4_isSettled 19 = .ok (.invokevirtual 189, 3) := by decide +kernel
theorem dX4_isSettled_22 : decode cX4_isSettled 22 = .ok (.if_icmp .lt 32, 3) := by decide +kernel
theorem dX4_isSettled_25 : decode cX4_isSettled 25 = .ok (.aload_n 0, 1) := by decide +kernel
theorem dX4_isSettled_26 : decode cX4_isSettled 26 = .ok (.iload_n 2, 1) := by decide +kernel
theorem dX4_isSettled_27 : decode cX4_isSettled 27 = .ok (.iload_n 1, 1) := by decide +kernel
theorem dX4_isSettled_28 : decode cX4_isSettled 28 = .ok (.iload_n 2, 1) := by decide +kernel
theorem dX4_isSettled_29 : decode cX4_isSettled 29 = .ok (.iload_n 3, 1) := by decide +kernel
theorem dX4_isSettled_30 : decode cX4_isSettled 30 = .ok (.iload 4, 2) := by decide +kernel
theorem dX4_isSettled_32 : decode cX4_isSettled 32 = .ok (.invokevirtual 189, 3) := by decide +kernel
theorem dX4_isSettled_35 : decode cX4_isSettled 35 = .ok (.aload_n 0, 1) := by decide +kernel
theorem dX4_isSettled_36 : decode cX4_isSettled 36 = .ok (.iload_n 2, 1) := by decide +kernel
theorem dX4_isSettled_37 : decode cX4_isSettled 37 = .ok (.iload_n 1, 1) := by decide +kernel
theorem dX4_isSettled_38 : decode cX4_isSettled 38 = .ok (.iload_n 2, 1) := by decide +kernel
theorem dX4_isSettled_39 : decode cX4_isSettled 39 = .ok (.iload_n 3, 1) := by decide +kernel
theorem dX4_isSettled_40 : decode cX4_isSettled 40 = .ok (.iconst 1, 1) := by decide +kernel
theorem dX4_isSettled_41 : decode cX4_isSettled 41 = .ok (.iload 4, 2) := by decide +kernel
theorem dX4_isSettled_43 : decode cX4_isSettled 43 = .ok (.isub, 1) := by decide +kernel
theorem dX4_isSettled_44 : decode cX4_isSettled 44 = .ok (.invokevirtual 189, 3) := by decide +kernel
theorem dX4_isSettled_47 : decode cX4_isSettled 47 = .ok (.if_icmp .lt 7, 3) := by decide +kernel
theorem dX4_isSettled_50 : decode cX4_isSettled 50 = .ok (.iconst 1, 1) := by decide +kernel
theorem dX4_isSettled_51 : decode cX4_isSettled 51 = .ok (.goto 4, 3) := by decide +kernel
theorem dX4_isSettled_54 : decode cX4_isSettled 54 = .ok (.iconst 0, 1) := by decide +kernel
theorem dX4_isSettled_55 : decode cX4_isSettled 55 = .ok (.ireturn, 1) := by decide +kernel
set_option maxRecDepth 20000 in
theorem ggX4_gainOf_X0_copyFrom : GoodIn wsX4_gainOf wsX0_copyFrom := goodIn_r _ [8, 9, 10, 11, 12, 13, 14, 15, 16, 17, 18, 19, 77, 78, 79, 80, 81, 82, 83, 84, 85, 86, 87, 88] (by decide +kernel) (by decide +kernel)
set_option maxRecDepth 20000 in
theorem gX4_gainOf_X0_copyFrom : GoodIn wsX4_gainOf (wsV RX4 62 RX0 yX0_copyFrom wsX0_copyFrom) := goodIn_app (goodIn_of _ (by decide +kernel)) ggX4_gainOf_X0_copyFrom
set_option maxRecDepth 20000 in
theorem ggX4_gainOf_X0_canTell : GoodIn wsX4_gainOf wsX0_canTell := goodIn_r _ [23, 18, 19, 24, 25, 26, 7, 27, 10, 28, 29, 30, 31, 15, 77, 78, 79, 80, 81, 82, 83, 84, 85, 86, 87, 88] (by decide +kernel) (by decide +kernel)
set_option maxRecDepth 20000 in
theorem gX4_gainOf_X0_canTell : GoodIn wsX4_gainOf (wsV RX4 77 RX0 yX0_canTell wsX0_canTell) := goodIn_app (goodIn_of _ (by decide +kernel)) ggX4_gainOf_X0_canTell
set_option maxRecDepth 20000 in
theorem ggX4_gainOf_X0_word : GoodIn wsX4_gainOf wsX0_word := goodIn_r _ [35, 18, 11, 36, 37, 38, 39, 9, 19, 40, 21, 22, 7, 23, 24, 25, 26, 27, 10, 28, 29, 30, 31, 15, 41, 42, 43, 44, 17, 16, 45, 46, 47, 48, 49, 50, 51, 12, 52, 53, 54, 55, 56, 57, 58, 59, 14, 60, 61, 62, 63, 64, 65, 66, 67, 13, 77, 78, 79, 80, 81, 82, 83, 84, 85, 86, 87, 88] (by decide +kernel) (by decide +kernel)
set_option maxRecDepth 20000 in
theorem gX4_gainOf_X0_word : GoodIn wsX4_gainOf (wsV RX4 80 RX0 yX0_word wsX0_word) := goodIn_app (goodIn_of _ (by decide +kernel)) ggX4_gainOf_X0_word
set_option maxRecDepth 20000 in
theorem ggX4_gainOf_X0_isIn : GoodIn wsX4_gainOf wsX0_isIn := goodIn_r _ [31, 15, 77, 78, 79, 80, 81, 82, 83, 84, 85, 86, 87, 88] (by decide +kernel) (by decide +kernel)
set_option maxRecDepth 20000 in
theorem gX4_gainOf_X0_isIn : GoodIn wsX4_gainOf (wsV RX4 140 RX0 yX0_isIn wsX0_isIn) := goodIn_app (goodIn_of _ (by decide +kernel)) ggX4_gainOf_X0_isIn
theorem dX4_gainOf_0 : decode cX4_gainOf 0 = .ok (.aload_n 0, 1) := by decide +kernel
theorem dX4_gainOf_1 : decode cX4_gainOf 1 = .ok (.getfield 16, 3) := by decide +kernel
theorem dX4_gainOf_4 : decode cX4_gainOf 4 = .ok (.aload_n 0, 1) := by decide +kernel
theorem dX4_gainOf_5 : decode cX4_gainOf 5 = .ok (.getfield 10, 3) := by decide +kernel
theorem dX4_gainOf_8 : decode cX4_gainOf 8 = .ok (.invokevirtual 62, 3) := by decide +kernel
theorem dX4_gainOf_11 : decode cX4_gainOf 11 = .ok (.iload 4, 2) := by decide +kernel
theorem dX4_gainOf_13 : decode cX4_gainOf 13 = .ok (.iconst 1, 1) := by decide +kernel
theorem dX4_gainOf_14 : decode cX4_gainOf 14 = .ok (.if_icmp .ne 18, 3) := by decide +kernel
theorem dX4_gainOf_17 : decode cX4_gainOf 17 = .ok (.aload_n 0, 1) := by decide +kernel
theorem dX4_gainOf_18 : decode cX4_gainOf 18 = .ok (.getfield 16, 3) := by decide +kernel
theorem dX4_gainOf_21 : decode cX4_gainOf 21 = .ok (.iload_n 2, 1) := by decide +kernel
theorem dX4_gainOf_22 : decode cX4_gainOf 22 = .ok (.invokevirtual 77, 3) := by decide +kernel
theorem dX4_gainOf_25 : decode cX4_gainOf 25 = .ok (.ifCond .eq 7, 3) := by decide +kernel
theorem dX4_gainOf_28 : decode cX4_gainOf 28 = .ok (.iconst 1, 1) := by decide +kernel
theorem dX4_gainOf_29 : decode cX4_gainOf 29 = .ok (.goto 4, 3) := by decide +kernel
theorem dX4_gainOf_32 : decode cX4_gainOf 32 = .ok (.iconst 0, 1) := by decide +kernel
theorem dX4_gainOf_33 : decode cX4_gainOf 33 = .ok (.istore 6, 2) := by decide +kernel
theorem dX4_gainOf_35 : decode cX4_gainOf 35 = .ok (.iload 6, 2) := by decide +kernel
theorem dX4_gainOf_37 : decode cX4_gainOf 37 = .ok (.ifCond .eq 12, 3) := by decide +kernel
theorem dX4_gainOf_40 : decode cX4_gainOf 40 = .ok (.aload_n 0, 1) := by decide +kernel
theorem dX4_gainOf_41 : decode cX4_gainOf 41 = .ok (.getfield 16, 3) := by decide +kernel
theorem dX4_gainOf_44 : decode cX4_gainOf 44 = .ok (.iload_n 2, 1) := by decide +kernel
theorem dX4_gainOf_45 : decode cX4_gainOf 45 = .ok (.invokevirtual 80, 3) := by decide +kernel
theorem dX4_gainOf_48 : decode cX4_gainOf 48 = .ok (.pop, 1) := by decide +kernel
theorem dX4_gainOf_49 : decode cX4_gainOf 49 = .ok (.iload 5, 2) := by decide +kernel
theorem dX4_gainOf_51 : decode cX4_gainOf 51 = .ok (.iconst 1, 1) := by decide +kernel
theorem dX4_gainOf_52 : decode cX4_gainOf 52 = .ok (.if_icmp .ne 18, 3) := by decide +kernel
theorem dX4_gainOf_55 : decode cX4_gainOf 55 = .ok (.aload_n 0, 1) := by decide +kernel
theorem dX4_gainOf_56 : decode cX4_gainOf 56 = .ok (.getfield 16, 3) := by decide +kernel
theorem dX4_gainOf_59 : decode cX4_gainOf 59 = .ok (.iload_n 3, 1) := by decide +kernel
theorem dX4_gainOf_60 : decode cX4_gainOf 60 = .ok (.invokevirtual 77, 3) := by decide +kernel
theorem dX4_gainOf_63 : decode cX4_gainOf 63 = .ok (.ifCond .eq 7, 3) := by decide +kernel
theorem dX4_gainOf_66 : decode cX4_gainOf 66 = .ok (.iconst 1, 1) := by decide +kernel
theorem dX4_gainOf_67 : decode cX4_gainOf 67 = .ok (.goto 4, 3) := by decide +kernel
theorem dX4_gainOf_70 : decode cX4_gainOf 70 = .ok (.iconst 0, 1) := by decide +kernel
theorem dX4_gainOf_71 : decode cX4_gainOf 71 = .ok (.istore 7, 2) := by decide +kernel
theorem dX4_gainOf_73 : decode cX4_gainOf 73 = .ok (.iload 7, 2) := by decide +kernel
theorem dX4_gainOf_75 : decode cX4_gainOf 75 = .ok (.ifCond .eq 12, 3) := by decide +kernel
theorem dX4_gainOf_78 : decode cX4_gainOf 78 = .ok (.aload_n 0, 1) := by decide +kernel
theorem dX4_gainOf_79 : decode cX4_gainOf 79 = .ok (.getfield 16, 3) := by decide +kernel
theorem dX4_gainOf_82 : decode cX4_gainOf 82 = .ok (.iload_n 3, 1) := by decide +kernel
theorem dX4_gainOf_83 : decode cX4_gainOf 83 = .ok (.invokevirtual 80, 3) := by decide +kernel
theorem dX4_gainOf_86 : decode cX4_gainOf 86 = .ok (.pop, 1) := by decide +kernel
theorem dX4_gainOf_87 : decode cX4_gainOf 87 = .ok (.aload_n 0, 1) := by decide +kernel
theorem dX4_gainOf_88 : decode cX4_gainOf 88 = .ok (.getfield 16, 3) := by decide +kernel
theorem dX4_gainOf_91 : decode cX4_gainOf 91 = .ok (.aload_n 0, 1) := by decide +kernel
theorem dX4_gainOf_92 : decode cX4_gainOf 92 = .ok (.getfield 16, 3) := by decide +kernel
theorem dX4_gainOf_95 : decode cX4_gainOf 95 = .ok (.getfield 86, 3) := by decide +kernel
theorem dX4_gainOf_98 : decode cX4_gainOf 98 = .ok (.iload_n 1, 1) := by decide +kernel
theorem dX4_gainOf_99 : decode cX4_gainOf 99 = .ok (.iaload, 1) := by decide +kernel
theorem dX4_gainOf_100 : decode cX4_gainOf 100 = .ok (.invokevirtual 140, 3) := by decide +kernel
theorem dX4_gainOf_103 : decode cX4_gainOf 103 = .ok (.ifCond .eq 7, 3) := by decide +kernel
theorem dX4_gainOf_106 : decode cX4_gainOf 106 = .ok (.iconst 0, 1) := by decide +kernel
theorem dX4_gainOf_107 : decode cX4_gainOf 107 = .ok (.goto 4, 3) := by decide +kernel
theorem dX4_gainOf_110 : decode cX4_gainOf 110 = .ok (.iconst 3, 1) := by decide +kernel
theorem dX4_gainOf_111 : decode cX4_gainOf 111 = .ok (.istore 8, 2) := by decide +kernel
theorem dX4_gainOf_113 : decode cX4_gainOf 113 = .ok (.iload_n 1, 1) := by decide +kernel
theorem dX4_gainOf_114 : decode cX4_gainOf 114 = .ok (.iload_n 2, 1) := by decide +kernel
theorem dX4_gainOf_115 : decode cX4_gainOf 115 = .ok (.if_icmp .ne 8, 3) := by decide +kernel
theorem dX4_gainOf_118 : decode cX4_gainOf 118 = .ok (.iload 6, 2) := by decide +kernel
theorem dX4_gainOf_120 : decode cX4_gainOf 120 = .ok (.goto 5, 3) := by decide +kernel
theorem dX4_gainOf_123 : decode cX4_gainOf 123 = .ok (.iload 7, 2) := by decide +kernel
theorem dX4_gainOf_125 : decode cX4_gainOf 125 = .ok (.istore 9, 2) := by decide +kernel
theorem dX4_gainOf_127 : decode cX4_gainOf 127 = .ok (.iload 9, 2) := by decide +kernel
theorem dX4_gainOf_129 : decode cX4_gainOf 129 = .ok (.ifCond .eq 10, 3) := by decide +kernel
theorem dX4_gainOf_132 : decode cX4_gainOf 132 = .ok (.iload 8, 2) := by decide +kernel
theorem dX4_gainOf_134 : decode cX4_gainOf 134 = .ok (.iconst 1, 1) := by decide +kernel
theorem dX4_gainOf_135 : decode cX4_gainOf 135 = .ok (.isub, 1) := by decide +kernel
theorem dX4_gainOf_136 : decode cX4_gainOf 136 = .ok (.goto 5, 3) := by decide +kernel
theorem dX4_gainOf_139 : decode cX4_gainOf 139 = .ok (.iload 8, 2) := by decide +kernel
theorem dX4_gainOf_141 : decode cX4_gainOf 141 = .ok (.ireturn, 1) := by decide +kernel
set_option maxRecDepth 20000 in
theorem ggX4_storm_X0_hasShip : GoodIn wsX4_storm wsX0_hasShip := goodIn_r _ [7, 8, 99, 100, 101, 102, 103, 104, 105, 106, 107, 108, 109, 110] (by decide +kernel) (by decide +kernel)
set_option maxRecDepth 20000 in
theorem gX4_storm_X0_hasShip : GoodIn wsX4_storm (wsV RX4 83 RX0 yX0_hasShip wsX0_hasShip) := goodIn_app (goodIn_of _ (by decide +kernel)) ggX4_storm_X0_hasShip
set_option maxRecDepth 20000 in
theorem ggX4_storm_X4_refused : GoodIn wsX4_storm wsX4_refused := goodIn_r _ [13, 14, 91, 92, 93, 94, 95, 96, 97, 98] (by decide +kernel) (by decide +kernel)
set_option maxRecDepth 20000 in
theorem gX4_storm_X4_refused : GoodIn wsX4_storm (wsV RX4 51 RX4 yX4_refused wsX4_refused) := goodIn_app (goodIn_of _ (by decide +kernel)) ggX4_storm_X4_refused
set_option maxRecDepth 20000 in
theorem ggX4_storm_X4_isOutBehind : GoodIn wsX4_storm wsX4_isOutBehind := goodIn_r _ [18, 19, 1, 20, 21, 22, 6, 23, 8, 24, 25, 26, 27, 28, 29, 30, 31, 32, 33, 34, 35, 36, 37, 38, 39, 40, 41, 42, 43, 44, 45, 46, 47, 48, 49, 50, 51, 52, 53, 54, 55, 56, 57, 58, 59, 60, 61, 62, 63, 64, 65, 66, 67, 68, 69, 70, 71, 72, 73, 74, 91, 92, 93, 94, 95, 96, 97, 98, 99, 100, 101, 102, 103, 104, 105, 106, 107, 108, 109, 110] (by decide +kernel) (by decide +kernel)
set_option maxRecDepth 20000 in
theorem gX4_storm_X4_isOutBehind : GoodIn wsX4_storm (wsV RX4 195 RX4 yX4_isOutBehind wsX4_isOutBehind) := goodIn_app (goodIn_of _ (by decide +kernel)) ggX4_storm_X4_isOutBehind
set_option maxRecDepth 20000 in
theorem ggX4_storm_J6_bitCount_0f7a4 : GoodIn wsX4_storm wsJ6_bitCount_0f7a4 := goodIn_r _ [78, 79, 80, 81] (by decide +kernel) (by decide +kernel)
set_option maxRecDepth 20000 in
theorem gX4_storm_J6_bitCount_0f7a4 : GoodIn wsX4_storm (va_wsS RX4 162 yJ6_bitCount_0f7a4 wsJ6_bitCount_0f7a4) := goodIn_app (goodIn_of _ (by decide +kernel)) ggX4_storm_J6_bitCount_0f7a4
set_option maxRecDepth 20000 in
theorem ggX4_storm_X4_power : GoodIn wsX4_storm wsX4_power := goodIn_r _ [84] (by decide +kernel) (by decide +kernel)
set_option maxRecDepth 20000 in
theorem gX4_storm_X4_power : GoodIn wsX4_storm (va_wsS RX4 199 yX4_power wsX4_power) := goodIn_app (goodIn_of _ (by decide +kernel)) ggX4_storm_X4_power
set_option maxRecDepth 20000 in
theorem ggX4_storm_X4_fraction : GoodIn wsX4_storm wsX4_fraction := goodIn_r _ [87, 88, 89, 12, 90] (by decide +kernel) (by decide +kernel)
set_option maxRecDepth 20000 in
theorem gX4_storm_X4_fraction : GoodIn wsX4_storm (va_wsS RX4 203 yX4_fraction wsX4_fraction) := goodIn_app (goodIn_of _ (by decide +kernel)) ggX4_storm_X4_fraction
theorem dX4_storm_0 : decode cX4_storm 0 = .ok (.aload_n 0, 1) := by decide +kernel
theorem dX4_storm_1 : decode cX4_storm 1 = .ok (.getfield 10, 3) := by decide +kernel
theorem dX4_storm_4 : decode cX4_storm 4 = .ok (.iload_n 1, 1) := by decide +kernel
theorem dX4_storm_5 : decode cX4_storm 5 = .ok (.invokevirtual 83, 3) := by decide +kernel
theorem dX4_storm_8 : decode cX4_storm 8 = .ok (.ifCond .ne 14, 3) := by decide +kernel
theorem dX4_storm_11 : decode cX4_storm 11 = .ok (.ldc2_w 193, 3) := by decide +kernel
theorem dX4_storm_14 : decode cX4_storm 14 = .ok (.aload_n 0, 1) := by decide +kernel
theorem dX4_storm_15 : decode cX4_storm 15 = .ok (.iconst (-1), 1) := by decide +kernel
theorem dX4_storm_16 : decode cX4_storm 16 = .ok (.invokevirtual 51, 3) := by decide +kernel
theorem dX4_storm_19 : decode cX4_storm 19 = .ok (.i2l, 1) := by decide +kernel
theorem dX4_storm_20 : decode cX4_storm 20 = .ok (.lsub, 1) := by decide +kernel
theorem dX4_storm_21 : decode cX4_storm 21 = .ok (.lreturn, 1) := by decide +kernel
theorem dX4_storm_22 : decode cX4_storm 22 = .ok (.iload_n 2, 1) := by decide +kernel
theorem dX4_storm_23 : decode cX4_storm 23 = .ok (.ifCond .lt 8, 3) := by decide +kernel
theorem dX4_storm_26 : decode cX4_storm 26 = .ok (.iload_n 3, 1) := by decide +kernel
theorem dX4_storm_27 : decode cX4_storm 27 = .ok (.iconst 2, 1) := by decide +kernel
theorem dX4_storm_28 : decode cX4_storm 28 = .ok (.if_icmp .ge 15, 3) := by decide +kernel
theorem dX4_storm_31 : decode cX4_storm 31 = .ok (.ldc2_w 193, 3) := by decide +kernel
theorem dX4_storm_34 : decode cX4_storm 34 = .ok (.aload_n 0, 1) := by decide +kernel
theorem dX4_storm_35 : decode cX4_storm 35 = .ok (.bipush (-4), 2) := by decide +kernel
theorem dX4_storm_37 : decode cX4_storm 37 = .ok (.invokevirtual 51, 3) := by decide +kernel
theorem dX4_storm_40 : decode cX4_storm 40 = .ok (.i2l, 1) := by decide +kernel
theorem dX4_storm_41 : decode cX4_storm 41 = .ok (.lsub, 1) := by decide +kernel
theorem dX4_storm_42 : decode cX4_storm 42 = .ok (.lreturn, 1) := by decide +kernel
theorem dX4_storm_43 : decode cX4_storm 43 = .ok (.iload_n 2, 1) := by decide +kernel
theorem dX4_storm_44 : decode cX4_storm 44 = .ok (.bipush 7, 2) := by decide +kernel
theorem dX4_storm_46 : decode cX4_storm 46 = .ok (.if_icmp .gt 9, 3) := by decide +kernel
theorem dX4_storm_49 : decode cX4_storm 49 = .ok (.iload_n 3, 1) := by decide +kernel
theorem dX4_storm_50 : decode cX4_storm 50 = .ok (.bipush 20, 2) := by decide +kernel
theorem dX4_storm_52 : decode cX4_storm 52 = .ok (.if_icmp .le 15, 3) := by decide +kernel
theorem dX4_storm_55 : decode cX4_storm 55 = .ok (.ldc2_w 193, 3) := by decide +kernel
theorem dX4_storm_58 : decode cX4_storm 58 = .ok (.aload_n 0, 1) := by decide +kernel
theorem dX4_storm_59 : decode cX4_storm 59 = .ok (.bipush (-6), 2) := by decide +kernel
theorem dX4_storm_61 : decode cX4_storm 61 = .ok (.invokevirtual 51, 3) := by decide +kernel
theorem dX4_storm_64 : decode cX4_storm 64 = .ok (.i2l, 1) := by decide +kernel
theorem dX4_storm_65 : decode cX4_storm 65 = .ok (.lsub, 1) := by decide +kernel
theorem dX4_storm_66 : decode cX4_storm 66 = .ok (.lreturn, 1) := by decide +kernel
theorem dX4_storm_67 : decode cX4_storm 67 = .ok (.iload 4, 2) := by decide +kernel
theorem dX4_storm_69 : decode cX4_storm 69 = .ok (.ifCond .eq 21, 3) := by decide +kernel
theorem dX4_storm_72 : decode cX4_storm 72 = .ok (.iload 4, 2) := by decide +kernel
theorem dX4_storm_74 : decode cX4_storm 74 = .ok (.iconst 1, 1) := by decide +kernel
theorem dX4_storm_75 : decode cX4_storm 75 = .ok (.if_icmp .eq 15, 3) := by decide +kernel
theorem dX4_storm_78 : decode cX4_storm 78 = .ok (.ldc2_w 193, 3) := by decide +kernel
theorem dX4_storm_81 : decode cX4_storm 81 = .ok (.aload_n 0, 1) := by decide +kernel
theorem dX4_storm_82 : decode cX4_storm 82 = .ok (.bipush (-2), 2) := by decide +kernel
theorem dX4_storm_84 : decode cX4_storm 84 = .ok (.invokevirtual 51, 3) := by decide +kernel
theorem dX4_storm_87 : decode cX4_storm 87 = .ok (.i2l, 1) := by decide +kernel
theorem dX4_storm_88 : decode cX4_storm 88 = .ok (.lsub, 1) := by decide +kernel
theorem dX4_storm_89 : decode cX4_storm 89 = .ok (.lreturn, 1) := by decide +kernel
theorem dX4_storm_90 : decode cX4_storm 90 = .ok (.lconst 0, 1) := by decide +kernel
theorem dX4_storm_91 : decode cX4_storm 91 = .ok (.lstore 5, 2) := by decide +kernel
theorem dX4_storm_93 : decode cX4_storm 93 = .ok (.iconst 0, 1) := by decide +kernel
theorem dX4_storm_94 : decode cX4_storm 94 = .ok (.istore 7, 2) := by decide +kernel
theorem dX4_storm_96 : decode cX4_storm 96 = .ok (.iload 7, 2) := by decide +kernel
theorem dX4_storm_98 : decode cX4_storm 98 = .ok (.iconst 1, 1) := by decide +kernel
theorem dX4_storm_99 : decode cX4_storm 99 = .ok (.iload_n 2, 1) := by decide +kernel
theorem dX4_storm_100 : decode cX4_storm 100 = .ok (.ishl, 1) := by decide +kernel
theorem dX4_storm_101 : decode cX4_storm 101 = .ok (.if_icmp .ge 39, 3) := by decide +kernel
theorem dX4_storm_104 : decode cX4_storm 104 = .ok (.aload_n 0, 1) := by decide +kernel
theorem dX4_storm_105 : decode cX4_storm 105 = .ok (.iload_n 1, 1) := by decide +kernel
theorem dX4_storm_106 : decode cX4_storm 106 = .ok (.iload_n 2, 1) := by decide +kernel
theorem dX4_storm_107 : decode cX4_storm 107 = .ok (.iload 7, 2) := by decide +kernel
theorem dX4_storm_109 : decode cX4_storm 109 = .ok (.invokevirtual 195, 3) := by decide +kernel
theorem dX4_storm_112 : decode cX4_storm 112 = .ok (.ifCond .eq 22, 3) := by decide +kernel
theorem dX4_storm_115 : decode cX4_storm 115 = .ok (.lload 5, 2) := by decide +kernel
theorem dX4_storm_117 : decode cX4_storm 117 = .ok (.iload_n 3, 1) := by decide +kernel
theorem dX4_storm_118 : decode cX4_storm 118 = .ok (.iconst 1, 1) := by decide +kernel
theorem dX4_storm_119 : decode cX4_storm 119 = .ok (.isub, 1) := by decide +kernel
theorem dX4_storm_120 : decode cX4_storm 120 = .ok (.i2l, 1) := by decide +kernel
theorem dX4_storm_121 : decode cX4_storm 121 = .ok (.iload_n 2, 1) := by decide +kernel
theorem dX4_storm_122 : decode cX4_storm 122 = .ok (.iload 7, 2) := by decide +kernel
theorem dX4_storm_124 : decode cX4_storm 124 = .ok (.invokestatic 162, 3) := by decide +kernel
theorem dX4_storm_127 : decode cX4_storm 127 = .ok (.isub, 1) := by decide +kernel
theorem dX4_storm_128 : decode cX4_storm 128 = .ok (.invokestatic 199, 3) := by decide +kernel
theorem dX4_storm_131 : decode cX4_storm 131 = .ok (.ladd, 1) := by decide +kernel
theorem dX4_storm_132 : decode cX4_storm 132 = .ok (.lstore 5, 2) := by decide +kernel
theorem dX4_storm_134 : decode cX4_storm 134 = .ok (.iinc 7 1, 3) := by decide +kernel
theorem dX4_storm_137 : decode cX4_storm 137 = .ok (.goto (-41), 3) := by decide +kernel
theorem dX4_storm_140 : decode cX4_storm 140 = .ok (.lload 5, 2) := by decide +kernel
theorem dX4_storm_142 : decode cX4_storm 142 = .ok (.iload_n 3, 1) := by decide +kernel
theorem dX4_storm_143 : decode cX4_storm 143 = .ok (.i2l, 1) := by decide +kernel
theorem dX4_storm_144 : decode cX4_storm 144 = .ok (.iload_n 2, 1) := by decide +kernel
theorem dX4_storm_145 : decode cX4_storm 145 = .ok (.invokestatic 199, 3) := by decide +kernel
theorem dX4_storm_148 : decode cX4_storm 148 = .ok (.iload 4, 2) := by decide +kernel
theorem dX4_storm_150 : decode cX4_storm 150 = .ok (.invokestatic 203, 3) := by decide +kernel
theorem dX4_storm_153 : decode cX4_storm 153 = .ok (.lreturn, 1) := by decide +kernel
set_option maxRecDepth 20000 in
theorem ggX4_isOutBehind_X0_copyFrom : GoodIn wsX4_isOutBehind wsX0_copyFrom := goodIn_r _ [7, 8, 9, 10, 11, 12, 13, 14, 15, 16, 17, 18, 68, 69, 70, 71, 72, 73, 74, 75, 76, 77, 78, 79] (by decide +kernel) (by decide +kernel)
set_option maxRecDepth 20000 in
theorem gX4_isOutBehind_X0_copyFrom : GoodIn wsX4_isOutBehind (wsV RX4 62 RX0 yX0_copyFrom wsX0_copyFrom) := goodIn_app (goodIn_of _ (by decide +kernel)) ggX4_isOutBehind_X0_copyFrom
set_option maxRecDepth 20000 in
theorem ggX4_isOutBehind_X0_storms : GoodIn wsX4_isOutBehind wsX0_storms := goodIn_r _ [22, 8, 23, 24, 25, 6, 26, 13, 27, 28, 29, 30, 31, 32, 33, 34, 14, 35, 36, 37, 38, 39, 40, 41, 42, 12, 10, 43, 44, 45, 46, 11, 68, 69, 70, 71, 72, 73, 74, 75, 76, 77, 78, 79] (by decide +kernel) (by decide +kernel)
set_option maxRecDepth 20000 in
theorem gX4_isOutBehind_X0_storms : GoodIn wsX4_isOutBehind (wsV RX4 207 RX0 yX0_storms wsX0_storms) := goodIn_app (goodIn_of _ (by decide +kernel)) ggX4_isOutBehind_X0_storms
set_option maxRecDepth 20000 in
theorem ggX4_isOutBehind_X0_passTides : GoodIn wsX4_isOutBehind wsX0_passTides := goodIn_r _ [50, 51, 52, 53, 6, 54, 11, 9, 18, 17, 27, 28, 29, 30, 8, 14, 31, 32, 33, 34, 55, 56, 57, 58, 15, 68, 69, 70, 71, 72, 73, 74, 75, 76, 77, 78, 79] (by decide +kernel) (by decide +kernel)
set_option maxRecDepth 20000 in
theorem gX4_isOutBehind_X0_passTides : GoodIn wsX4_isOutBehind (wsV RX4 104 RX0 yX0_passTides wsX0_passTides) := goodIn_app (goodIn_of _ (by decide +kernel)) ggX4_isOutBehind_X0_passTides
set_option maxRecDepth 20000 in
theorem ggX4_isOutBehind_X0_isIn : GoodIn wsX4_isOutBehind wsX0_isIn := goodIn_r _ [34, 14, 68, 69, 70, 71, 72, 73, 74, 75, 76, 77, 78, 79] (by decide +kernel) (by decide +kernel)
set_option maxRecDepth 20000 in
theorem gX4_isOutBehind_X0_isIn : GoodIn wsX4_isOutBehind (wsV RX4 140 RX0 yX0_isIn wsX0_isIn) := goodIn_app (goodIn_of _ (by decide +kernel)) ggX4_isOutBehind_X0_isIn
theorem dX4_isOutBehind_0 : decode cX4_isOutBehind 0 = .ok (.aload_n 0, 1) := by decide +kernel
theorem dX4_isOutBehind_1 : decode cX4_isOutBehind 1 = .ok (.getfield 16, 3) := by decide +kernel
theorem dX4_isOutBehind_4 : decode cX4_isOutBehind 4 = .ok (.aload_n 0, 1) := by decide +kernel
theorem dX4_isOutBehind_5 : decode cX4_isOutBehind 5 = .ok (.getfield 10, 3) := by decide +kernel
theorem dX4_isOutBehind_8 : decode cX4_isOutBehind 8 = .ok (.invokevirtual 62, 3) := by decide +kernel
theorem dX4_isOutBehind_11 : decode cX4_isOutBehind 11 = .ok (.iconst 0, 1) := by decide +kernel
theorem dX4_isOutBehind_12 : decode cX4_isOutBehind 12 = .ok (.istore 4, 2) := by decide +kernel
theorem dX4_isOutBehind_14 : decode cX4_isOutBehind 14 = .ok (.iload 4, 2) := by decide +kernel
theorem dX4_isOutBehind_16 : decode cX4_isOutBehind 16 = .ok (.iload_n 2, 1) := by decide +kernel
theorem dX4_isOutBehind_17 : decode cX4_isOutBehind 17 = .ok (.if_icmp .ge 33, 3) := by decide +kernel
theorem dX4_isOutBehind_20 : decode cX4_isOutBehind 20 = .ok (.iload_n 3, 1) := by decide +kernel
theorem dX4_isOutBehind_21 : decode cX4_isOutBehind 21 = .ok (.iload 4, 2) := by decide +kernel
theorem dX4_isOutBehind_23 : decode cX4_isOutBehind 23 = .ok (.ishr, 1) := by decide +kernel
theorem dX4_isOutBehind_24 : decode cX4_isOutBehind 24 = .ok (.iconst 1, 1) := by decide +kernel
theorem dX4_isOutBehind_25 : decode cX4_isOutBehind 25 = .ok (.iand, 1) := by decide +kernel
theorem dX4_isOutBehind_26 : decode cX4_isOutBehind 26 = .ok (.ifCond .eq 10, 3) := by decide +kernel
theorem dX4_isOutBehind_29 : decode cX4_isOutBehind 29 = .ok (.aload_n 0, 1) := by decide +kernel
theorem dX4_isOutBehind_30 : decode cX4_isOutBehind 30 = .ok (.getfield 16, 3) := by decide +kernel
theorem dX4_isOutBehind_33 : decode cX4_isOutBehind 33 = .ok (.invokevirtual 207, 3) := by decide +kernel
theorem dX4_isOutBehind_36 : decode cX4_isOutBehind 36 = .ok (.aload_n 0, 1) := by decide +kernel
theorem dX4_isOutBehind_37 : decode cX4_isOutBehind 37 = .ok (.getfield 16, 3) := by decide +kernel
theorem dX4_isOutBehind_40 : decode cX4_isOutBehind 40 = .ok (.iconst 1, 1) := by decide +kernel
theorem dX4_isOutBehind_41 : decode cX4_isOutBehind 41 = .ok (.invokevirtual 104, 3) := by decide +kernel
theorem dX4_isOutBehind_44 : decode cX4_isOutBehind 44 = .ok (.iinc 4 1, 3) := by decide +kernel
theorem dX4_isOutBehind_47 : decode cX4_isOutBehind 47 = .ok (.goto (-33), 3) := by decide +kernel
theorem dX4_isOutBehind_50 : decode cX4_isOutBehind 50 = .ok (.aload_n 0, 1) := by decide +kernel
theorem dX4_isOutBehind_51 : decode cX4_isOutBehind 51 = .ok (.getfield 16, 3) := by decide +kernel
theorem dX4_isOutBehind_54 : decode cX4_isOutBehind 54 = .ok (.iload_n 1, 1) := by decide +kernel
theorem dX4_isOutBehind_55 : decode cX4_isOutBehind 55 = .ok (.invokevirtual 140, 3) := by decide +kernel
theorem dX4_isOutBehind_58 : decode cX4_isOutBehind 58 = .ok (.ifCond .ne 7, 3) := by decide +kernel
theorem dX4_isOutBehind_61 : decode cX4_isOutBehind 61 = .ok (.iconst 1, 1) := by decide +kernel
theorem dX4_isOutBehind_62 : decode cX4_isOutBehind 62 = .ok (.goto 4, 3) := by decide +kernel
theorem dX4_isOutBehind_65 : decode cX4_isOutBehind 65 = .ok (.iconst 0, 1) := by decide +kernel
theorem dX4_isOutBehind_66 : decode cX4_isOutBehind 66 = .ok (.ireturn, 1) := by decide +kernel
theorem dX4_power_0 : decode cX4_power 0 = .ok (.lconst 1, 1) := by decide +kernel
theorem dX4_power_1 : decode cX4_power 1 = .ok (.lstore_n 3, 1) := by decide +kernel
theorem dX4_power_2 : decode cX4_power 2 = .ok (.iconst 0, 1) := by decide +kernel
theorem dX4_power_3 : decode cX4_power 3 = .ok (.istore 5, 2) := by decide +kernel
theorem dX4_power_5 : decode cX4_power 5 = .ok (.iload 5, 2) := by decide +kernel
theorem dX4_power_7 : decode cX4_power 7 = .ok (.iload_n 2, 1) := by decide +kernel
theorem dX4_power_8 : decode cX4_power 8 = .ok (.if_icmp .ge 13, 3) := by decide +kernel
theorem dX4_power_11 : decode cX4_power 11 = .ok (.lload_n 3, 1) := by decide +kernel
theorem dX4_power_12 : decode cX4_power 12 = .ok (.lload_n 0, 1) := by decide +kernel
theorem dX4_power_13 : decode cX4_power 13 = .ok (.lmul, 1) := by decide +kernel
theorem dX4_power_14 : decode cX4_power 14 = .ok (.lstore_n 3, 1) := by decide +kernel
theorem dX4_power_15 : decode cX4_power 15 = .ok (.iinc 5 1, 3) := by decide +kernel
theorem dX4_power_18 : decode cX4_power 18 = .ok (.goto (-13), 3) := by decide +kernel
theorem dX4_power_21 : decode cX4_power 21 = .ok (.lload_n 3, 1) := by decide +kernel
theorem dX4_power_22 : decode cX4_power 22 = .ok (.lreturn, 1) := by decide +kernel
set_option maxRecDepth 20000 in
theorem ggX4_mean_X4_refused : GoodIn wsX4_mean wsX4_refused := goodIn_r _ [12, 13, 27, 28, 29, 30, 31, 32, 33, 34] (by decide +kernel) (by decide +kernel)
set_option maxRecDepth 20000 in
theorem gX4_mean_X4_refused : GoodIn wsX4_mean (wsV RX4 51 RX4 yX4_refused wsX4_refused) := goodIn_app (goodIn_of _ (by decide +kernel)) ggX4_mean_X4_refused
set_option maxRecDepth 20000 in
theorem ggX4_mean_X0_allSins : GoodIn wsX4_mean wsX0_allSins := goodIn_r _ [18, 19, 20, 35, 36, 37, 38, 39, 40, 41, 42, 43, 44, 45, 46] (by decide +kernel) (by decide +kernel)
set_option maxRecDepth 20000 in
theorem gX4_mean_X0_allSins : GoodIn wsX4_mean (wsV RX4 210 RX0 yX0_allSins wsX0_allSins) := goodIn_app (goodIn_of _ (by decide +kernel)) ggX4_mean_X0_allSins
set_option maxRecDepth 20000 in
theorem ggX4_mean_X4_fraction : GoodIn wsX4_mean wsX4_fraction := goodIn_r _ [23, 24, 25, 11, 26] (by decide +kernel) (by decide +kernel)
set_option maxRecDepth 20000 in
theorem gX4_mean_X4_fraction : GoodIn wsX4_mean (va_wsS RX4 203 yX4_fraction wsX4_fraction) := goodIn_app (goodIn_of _ (by decide +kernel)) ggX4_mean_X4_fraction
theorem dX4_mean_0 : decode cX4_mean 0 = .ok (.iload_n 1, 1) := by decide +kernel
theorem dX4_mean_1 : decode cX4_mean 1 = .ok (.ifCond .eq 20, 3) := by decide +kernel
theorem dX4_mean_4 : decode cX4_mean 4 = .ok (.iload_n 1, 1) := by decide +kernel
theorem dX4_mean_5 : decode cX4_mean 5 = .ok (.iconst 1, 1) := by decide +kernel
theorem dX4_mean_6 : decode cX4_mean 6 = .ok (.if_icmp .eq 15, 3) := by decide +kernel
theorem dX4_mean_9 : decode cX4_mean 9 = .ok (.ldc2_w 193, 3) := by decide +kernel
theorem dX4_mean_12 : decode cX4_mean 12 = .ok (.aload_n 0, 1) := by decide +kernel
theorem dX4_mean_13 : decode cX4_mean 13 = .ok (.bipush (-2), 2) := by decide +kernel
theorem dX4_mean_15 : decode cX4_mean 15 = .ok (.invokevirtual 51, 3) := by decide +kernel
theorem dX4_mean_18 : decode cX4_mean 18 = .ok (.i2l, 1) := by decide +kernel
theorem dX4_mean_19 : decode cX4_mean 19 = .ok (.lsub, 1) := by decide +kernel
theorem dX4_mean_20 : decode cX4_mean 20 = .ok (.lreturn, 1) := by decide +kernel
theorem dX4_mean_21 : decode cX4_mean 21 = .ok (.aload_n 0, 1) := by decide +kernel
theorem dX4_mean_22 : decode cX4_mean 22 = .ok (.getfield 10, 3) := by decide +kernel
theorem dX4_mean_25 : decode cX4_mean 25 = .ok (.invokevirtual 210, 3) := by decide +kernel
theorem dX4_mean_28 : decode cX4_mean 28 = .ok (.i2l, 1) := by decide +kernel
theorem dX4_mean_29 : decode cX4_mean 29 = .ok (.iconst 1, 1) := by decide +kernel
theorem dX4_mean_30 : decode cX4_mean 30 = .ok (.aload_n 0, 1) := by decide +kernel
theorem dX4_mean_31 : decode cX4_mean 31 = .ok (.getfield 10, 3) := by decide +kernel
theorem dX4_mean_34 : decode cX4_mean 34 = .ok (.getfield 155, 3) := by decide +kernel
theorem dX4_mean_37 : decode cX4_mean 37 = .ok (.invokestatic 180, 3) := by decide +kernel
theorem dX4_mean_40 : decode cX4_mean 40 = .ok (.i2l, 1) := by decide +kernel
theorem dX4_mean_41 : decode cX4_mean 41 = .ok (.iload_n 1, 1) := by decide +kernel
theorem dX4_mean_42 : decode cX4_mean 42 = .ok (.invokestatic 203, 3) := by decide +kernel
theorem dX4_mean_45 : decode cX4_mean 45 = .ok (.lreturn, 1) := by decide +kernel
set_option maxRecDepth 20000 in
theorem ggX4_fraction_X4_commonDivisor : GoodIn wsX4_fraction wsX4_commonDivisor := goodIn_r _ [4] (by decide +kernel) (by decide +kernel)
set_option maxRecDepth 20000 in
theorem gX4_fraction_X4_commonDivisor : GoodIn wsX4_fraction (va_wsS RX4 213 yX4_commonDivisor wsX4_commonDivisor) := goodIn_app (goodIn_of _ (by decide +kernel)) ggX4_fraction_X4_commonDivisor
theorem dX4_fraction_0 : decode cX4_fraction 0 = .ok (.lload_n 2, 1) := by decide +kernel
theorem dX4_fraction_1 : decode cX4_fraction 1 = .ok (.lload_n 0, 1) := by decide +kernel
theorem dX4_fraction_2 : decode cX4_fraction 2 = .ok (.invokestatic 213, 3) := by decide +kernel
theorem dX4_fraction_5 : decode cX4_fraction 5 = .ok (.lstore 5, 2) := by decide +kernel
theorem dX4_fraction_7 : decode cX4_fraction 7 = .ok (.lload 5, 2) := by decide +kernel
theorem dX4_fraction_9 : decode cX4_fraction 9 = .ok (.lconst 0, 1) := by decide +kernel
theorem dX4_fraction_10 : decode cX4_fraction 10 = .ok (.lcmp, 1) := by decide +kernel
theorem dX4_fraction_11 : decode cX4_fraction 11 = .ok (.ifCond .ne 7, 3) := by decide +kernel
theorem dX4_fraction_14 : decode cX4_fraction 14 = .ok (.iload 4, 2) := by decide +kernel
theorem dX4_fraction_16 : decode cX4_fraction 16 = .ok (.i2l, 1) := by decide +kernel
theorem dX4_fraction_17 : decode cX4_fraction 17 = .ok (.lreturn, 1) := by decide +kernel
theorem dX4_fraction_18 : decode cX4_fraction 18 = .ok (.iload 4, 2) := by decide +kernel
theorem dX4_fraction_20 : decode cX4_fraction 20 = .ok (.ifCond .ne 7, 3) := by decide +kernel
theorem dX4_fraction_23 : decode cX4_fraction 23 = .ok (.lload_n 0, 1) := by decide +kernel
theorem dX4_fraction_24 : decode cX4_fraction 24 = .ok (.goto 4, 3) := by decide +kernel
theorem dX4_fraction_27 : decode cX4_fraction 27 = .ok (.lload_n 2, 1) := by decide +kernel
theorem dX4_fraction_28 : decode cX4_fraction 28 = .ok (.lload 5, 2) := by decide +kernel
theorem dX4_fraction_30 : decode cX4_fraction 30 = .ok (.ldiv, 1) := by decide +kernel
theorem dX4_fraction_31 : decode cX4_fraction 31 = .ok (.lreturn, 1) := by decide +kernel
theorem dX4_commonDivisor_0 : decode cX4_commonDivisor 0 = .ok (.iconst 0, 1) := by decide +kernel
theorem dX4_commonDivisor_1 : decode cX4_commonDivisor 1 = .ok (.istore 4, 2) := by decide +kernel
theorem dX4_commonDivisor_3 : decode cX4_commonDivisor 3 = .ok (.iload 4, 2) := by decide +kernel
theorem dX4_commonDivisor_5 : decode cX4_commonDivisor 5 = .ok (.sipush 200, 3) := by decide +kernel
theorem dX4_commonDivisor_8 : decode cX4_commonDivisor 8 = .ok (.if_icmp .ge 25, 3) := by decide +kernel
theorem dX4_commonDivisor_11 : decode cX4_commonDivisor 11 = .ok (.lload_n 2, 1) := by decide +kernel
theorem dX4_commonDivisor_12 : decode cX4_commonDivisor 12 = .ok (.lconst 0, 1) := by decide +kernel
theorem dX4_commonDivisor_13 : decode cX4_commonDivisor 13 = .ok (.lcmp, 1) := by decide +kernel
theorem dX4_commonDivisor_14 : decode cX4_commonDivisor 14 = .ok (.ifCond .eq 19, 3) := by decide +kernel
theorem dX4_commonDivisor_17 : decode cX4_commonDivisor 17 = .ok (.lload_n 0, 1) := by decide +kernel
theorem dX4_commonDivisor_18 : decode cX4_commonDivisor 18 = .ok (.lload_n 2, 1) := by decide +kernel
theorem dX4_commonDivisor_19 : decode cX4_commonDivisor 19 = .ok (.lrem, 1) := by decide +kernel
theorem dX4_commonDivisor_20 : decode cX4_commonDivisor 20 = .ok (.lstore 5, 2) := by decide +kernel
theorem dX4_commonDivisor_22 : decode cX4_commonDivisor 22 = .ok (.lload_n 2, 1) := by decide +kernel
theorem dX4_commonDivisor_23 : decode cX4_commonDivisor 23 = .ok (.lstore_n 0, 1) := by decide +kernel
theorem dX4_commonDivisor_24 : decode cX4_commonDivisor 24 = .ok (.lload 5, 2) := by decide +kernel
theorem dX4_commonDivisor_26 : decode cX4_commonDivisor 26 = .ok (.lstore_n 2, 1) := by decide +kernel
theorem dX4_commonDivisor_27 : decode cX4_commonDivisor 27 = .ok (.iinc 4 1, 3) := by decide +kernel
theorem dX4_commonDivisor_30 : decode cX4_commonDivisor 30 = .ok (.goto (-27), 3) := by decide +kernel
theorem dX4_commonDivisor_33 : decode cX4_commonDivisor 33 = .ok (.lload_n 0, 1) := by decide +kernel
theorem dX4_commonDivisor_34 : decode cX4_commonDivisor 34 = .ok (.lreturn, 1) := by decide +kernel
set_option maxRecDepth 20000 in
theorem ggX4_whoTold_X0_copyFrom : GoodIn wsX4_whoTold wsX0_copyFrom := goodIn_r _ [8, 9, 10, 11, 12, 13, 14, 15, 16, 17, 18, 19, 98, 99, 100, 101, 102, 103, 104, 105, 106, 107, 108, 109] (by decide +kernel) (by decide +kernel)
set_option maxRecDepth 20000 in
theorem gX4_whoTold_X0_copyFrom : GoodIn wsX4_whoTold (wsV RX4 62 RX0 yX0_copyFrom wsX0_copyFrom) := goodIn_app (goodIn_of _ (by decide +kernel)) ggX4_whoTold_X0_copyFrom
set_option maxRecDepth 20000 in
theorem ggX4_whoTold_X4_rowTellsWordOf : GoodIn wsX4_whoTold wsX4_rowTellsWordOf := goodIn_r _ [24, 3, 25, 26, 27, 28, 7, 29, 18, 19, 30, 31, 32, 33, 10, 34, 35, 36, 37, 15, 38, 39, 40, 41, 11, 42, 43, 44, 45, 9, 46, 47, 48, 49, 50, 17, 16, 51, 52, 53, 54, 55, 56, 57, 12, 58, 59, 60, 61, 62, 63, 64, 65, 14, 66, 67, 68, 69, 70, 71, 72, 73, 13, 74, 75, 76, 77, 78, 79, 80, 81, 82, 83, 84, 85, 86, 87, 88, 89, 90, 91, 92, 93, 94, 95, 96, 97, 98, 99, 100, 101, 102, 103, 104, 105, 106, 107, 108, 109, 110, 111] (by decide +kernel) (by decide +kernel)
set_option maxRecDepth 20000 in
theorem gX4_whoTold_X4_rowTellsWordOf : GoodIn wsX4_whoTold (wsV RX4 217 RX4 yX4_rowTellsWordOf wsX4_rowTellsWordOf) := goodIn_app (goodIn_of _ (by decide +kernel)) ggX4_whoTold_X4_rowTellsWordOf
theorem dX4_whoTold_0 : decode cX4_whoTold 0 = .ok (.iconst 0, 1) := by decide +kernel
theorem dX4_whoTold_1 : decode cX4_whoTold 1 = .ok (.istore_n 1, 1) := by decide +kernel
theorem dX4_whoTold_2 : decode cX4_whoTold 2 = .ok (.iconst 0, 1) := by decide +kernel
theorem dX4_whoTold_3 : decode cX4_whoTold 3 = .ok (.istore_n 2, 1) := by decide +kernel
theorem dX4_whoTold_4 : decode cX4_whoTold 4 = .ok (.iload_n 2, 1) := by decide +kernel
theorem dX4_whoTold_5 : decode cX4_whoTold 5 = .ok (.aload_n 0, 1) := by decide +kernel
theorem dX4_whoTold_6 : decode cX4_whoTold 6 = .ok (.getfield 10, 3) := by decide +kernel
theorem dX4_whoTold_9 : decode cX4_whoTold 9 = .ok (.getfield 155, 3) := by decide +kernel
theorem dX4_whoTold_12 : decode cX4_whoTold 12 = .ok (.if_icmp .ge 34, 3) := by decide +kernel
theorem dX4_whoTold_15 : decode cX4_whoTold 15 = .ok (.aload_n 0, 1) := by decide +kernel
theorem dX4_whoTold_16 : decode cX4_whoTold 16 = .ok (.getfield 16, 3) := by decide +kernel
theorem dX4_whoTold_19 : decode cX4_whoTold 19 = .ok (.aload_n 0, 1) := by decide +kernel
theorem dX4_whoTold_20 : decode cX4_whoTold 20 = .ok (.getfield 10, 3) := by decide +kernel
theorem dX4_whoTold_23 : decode cX4_whoTold 23 = .ok (.invokevirtual 62, 3) := by decide +kernel
theorem dX4_whoTold_26 : decode cX4_whoTold 26 = .ok (.aload_n 0, 1) := by decide +kernel
theorem dX4_whoTold_27 : decode cX4_whoTold 27 = .ok (.iload_n 2, 1) := by decide +kernel
theorem dX4_whoTold_28 : decode cX4_whoTold 28 = .ok (.invokevirtual 217, 3) := by decide +kernel
theorem dX4_whoTold_31 : decode cX4_whoTold 31 = .ok (.ifCond .eq 9, 3) := by decide +kernel
theorem dX4_whoTold_34 : decode cX4_whoTold 34 = .ok (.iload_n 1, 1) := by decide +kernel
theorem dX4_whoTold_35 : decode cX4_whoTold 35 = .ok (.iconst 1, 1) := by decide +kernel
theorem dX4_whoTold_36 : decode cX4_whoTold 36 = .ok (.iload_n 2, 1) := by decide +kernel
theorem dX4_whoTold_37 : decode cX4_whoTold 37 = .ok (.ishl, 1) := by decide +kernel
theorem dX4_whoTold_38 : decode cX4_whoTold 38 = .ok (.ior, 1) := by decide +kernel
theorem dX4_whoTold_39 : decode cX4_whoTold 39 = .ok (.istore_n 1, 1) := by decide +kernel
theorem dX4_whoTold_40 : decode cX4_whoTold 40 = .ok (.iinc 2 1, 3) := by decide +kernel
theorem dX4_whoTold_43 : decode cX4_whoTold 43 = .ok (.goto (-39), 3) := by decide +kernel
theorem dX4_whoTold_46 : decode cX4_whoTold 46 = .ok (.iload_n 1, 1) := by decide +kernel
theorem dX4_whoTold_47 : decode cX4_whoTold 47 = .ok (.ireturn, 1) := by decide +kernel
set_option maxRecDepth 20000 in
theorem ggX4_whatIs_X0_hasMan : GoodIn wsX4_whatIs wsX0_hasMan := goodIn_r _ [9, 10, 105, 106, 107, 108, 109, 110, 111, 112, 113, 114, 115, 116] (by decide +kernel) (by decide +kernel)
set_option maxRecDepth 20000 in
theorem gX4_whatIs_X0_hasMan : GoodIn wsX4_whatIs (wsV RX4 73 RX0 yX0_hasMan wsX0_hasMan) := goodIn_app (goodIn_of _ (by decide +kernel)) ggX4_whatIs_X0_hasMan
set_option maxRecDepth 20000 in
theorem ggX4_whatIs_X4_refused : GoodIn wsX4_whatIs wsX4_refused := goodIn_r _ [15, 16, 97, 98, 99, 100, 101, 102, 103, 104] (by decide +kernel) (by decide +kernel)
set_option maxRecDepth 20000 in
theorem gX4_whatIs_X4_refused : GoodIn wsX4_whatIs (wsV RX4 51 RX4 yX4_refused wsX4_refused) := goodIn_app (goodIn_of _ (by decide +kernel)) ggX4_whatIs_X4_refused
set_option maxRecDepth 20000 in
theorem ggX4_whatIs_X0_copyFrom : GoodIn wsX4_whatIs wsX0_copyFrom := goodIn_r _ [20, 21, 10, 22, 23, 24, 25, 26, 27, 28, 29, 30, 105, 106, 107, 108, 109, 110, 111, 112, 113, 114, 115, 116] (by decide +kernel) (by decide +kernel)
set_option maxRecDepth 20000 in
theorem gX4_whatIs_X0_copyFrom : GoodIn wsX4_whatIs (wsV RX4 62 RX0 yX0_copyFrom wsX0_copyFrom) := goodIn_app (goodIn_of _ (by decide +kernel)) ggX4_whatIs_X0_copyFrom
set_option maxRecDepth 20000 in
theorem ggX4_whatIs_X4_rowTellsWordOf : GoodIn wsX4_whatIs wsX4_rowTellsWordOf := goodIn_r _ [34, 2, 35, 36, 37, 38, 8, 39, 29, 30, 40, 6, 7, 9, 10, 41, 42, 43, 44, 26, 45, 46, 47, 48, 22, 49, 50, 51, 52, 21, 53, 54, 55, 56, 57, 28, 27, 58, 59, 60, 61, 62, 63, 64, 23, 65, 66, 67, 68, 69, 70, 71, 72, 25, 73, 74, 75, 76, 77, 78, 79, 80, 24, 81, 82, 83, 84, 85, 86, 87, 88, 89, 90, 91, 92, 93, 94, 95, 96, 97, 98, 99, 100, 101, 102, 103, 104, 105, 106, 107, 108, 109, 110, 111, 112, 113, 114, 115, 116, 117, 118] (by decide +kernel) (by decide +kernel)
set_option maxRecDepth 20000 in
theorem gX4_whatIs_X4_rowTellsWordOf : GoodIn wsX4_whatIs (wsV RX4 217 RX4 yX4_rowTellsWordOf wsX4_rowTellsWordOf) := goodIn_app (goodIn_of _ (by decide +kernel)) ggX4_whatIs_X4_rowTellsWordOf
theorem dX4_whatIs_0 : decode cX4_whatIs 0 = .ok (.aload_n 0, 1) := by decide +kernel
theorem dX4_whatIs_1 : decode cX4_whatIs 1 = .ok (.getfield 10, 3) := by decide +kernel
theorem dX4_whatIs_4 : decode cX4_whatIs 4 = .ok (.iload_n 1, 1) := by decide +kernel
theorem dX4_whatIs_5 : decode cX4_whatIs 5 = .ok (.invokevirtual 73, 3) := by decide +kernel
theorem dX4_whatIs_8 : decode cX4_whatIs 8 = .ok (.ifCond .ne 9, 3) := by decide +kernel
theorem dX4_whatIs_11 : decode cX4_whatIs 11 = .ok (.aload_n 0, 1) := by decide +kernel
theorem dX4_whatIs_12 : decode cX4_whatIs 12 = .ok (.iconst (-1), 1) := by decide +kernel
theorem dX4_whatIs_13 : decode cX4_whatIs 13 = .ok (.invokevirtual 51, 3) := by decide +kernel
theorem dX4_whatIs_16 : decode cX4_whatIs 16 = .ok (.ireturn, 1) := by decide +kernel
theorem dX4_whatIs_17 : decode cX4_whatIs 17 = .ok (.iload_n 2, 1) := by decide +kernel
theorem dX4_whatIs_18 : decode cX4_whatIs 18 = .ok (.ifCond .eq 15, 3) := by decide +kernel
theorem dX4_whatIs_21 : decode cX4_whatIs 21 = .ok (.iload_n 2, 1) := by decide +kernel
theorem dX4_whatIs_22 : decode cX4_whatIs 22 = .ok (.iconst 1, 1) := by decide +kernel
theorem dX4_whatIs_23 : decode cX4_whatIs 23 = .ok (.if_icmp .eq 10, 3) := by decide +kernel
theorem dX4_whatIs_26 : decode cX4_whatIs 26 = .ok (.aload_n 0, 1) := by decide +kernel
theorem dX4_whatIs_27 : decode cX4_whatIs 27 = .ok (.bipush (-2), 2) := by decide +kernel
theorem dX4_whatIs_29 : decode cX4_whatIs 29 = .ok (.invokevirtual 51, 3) := by decide +kernel
theorem dX4_whatIs_32 : decode cX4_whatIs 32 = .ok (.ireturn, 1) := by decide +kernel
theorem dX4_whatIs_33 : decode cX4_whatIs 33 = .ok (.iconst 0, 1) := by decide +kernel
theorem dX4_whatIs_34 : decode cX4_whatIs 34 = .ok (.istore_n 3, 1) := by decide +kernel
theorem dX4_whatIs_35 : decode cX4_whatIs 35 = .ok (.iconst 0, 1) := by decide +kernel
theorem dX4_whatIs_36 : decode cX4_whatIs 36 = .ok (.istore 4, 2) := by decide +kernel
theorem dX4_whatIs_38 : decode cX4_whatIs 38 = .ok (.iload 4, 2) := by decide +kernel
theorem dX4_whatIs_40 : decode cX4_whatIs 40 = .ok (.iload_n 2, 1) := by decide +kernel
theorem dX4_whatIs_41 : decode cX4_whatIs 41 = .ok (.ifCond .ne 8, 3) := by decide +kernel
theorem dX4_whatIs_44 : decode cX4_whatIs 44 = .ok (.bipush 6, 2) := by decide +kernel
theorem dX4_whatIs_46 : decode cX4_whatIs 46 = .ok (.goto 5, 3) := by decide +kernel
theorem dX4_whatIs_49 : decode cX4_whatIs 49 = .ok (.bipush 10, 2) := by decide +kernel
theorem dX4_whatIs_51 : decode cX4_whatIs 51 = .ok (.if_icmp .ge 64, 3) := by decide +kernel
theorem dX4_whatIs_54 : decode cX4_whatIs 54 = .ok (.aload_n 0, 1) := by decide +kernel
theorem dX4_whatIs_55 : decode cX4_whatIs 55 = .ok (.getfield 16, 3) := by decide +kernel
theorem dX4_whatIs_58 : decode cX4_whatIs 58 = .ok (.aload_n 0, 1) := by decide +kernel
theorem dX4_whatIs_59 : decode cX4_whatIs 59 = .ok (.getfield 10, 3) := by decide +kernel
theorem dX4_whatIs_62 : decode cX4_whatIs 62 = .ok (.invokevirtual 62, 3) := by decide +kernel
theorem dX4_whatIs_65 : decode cX4_whatIs 65 = .ok (.iload_n 2, 1) := by decide +kernel
theorem dX4_whatIs_66 : decode cX4_whatIs 66 = .ok (.ifCond .ne 17, 3) := by decide +kernel
theorem dX4_whatIs_69 : decode cX4_whatIs 69 = .ok (.aload_n 0, 1) := by decide +kernel
theorem dX4_whatIs_70 : decode cX4_whatIs 70 = .ok (.getfield 16, 3) := by decide +kernel
theorem dX4_whatIs_73 : decode cX4_whatIs 73 = .ok (.getfield 95, 3) := by decide +kernel
theorem dX4_whatIs_76 : decode cX4_whatIs 76 = .ok (.iload_n 1, 1) := by decide +kernel
theorem dX4_whatIs_77 : decode cX4_whatIs 77 = .ok (.iload 4, 2) := by decide +kernel
theorem dX4_whatIs_79 : decode cX4_whatIs 79 = .ok (.iastore, 1) := by decide +kernel
theorem dX4_whatIs_80 : decode cX4_whatIs 80 = .ok (.goto 14, 3) := by decide +kernel
theorem dX4_whatIs_83 : decode cX4_whatIs 83 = .ok (.aload_n 0, 1) := by decide +kernel
theorem dX4_whatIs_84 : decode cX4_whatIs 84 = .ok (.getfield 16, 3) := by decide +kernel
theorem dX4_whatIs_87 : decode cX4_whatIs 87 = .ok (.getfield 98, 3) := by decide +kernel
theorem dX4_whatIs_90 : decode cX4_whatIs 90 = .ok (.iload_n 1, 1) := by decide +kernel
theorem dX4_whatIs_91 : decode cX4_whatIs 91 = .ok (.iload 4, 2) := by decide +kernel
theorem dX4_whatIs_93 : decode cX4_whatIs 93 = .ok (.iastore, 1) := by decide +kernel
theorem dX4_whatIs_94 : decode cX4_whatIs 94 = .ok (.aload_n 0, 1) := by decide +kernel
theorem dX4_whatIs_95 : decode cX4_whatIs 95 = .ok (.iload_n 1, 1) := by decide +kernel
theorem dX4_whatIs_96 : decode cX4_whatIs 96 = .ok (.invokevirtual 217, 3) := by decide +kernel
theorem dX4_whatIs_99 : decode cX4_whatIs 99 = .ok (.ifCond .eq 10, 3) := by decide +kernel
theorem dX4_whatIs_102 : decode cX4_whatIs 102 = .ok (.iload_n 3, 1) := by decide +kernel
theorem dX4_whatIs_103 : decode cX4_whatIs 103 = .ok (.iconst 1, 1) := by decide +kernel
theorem dX4_whatIs_104 : decode cX4_whatIs 104 = .ok (.iload 4, 2) := by decide +kernel
theorem dX4_whatIs_106 : decode cX4_whatIs 106 = .ok (.ishl, 1) := by decide +kernel
theorem dX4_whatIs_107 : decode cX4_whatIs 107 = .ok (.ior, 1) := by decide +kernel
theorem dX4_whatIs_108 : decode cX4_whatIs 108 = .ok (.istore_n 3, 1) := by decide +kernel
theorem dX4_whatIs_109 : decode cX4_whatIs 109 = .ok (.iinc 4 1, 3) := by decide +kernel
theorem dX4_whatIs_112 : decode cX4_whatIs 112 = .ok (.goto (-74), 3) := by decide +kernel
theorem dX4_whatIs_115 : decode cX4_whatIs 115 = .ok (.iload_n 3, 1) := by decide +kernel
theorem dX4_whatIs_116 : decode cX4_whatIs 116 = .ok (.ireturn, 1) := by decide +kernel
set_option maxRecDepth 20000 in
theorem ggX4_rowTellsWordOf_X0_canTell : GoodIn wsX4_rowTellsWordOf wsX0_canTell := goodIn_r _ [7, 8, 9, 10, 11, 12, 6, 13, 14, 15, 16, 17, 18, 19, 87, 88, 89, 90, 91, 92, 93, 94, 95, 96, 97, 98] (by decide +kernel) (by decide +kernel)
set_option maxRecDepth 20000 in
theorem gX4_rowTellsWordOf_X0_canTell : GoodIn wsX4_rowTellsWordOf (wsV RX4 77 RX0 yX0_canTell wsX0_canTell) := goodIn_app (goodIn_of _ (by decide +kernel)) ggX4_rowTellsWordOf_X0_canTell
set_option maxRecDepth 20000 in
theorem ggX4_rowTellsWordOf_X0_word : GoodIn wsX4_rowTellsWordOf wsX0_word := goodIn_r _ [23, 8, 24, 25, 26, 27, 28, 29, 9, 30, 4, 5, 6, 7, 10, 11, 12, 13, 14, 15, 16, 17, 18, 19, 31, 32, 33, 34, 35, 36, 37, 38, 39, 40, 41, 42, 43, 44, 45, 46, 47, 48, 49, 50, 51, 52, 53, 54, 55, 56, 57, 58, 59, 60, 61, 62, 87, 88, 89, 90, 91, 92, 93, 94, 95, 96, 97, 98] (by decide +kernel) (by decide +kernel)
set_option maxRecDepth 20000 in
theorem gX4_rowTellsWordOf_X0_word : GoodIn wsX4_rowTellsWordOf (wsV RX4 80 RX0 yX0_word wsX0_word) := goodIn_app (goodIn_of _ (by decide +kernel)) ggX4_rowTellsWordOf_X0_word
set_option maxRecDepth 20000 in
theorem ggX4_rowTellsWordOf_X3_firstNotLooseAsIn : GoodIn wsX4_rowTellsWordOf wsX3_firstNotLooseAsIn := goodIn_r _ [67, 68, 69, 70, 71, 72, 6, 73, 29, 74, 75, 66, 76, 77, 78, 16, 17, 18, 19, 99, 100, 87, 88, 89, 90, 91, 92, 93, 94, 95, 96, 97, 98] (by decide +kernel) (by decide +kernel)
set_option maxRecDepth 20000 in
theorem gX4_rowTellsWordOf_X3_firstNotLooseAsIn : GoodIn wsX4_rowTellsWordOf (wsV RX4 220 RX3 yX3_firstNotLooseAsIn wsX3_firstNotLooseAsIn) := goodIn_app (goodIn_of _ (by decide +kernel)) ggX4_rowTellsWordOf_X3_firstNotLooseAsIn
theorem dX4_rowTellsWordOf_0 : decode cX4_rowTellsWordOf 0 = .ok (.aload_n 0, 1) := by decide +kernel
theorem dX4_rowTellsWordOf_1 : decode cX4_rowTellsWordOf 1 = .ok (.getfield 16, 3) := by decide +kernel
theorem dX4_rowTellsWordOf_4 : decode cX4_rowTellsWordOf 4 = .ok (.iload_n 1, 1) := by decide +kernel
theorem dX4_rowTellsWordOf_5 : decode cX4_rowTellsWordOf 5 = .ok (.invokevirtual 77, 3) := by decide +kernel
theorem dX4_rowTellsWordOf_8 : decode cX4_rowTellsWordOf 8 = .ok (.ifCond .ne 5, 3) := by decide +kernel
theorem dX4_rowTellsWordOf_11 : decode cX4_rowTellsWordOf 11 = .ok (.iconst 0, 1) := by decide +kernel
theorem dX4_rowTellsWordOf_12 : decode cX4_rowTellsWordOf 12 = .ok (.ireturn, 1) := by decide +kernel
theorem dX4_rowTellsWordOf_13 : decode cX4_rowTellsWordOf 13 = .ok (.aload_n 0, 1) := by decide +kernel
theorem dX4_rowTellsWordOf_14 : decode cX4_rowTellsWordOf 14 = .ok (.getfield 16, 3) := by decide +kernel
theorem dX4_rowTellsWordOf_17 : decode cX4_rowTellsWordOf 17 = .ok (.iload_n 1, 1) := by decide +kernel
theorem dX4_rowTellsWordOf_18 : decode cX4_rowTellsWordOf 18 = .ok (.invokevirtual 80, 3) := by decide +kernel
theorem dX4_rowTellsWordOf_21 : decode cX4_rowTellsWordOf 21 = .ok (.pop, 1) := by decide +kernel
theorem dX4_rowTellsWordOf_22 : decode cX4_rowTellsWordOf 22 = .ok (.aload_n 0, 1) := by decide +kernel
theorem dX4_rowTellsWordOf_23 : decode cX4_rowTellsWordOf 23 = .ok (.getfield 32, 3) := by decide +kernel
theorem dX4_rowTellsWordOf_26 : decode cX4_rowTellsWordOf 26 = .ok (.aload_n 0, 1) := by decide +kernel
theorem dX4_rowTellsWordOf_27 : decode cX4_rowTellsWordOf 27 = .ok (.getfield 16, 3) := by decide +kernel
theorem dX4_rowTellsWordOf_30 : decode cX4_rowTellsWordOf 30 = .ok (.invokevirtual 220, 3) := by decide +kernel
theorem dX4_rowTellsWordOf_33 : decode cX4_rowTellsWordOf 33 = .ok (.bipush (-9), 2) := by decide +kernel
theorem dX4_rowTellsWordOf_35 : decode cX4_rowTellsWordOf 35 = .ok (.if_icmp .ne 7, 3) := by decide +kernel
theorem dX4_rowTellsWordOf_38 : decode cX4_rowTellsWordOf 38 = .ok (.iconst 1, 1) := by decide +kernel
theorem dX4_rowTellsWordOf_39 : decode cX4_rowTellsWordOf 39 = .ok (.goto 4, 3) := by decide +kernel
theorem dX4_rowTellsWordOf_42 : decode cX4_rowTellsWordOf 42 = .ok (.iconst 0, 1) := by decide +kernel
theorem dX4_rowTellsWordOf_43 : decode cX4_rowTellsWordOf 43 = .ok (.ireturn, 1) := by decide +kernel
set_option maxRecDepth 20000 in
theorem ggX4_row_X4_refused : GoodIn wsX4_row wsX4_refused := goodIn_r _ [6, 7, 19, 20, 21, 22, 23, 24, 25, 26] (by decide +kernel) (by decide +kernel)
set_option maxRecDepth 20000 in
theorem gX4_row_X4_refused : GoodIn wsX4_row (wsV RX4 51 RX4 yX4_refused wsX4_refused) := goodIn_app (goodIn_of _ (by decide +kernel)) ggX4_row_X4_refused
set_option maxRecDepth 20000 in
theorem ggX4_row_X3_isFull : GoodIn wsX4_row wsX3_isFull := goodIn_r _ [12, 13, 27, 28] (by decide +kernel) (by decide +kernel)
set_option maxRecDepth 20000 in
theorem gX4_row_X3_isFull : GoodIn wsX4_row (wsV RX4 223 RX3 yX3_isFull wsX3_isFull) := goodIn_app (goodIn_of _ (by decide +kernel)) ggX4_row_X3_isFull
set_option maxRecDepth 20000 in
theorem ggX4_row_X3_add : GoodIn wsX4_row wsX3_add := goodIn_r _ [17, 13, 18, 27, 28] (by decide +kernel) (by decide +kernel)
set_option maxRecDepth 20000 in
theorem gX4_row_X3_add : GoodIn wsX4_row (wsV RX4 224 RX3 yX3_add wsX3_add) := goodIn_app (goodIn_of _ (by decide +kernel)) ggX4_row_X3_add
theorem dX4_row_0 : decode cX4_row 0 = .ok (.iload_n 1, 1) := by decide +kernel
theorem dX4_row_1 : decode cX4_row 1 = .ok (.ifCond .ge 10, 3) := by decide +kernel
theorem dX4_row_4 : decode cX4_row 4 = .ok (.aload_n 0, 1) := by decide +kernel
theorem dX4_row_5 : decode cX4_row 5 = .ok (.bipush (-4), 2) := by decide +kernel
theorem dX4_row_7 : decode cX4_row 7 = .ok (.invokevirtual 51, 3) := by decide +kernel
theorem dX4_row_10 : decode cX4_row 10 = .ok (.ireturn, 1) := by decide +kernel
theorem dX4_row_11 : decode cX4_row 11 = .ok (.iload_n 1, 1) := by decide +kernel
theorem dX4_row_12 : decode cX4_row 12 = .ok (.bipush 99, 2) := by decide +kernel
theorem dX4_row_14 : decode cX4_row 14 = .ok (.if_icmp .gt 13, 3) := by decide +kernel
theorem dX4_row_17 : decode cX4_row 17 = .ok (.aload_n 0, 1) := by decide +kernel
theorem dX4_row_18 : decode cX4_row 18 = .ok (.getfield 32, 3) := by decide +kernel
theorem dX4_row_21 : decode cX4_row 21 = .ok (.invokevirtual 223, 3) := by decide +kernel
theorem dX4_row_24 : decode cX4_row 24 = .ok (.ifCond .eq 10, 3) := by decide +kernel
theorem dX4_row_27 : decode cX4_row 27 = .ok (.aload_n 0, 1) := by decide +kernel
theorem dX4_row_28 : decode cX4_row 28 = .ok (.bipush (-6), 2) := by decide +kernel
theorem dX4_row_30 : decode cX4_row 30 = .ok (.invokevirtual 51, 3) := by decide +kernel
theorem dX4_row_33 : decode cX4_row 33 = .ok (.ireturn, 1) := by decide +kernel
theorem dX4_row_34 : decode cX4_row 34 = .ok (.aload_n 0, 1) := by decide +kernel
theorem dX4_row_35 : decode cX4_row 35 = .ok (.getfield 32, 3) := by decide +kernel
theorem dX4_row_38 : decode cX4_row 38 = .ok (.iload_n 1, 1) := by decide +kernel
theorem dX4_row_39 : decode cX4_row 39 = .ok (.invokevirtual 224, 3) := by decide +kernel
theorem dX4_row_42 : decode cX4_row 42 = .ok (.ireturn, 1) := by decide +kernel
set_option maxRecDepth 20000 in
theorem ggX4_judge_X3_firstNotHeldAsIn : GoodIn wsX4_judge wsX3_firstNotHeldAsIn := goodIn_r _ [7, 8, 9, 10, 11, 12, 13, 14, 15, 16, 17, 18, 19, 20, 21, 22, 23, 24, 25, 26, 39, 40, 41, 42, 43, 44, 45, 46, 47, 48, 49, 50, 51, 52] (by decide +kernel) (by decide +kernel)
set_option maxRecDepth 20000 in
theorem gX4_judge_X3_firstNotHeldAsIn : GoodIn wsX4_judge (wsV RX4 225 RX3 yX3_firstNotHeldAsIn wsX3_firstNotHeldAsIn) := goodIn_app (goodIn_of _ (by decide +kernel)) ggX4_judge_X3_firstNotHeldAsIn
set_option maxRecDepth 20000 in
theorem ggX4_judge_X3_drop : GoodIn wsX4_judge wsX3_drop := goodIn_r _ [30, 8, 39, 40] (by decide +kernel) (by decide +kernel)
set_option maxRecDepth 20000 in
theorem gX4_judge_X3_drop : GoodIn wsX4_judge (wsV RX4 228 RX3 yX3_drop wsX3_drop) := goodIn_app (goodIn_of _ (by decide +kernel)) ggX4_judge_X3_drop
theorem dX4_judge_0 : decode cX4_judge 0 = .ok (.aload_n 0, 1) := by decide +kernel
theorem dX4_judge_1 : decode cX4_judge 1 = .ok (.getfield 32, 3) := by decide +kernel
theorem dX4_judge_4 : decode cX4_judge 4 = .ok (.aload_n 0, 1) := by decide +kernel
theorem dX4_judge_5 : decode cX4_judge 5 = .ok (.getfield 10, 3) := by decide +kernel
theorem dX4_judge_8 : decode cX4_judge 8 = .ok (.invokevirtual 225, 3) := by decide +kernel
theorem dX4_judge_11 : decode cX4_judge 11 = .ok (.istore_n 1, 1) := by decide +kernel
theorem dX4_judge_12 : decode cX4_judge 12 = .ok (.aload_n 0, 1) := by decide +kernel
theorem dX4_judge_13 : decode cX4_judge 13 = .ok (.getfield 32, 3) := by decide +kernel
theorem dX4_judge_16 : decode cX4_judge 16 = .ok (.invokevirtual 228, 3) := by decide +kernel
theorem dX4_judge_19 : decode cX4_judge 19 = .ok (.pop, 1) := by decide +kernel
theorem dX4_judge_20 : decode cX4_judge 20 = .ok (.iload_n 1, 1) := by decide +kernel
theorem dX4_judge_21 : decode cX4_judge 21 = .ok (.ireturn, 1) := by decide +kernel
set_option maxRecDepth 20000 in
theorem ggX4_clear_X3_drop : GoodIn wsX4_clear wsX3_drop := goodIn_r _ [6, 7, 16, 17] (by decide +kernel) (by decide +kernel)
set_option maxRecDepth 20000 in
theorem gX4_clear_X3_drop : GoodIn wsX4_clear (wsV RX4 228 RX3 yX3_drop wsX3_drop) := goodIn_app (goodIn_of _ (by decide +kernel)) ggX4_clear_X3_drop
theorem dX4_clear_0 : decode cX4_clear 0 = .ok (.aload_n 0, 1) := by decide +kernel
theorem dX4_clear_1 : decode cX4_clear 1 = .ok (.getfield 32, 3) := by decide +kernel
theorem dX4_clear_4 : decode cX4_clear 4 = .ok (.invokevirtual 228, 3) := by decide +kernel
theorem dX4_clear_7 : decode cX4_clear 7 = .ok (.ireturn, 1) := by decide +kernel
set_option maxRecDepth 20000 in
theorem ggX4_lots_X4_refused : GoodIn wsX4_lots wsX4_refused := goodIn_r _ [10, 11, 104, 105, 106, 107, 108, 109, 110, 111] (by decide +kernel) (by decide +kernel)
set_option maxRecDepth 20000 in
theorem gX4_lots_X4_refused : GoodIn wsX4_lots (wsV RX4 51 RX4 yX4_refused wsX4_refused) := goodIn_app (goodIn_of _ (by decide +kernel)) ggX4_lots_X4_refused
set_option maxRecDepth 20000 in
theorem ggX4_lots_X0_copyFrom : GoodIn wsX4_lots wsX0_copyFrom := goodIn_r _ [16, 17, 18, 19, 20, 21, 22, 23, 24, 25, 26, 27, 112, 113, 114, 115, 116, 117, 118, 119, 120, 121, 122, 123] (by decide +kernel) (by decide +kernel)
set_option maxRecDepth 20000 in
theorem gX4_lots_X0_copyFrom : GoodIn wsX4_lots (wsV RX4 62 RX0 yX0_copyFrom wsX0_copyFrom) := goodIn_app (goodIn_of _ (by decide +kernel)) ggX4_lots_X0_copyFrom
set_option maxRecDepth 20000 in
theorem ggX4_lots_X4_season : GoodIn wsX4_lots wsX4_season := goodIn_r _ [31, 5, 3, 2, 32, 33, 34, 35, 36, 37, 38, 39, 40, 41, 42, 43, 15, 44, 26, 19, 45, 46, 47, 48, 17, 27, 49, 50, 51, 52, 53, 54, 55, 56, 18, 57, 58, 59, 60, 23, 61, 62, 63, 64, 25, 24, 65, 66, 67, 68, 69, 70, 71, 20, 72, 73, 74, 75, 76, 77, 78, 79, 22, 80, 81, 82, 83, 84, 85, 86, 87, 21, 88, 89, 90, 91, 92, 93, 94, 95, 96, 97, 98, 99, 104, 105, 106, 107, 108, 109, 110, 111, 112, 113, 114, 115, 116, 117, 118, 119, 120, 121, 122, 123, 124] (by decide +kernel) (by decide +kernel)
set_option maxRecDepth 20000 in
theorem gX4_lots_X4_season : GoodIn wsX4_lots (wsV RX4 233 RX4 yX4_season wsX4_season) := goodIn_app (goodIn_of _ (by decide +kernel)) ggX4_lots_X4_season
set_option maxRecDepth 20000 in
theorem ggX4_lots_X0_allSins : GoodIn wsX4_lots wsX0_allSins := goodIn_r _ [103, 18, 26, 112, 113, 114, 115, 116, 117, 118, 119, 120, 121, 122, 123] (by decide +kernel) (by decide +kernel)
set_option maxRecDepth 20000 in
theorem gX4_lots_X0_allSins : GoodIn wsX4_lots (wsV RX4 210 RX0 yX0_allSins wsX0_allSins) := goodIn_app (goodIn_of _ (by decide +kernel)) ggX4_lots_X0_allSins
theorem dX4_lots_0 : decode cX4_lots 0 = .ok (.iload_n 1, 1) := by decide +kernel
theorem dX4_lots_1 : decode cX4_lots 1 = .ok (.iconst 1, 1) := by decide +kernel
theorem dX4_lots_2 : decode cX4_lots 2 = .ok (.if_icmp .ge 10, 3) := by decide +kernel
theorem dX4_lots_5 : decode cX4_lots 5 = .ok (.aload_n 0, 1) := by decide +kernel
theorem dX4_lots_6 : decode cX4_lots 6 = .ok (.bipush (-4), 2) := by decide +kernel
theorem dX4_lots_8 : decode cX4_lots 8 = .ok (.invokevirtual 51, 3) := by decide +kernel
theorem dX4_lots_11 : decode cX4_lots 11 = .ok (.ireturn, 1) := by decide +kernel
theorem dX4_lots_12 : decode cX4_lots 12 = .ok (.iload_n 1, 1) := by decide +kernel
theorem dX4_lots_13 : decode cX4_lots 13 = .ok (.bipush 20, 2) := by decide +kernel
theorem dX4_lots_15 : decode cX4_lots 15 = .ok (.if_icmp .le 10, 3) := by decide +kernel
theorem dX4_lots_18 : decode cX4_lots 18 = .ok (.aload_n 0, 1) := by decide +kernel
theorem dX4_lots_19 : decode cX4_lots 19 = .ok (.bipush (-6), 2) := by decide +kernel
theorem dX4_lots_21 : decode cX4_lots 21 = .ok (.invokevirtual 51, 3) := by decide +kernel
theorem dX4_lots_24 : decode cX4_lots 24 = .ok (.ireturn, 1) := by decide +kernel
theorem dX4_lots_25 : decode cX4_lots 25 = .ok (.iload_n 3, 1) := by decide +kernel
theorem dX4_lots_26 : decode cX4_lots 26 = .ok (.ifCond .eq 15, 3) := by decide +kernel
theorem dX4_lots_29 : decode cX4_lots 29 = .ok (.iload_n 3, 1) := by decide +kernel
theorem dX4_lots_30 : decode cX4_lots 30 = .ok (.iconst 1, 1) := by decide +kernel
theorem dX4_lots_31 : decode cX4_lots 31 = .ok (.if_icmp .eq 10, 3) := by decide +kernel
theorem dX4_lots_34 : decode cX4_lots 34 = .ok (.aload_n 0, 1) := by decide +kernel
theorem dX4_lots_35 : decode cX4_lots 35 = .ok (.bipush (-2), 2) := by decide +kernel
theorem dX4_lots_37 : decode cX4_lots 37 = .ok (.invokevirtual 51, 3) := by decide +kernel
theorem dX4_lots_40 : decode cX4_lots 40 = .ok (.ireturn, 1) := by decide +kernel
theorem dX4_lots_41 : decode cX4_lots 41 = .ok (.aload_n 0, 1) := by decide +kernel
theorem dX4_lots_42 : decode cX4_lots 42 = .ok (.getfield 10, 3) := by decide +kernel
theorem dX4_lots_45 : decode cX4_lots 45 = .ok (.getfield 155, 3) := by decide +kernel
theorem dX4_lots_48 : decode cX4_lots 48 = .ok (.ifCond .ne 10, 3) := by decide +kernel
theorem dX4_lots_51 : decode cX4_lots 51 = .ok (.aload_n 0, 1) := by decide +kernel
theorem dX4_lots_52 : decode cX4_lots 52 = .ok (.bipush (-3), 2) := by decide +kernel
theorem dX4_lots_54 : decode cX4_lots 54 = .ok (.invokevirtual 51, 3) := by decide +kernel
theorem dX4_lots_57 : decode cX4_lots 57 = .ok (.ireturn, 1) := by decide +kernel
theorem dX4_lots_58 : decode cX4_lots 58 = .ok (.aload_n 0, 1) := by decide +kernel
theorem dX4_lots_59 : decode cX4_lots 59 = .ok (.getfield 39, 3) := by decide +kernel
theorem dX4_lots_62 : decode cX4_lots 62 = .ok (.iload_n 2, 1) := by decide +kernel
theorem dX4_lots_63 : decode cX4_lots 63 = .ok (.putfield 230, 3) := by decide +kernel
theorem dX4_lots_66 : decode cX4_lots 66 = .ok (.iconst 0, 1) := by decide +kernel
theorem dX4_lots_67 : decode cX4_lots 67 = .ok (.istore 4, 2) := by decide +kernel
theorem dX4_lots_69 : decode cX4_lots 69 = .ok (.iconst 0, 1) := by decide +kernel
theorem dX4_lots_70 : decode cX4_lots 70 = .ok (.istore 5, 2) := by decide +kernel
theorem dX4_lots_72 : decode cX4_lots 72 = .ok (.iconst 0, 1) := by decide +kernel
theorem dX4_lots_73 : decode cX4_lots 73 = .ok (.istore 6, 2) := by decide +kernel
theorem dX4_lots_75 : decode cX4_lots 75 = .ok (.iload 6, 2) := by decide +kernel
theorem dX4_lots_77 : decode cX4_lots 77 = .ok (.iload_n 1, 1) := by decide +kernel
theorem dX4_lots_78 : decode cX4_lots 78 = .ok (.if_icmp .ge 41, 3) := by decide +kernel
theorem dX4_lots_81 : decode cX4_lots 81 = .ok (.aload_n 0, 1) := by decide +kernel
theorem dX4_lots_82 : decode cX4_lots 82 = .ok (.getfield 16, 3) := by decide +kernel
theorem dX4_lots_85 : decode cX4_lots 85 = .ok (.aload_n 0, 1) := by decide +kernel
theorem dX4_lots_86 : decode cX4_lots 86 = .ok (.getfield 10, 3) := by decide +kernel
theorem dX4_lots_89 : decode cX4_lots 89 = .ok (.invokevirtual 62, 3) := by decide +kernel
theorem dX4_lots_92 : decode cX4_lots 92 = .ok (.iload 4, 2) := by decide +kernel
theorem dX4_lots_94 : decode cX4_lots 94 = .ok (.aload_n 0, 1) := by decide +kernel
theorem dX4_lots_95 : decode cX4_lots 95 = .ok (.invokevirtual 233, 3) := by decide +kernel
theorem dX4_lots_98 : decode cX4_lots 98 = .ok (.iadd, 1) := by decide +kernel
theorem dX4_lots_99 : decode cX4_lots 99 = .ok (.istore 4, 2) := by decide +kernel
theorem dX4_lots_101 : decode cX4_lots 101 = .ok (.iload 5, 2) := by decide +kernel
theorem dX4_lots_103 : decode cX4_lots 103 = .ok (.aload_n 0, 1) := by decide +kernel
theorem dX4_lots_104 : decode cX4_lots 104 = .ok (.getfield 16, 3) := by decide +kernel
theorem dX4_lots_107 : decode cX4_lots 107 = .ok (.invokevirtual 210, 3) := by decide +kernel
theorem dX4_lots_110 : decode cX4_lots 110 = .ok (.iadd, 1) := by decide +kernel
theorem dX4_lots_111 : decode cX4_lots 111 = .ok (.istore 5, 2) := by decide +kernel
theorem dX4_lots_113 : decode cX4_lots 113 = .ok (.iinc 6 1, 3) := by decide +kernel
theorem dX4_lots_116 : decode cX4_lots 116 = .ok (.goto (-41), 3) := by decide +kernel
theorem dX4_lots_119 : decode cX4_lots 119 = .ok (.iload_n 3, 1) := by decide +kernel
theorem dX4_lots_120 : decode cX4_lots 120 = .ok (.ifCond .ne 8, 3) := by decide +kernel
theorem dX4_lots_123 : decode cX4_lots 123 = .ok (.iload 4, 2) := by decide +kernel
theorem dX4_lots_125 : decode cX4_lots 125 = .ok (.goto 5, 3) := by decide +kernel
theorem dX4_lots_128 : decode cX4_lots 128 = .ok (.iload 5, 2) := by decide +kernel
theorem dX4_lots_130 : decode cX4_lots 130 = .ok (.ireturn, 1) := by decide +kernel
set_option maxRecDepth 20000 in
theorem ggX4_season_X2_drawBelow : GoodIn wsX4_season wsX2_drawBelow := goodIn_r _ [8, 9, 10, 11, 12, 104] (by decide +kernel) (by decide +kernel)
set_option maxRecDepth 20000 in
theorem gX4_season_X2_drawBelow : GoodIn wsX4_season (wsV RX4 236 RX2 yX2_drawBelow wsX2_drawBelow) := goodIn_app (goodIn_of _ (by decide +kernel)) ggX4_season_X2_drawBelow
set_option maxRecDepth 20000 in
theorem ggX4_season_X0_word : GoodIn wsX4_season wsX0_word := goodIn_r _ [17, 18, 19, 20, 21, 22, 23, 24, 25, 26, 27, 28, 16, 29, 30, 31, 32, 33, 34, 35, 36, 37, 38, 39, 40, 41, 42, 43, 44, 45, 46, 47, 48, 49, 50, 51, 52, 53, 54, 55, 56, 57, 58, 59, 60, 61, 62, 63, 64, 65, 66, 67, 68, 69, 70, 71, 92, 93, 94, 95, 96, 97, 98, 99, 100, 101, 102, 103] (by decide +kernel) (by decide +kernel)
set_option maxRecDepth 20000 in
theorem gX4_season_X0_word : GoodIn wsX4_season (wsV RX4 80 RX0 yX0_word wsX0_word) := goodIn_app (goodIn_of _ (by decide +kernel)) ggX4_season_X0_word
set_option maxRecDepth 20000 in
theorem ggX4_season_X0_passTides : GoodIn wsX4_season wsX0_passTides := goodIn_r _ [75, 76, 77, 78, 16, 79, 53, 34, 25, 18, 20, 21, 22, 23, 24, 39, 35, 36, 37, 38, 80, 81, 82, 83, 45, 92, 93, 94, 95, 96, 97, 98, 99, 100, 101, 102, 103] (by decide +kernel) (by decide +kernel)
set_option maxRecDepth 20000 in
theorem gX4_season_X0_passTides : GoodIn wsX4_season (wsV RX4 104 RX0 yX0_passTides wsX0_passTides) := goodIn_app (goodIn_of _ (by decide +kernel)) ggX4_season_X0_passTides
theorem dX4_season_0 : decode cX4_season 0 = .ok (.iconst 0, 1) := by decide +kernel
theorem dX4_season_1 : decode cX4_season 1 = .ok (.istore_n 1, 1) := by decide +kernel
theorem dX4_season_2 : decode cX4_season 2 = .ok (.iconst 0, 1) := by decide +kernel
theorem dX4_season_3 : decode cX4_season 3 = .ok (.istore_n 2, 1) := by decide +kernel
theorem dX4_season_4 : decode cX4_season 4 = .ok (.iload_n 2, 1) := by decide +kernel
theorem dX4_season_5 : decode cX4_season 5 = .ok (.bipush 12, 2) := by decide +kernel
theorem dX4_season_7 : decode cX4_season 7 = .ok (.if_icmp .ge 41, 3) := by decide +kernel
theorem dX4_season_10 : decode cX4_season 10 = .ok (.iload_n 1, 1) := by decide +kernel
theorem dX4_season_11 : decode cX4_season 11 = .ok (.aload_n 0, 1) := by decide +kernel
theorem dX4_season_12 : decode cX4_season 12 = .ok (.getfield 16, 3) := by decide +kernel
theorem dX4_season_15 : decode cX4_season 15 = .ok (.aload_n 0, 1) := by decide +kernel
theorem dX4_season_16 : decode cX4_season 16 = .ok (.getfield 39, 3) := by decide +kernel
theorem dX4_season_19 : decode cX4_season 19 = .ok (.aload_n 0, 1) := by decide +kernel
theorem dX4_season_20 : decode cX4_season 20 = .ok (.getfield 16, 3) := by decide +kernel
theorem dX4_season_23 : decode cX4_season 23 = .ok (.getfield 155, 3) := by decide +kernel
theorem dX4_season_26 : decode cX4_season 26 = .ok (.invokevirtual 236, 3) := by decide +kernel
theorem dX4_season_29 : decode cX4_season 29 = .ok (.invokevirtual 80, 3) := by decide +kernel
theorem dX4_season_32 : decode cX4_season 32 = .ok (.iadd, 1) := by decide +kernel
theorem dX4_season_33 : decode cX4_season 33 = .ok (.istore_n 1, 1) := by decide +kernel
theorem dX4_season_34 : decode cX4_season 34 = .ok (.aload_n 0, 1) := by decide +kernel
theorem dX4_season_35 : decode cX4_season 35 = .ok (.getfield 16, 3) := by decide +kernel
theorem dX4_season_38 : decode cX4_season 38 = .ok (.iconst 1, 1) := by decide +kernel
theorem dX4_season_39 : decode cX4_season 39 = .ok (.invokevirtual 104, 3) := by decide +kernel
theorem dX4_season_42 : decode cX4_season 42 = .ok (.iinc 2 1, 3) := by decide +kernel
theorem dX4_season_45 : decode cX4_season 45 = .ok (.goto (-41), 3) := by decide +kernel
theorem dX4_season_48 : decode cX4_season 48 = .ok (.iload_n 1, 1) := by decide +kernel
theorem dX4_season_49 : decode cX4_season 49 = .ok (.ireturn, 1) := by decide +kernel
set_option maxRecDepth 20000 in
theorem ggX4_image_X0_copyFrom : GoodIn wsX4_image wsX0_copyFrom := goodIn_r _ [9, 10, 11, 12, 13, 14, 15, 16, 17, 18, 19, 20, 29, 30, 31, 32, 33, 34, 35, 36, 37, 38, 39, 40] (by decide +kernel) (by decide +kernel)
set_option maxRecDepth 20000 in
theorem gX4_image_X0_copyFrom : GoodIn wsX4_image (wsV RX4 62 RX0 yX0_copyFrom wsX0_copyFrom) := goodIn_app (goodIn_of _ (by decide +kernel)) ggX4_image_X0_copyFrom
theorem dX4_image_0 : decode cX4_image 0 = .ok (.aload_n 0, 1) := by decide +kernel
theorem dX4_image_1 : decode cX4_image 1 = .ok (.getfield 19, 3) := by decide +kernel
theorem dX4_image_4 : decode cX4_image 4 = .ok (.aload_n 0, 1) := by decide +kernel
theorem dX4_image_5 : decode cX4_image 5 = .ok (.getfield 10, 3) := by decide +kernel
theorem dX4_image_8 : decode cX4_image 8 = .ok (.invokevirtual 62, 3) := by decide +kernel
theorem dX4_image_11 : decode cX4_image 11 = .ok (.aload_n 0, 1) := by decide +kernel
theorem dX4_image_12 : decode cX4_image 12 = .ok (.iconst 1, 1) := by decide +kernel
theorem dX4_image_13 : decode cX4_image 13 = .ok (.putfield 47, 3) := by decide +kernel
theorem dX4_image_16 : decode cX4_image 16 = .ok (.aload_n 0, 1) := by decide +kernel
theorem dX4_image_17 : decode cX4_image 17 = .ok (.getfield 19, 3) := by decide +kernel
theorem dX4_image_20 : decode cX4_image 20 = .ok (.getfield 177, 3) := by decide +kernel
theorem dX4_image_23 : decode cX4_image 23 = .ok (.ireturn, 1) := by decide +kernel
set_option maxRecDepth 20000 in
theorem ggX4_on_X4_refused : GoodIn wsX4_on wsX4_refused := goodIn_r _ [9, 10, 27, 28, 29, 30, 31, 32, 33, 34] (by decide +kernel) (by decide +kernel)
set_option maxRecDepth 20000 in
theorem gX4_on_X4_refused : GoodIn wsX4_on (wsV RX4 51 RX4 yX4_refused wsX4_refused) := goodIn_app (goodIn_of _ (by decide +kernel)) ggX4_on_X4_refused
set_option maxRecDepth 20000 in
theorem ggX4_on_X0_copyFrom : GoodIn wsX4_on wsX0_copyFrom := goodIn_r _ [15, 16, 17, 18, 19, 20, 21, 22, 23, 24, 25, 26, 35, 36, 37, 38, 39, 40, 41, 42, 43, 44, 45, 46] (by decide +kernel) (by decide +kernel)
set_option maxRecDepth 20000 in
theorem gX4_on_X0_copyFrom : GoodIn wsX4_on (wsV RX4 62 RX0 yX0_copyFrom wsX0_copyFrom) := goodIn_app (goodIn_of _ (by decide +kernel)) ggX4_on_X0_copyFrom
theorem dX4_on_0 : decode cX4_on 0 = .ok (.aload_n 0, 1) := by decide +kernel
theorem dX4_on_1 : decode cX4_on 1 = .ok (.getfield 47, 3) := by decide +kernel
theorem dX4_on_4 : decode cX4_on 4 = .ok (.ifCond .ne 10, 3) := by decide +kernel
theorem dX4_on_7 : decode cX4_on 7 = .ok (.aload_n 0, 1) := by decide +kernel
theorem dX4_on_8 : decode cX4_on 8 = .ok (.bipush (-3), 2) := by decide +kernel
theorem dX4_on_10 : decode cX4_on 10 = .ok (.invokevirtual 51, 3) := by decide +kernel
theorem dX4_on_13 : decode cX4_on 13 = .ok (.ireturn, 1) := by decide +kernel
theorem dX4_on_14 : decode cX4_on 14 = .ok (.aload_n 0, 1) := by decide +kernel
theorem dX4_on_15 : decode cX4_on 15 = .ok (.getfield 10, 3) := by decide +kernel
theorem dX4_on_18 : decode cX4_on 18 = .ok (.aload_n 0, 1) := by decide +kernel
theorem dX4_on_19 : decode cX4_on 19 = .ok (.getfield 19, 3) := by decide +kernel
theorem dX4_on_22 : decode cX4_on 22 = .ok (.invokevirtual 62, 3) := by decide +kernel
theorem dX4_on_25 : decode cX4_on 25 = .ok (.aload_n 0, 1) := by decide +kernel
theorem dX4_on_26 : decode cX4_on 26 = .ok (.getfield 10, 3) := by decide +kernel
theorem dX4_on_29 : decode cX4_on 29 = .ok (.getfield 177, 3) := by decide +kernel
theorem dX4_on_32 : decode cX4_on 32 = .ok (.ireturn, 1) := by decide +kernel
set_option maxRecDepth 20000 in
theorem ggX4_count_X0_outBits : GoodIn wsX4_count wsX0_outBits := goodIn_r _ [15, 16, 17, 18, 19, 14, 20, 21, 36, 37, 38, 39, 40, 41, 42, 43, 44, 45, 46, 47] (by decide +kernel) (by decide +kernel)
set_option maxRecDepth 20000 in
theorem gX4_count_X0_outBits : GoodIn wsX4_count (wsV RX4 108 RX0 yX0_outBits wsX0_outBits) := goodIn_app (goodIn_of _ (by decide +kernel)) ggX4_count_X0_outBits
set_option maxRecDepth 20000 in
theorem ggX4_count_X0_allSins : GoodIn wsX4_count wsX0_allSins := goodIn_r _ [25, 26, 27, 36, 37, 38, 39, 40, 41, 42, 43, 44, 45, 46, 47] (by decide +kernel) (by decide +kernel)
set_option maxRecDepth 20000 in
theorem gX4_count_X0_allSins : GoodIn wsX4_count (wsV RX4 210 RX0 yX0_allSins wsX0_allSins) := goodIn_app (goodIn_of _ (by decide +kernel)) ggX4_count_X0_allSins
theorem dX4_count_0 : decode cX4_count 0 = .ok (.iload_n 1, 1) := by decide +kernel
theorem dX4_count_1 : decode cX4_count 1 = .ok (.bipush 11, 2) := by decide +kernel
theorem dX4_count_3 : decode cX4_count 3 = .ok (.if_icmp .lt 19, 3) := by decide +kernel
theorem dX4_count_6 : decode cX4_count 6 = .ok (.iload_n 1, 1) := by decide +kernel
theorem dX4_count_7 : decode cX4_count 7 = .ok (.bipush 16, 2) := by decide +kernel
theorem dX4_count_9 : decode cX4_count 9 = .ok (.if_icmp .gt 13, 3) := by decide +kernel
theorem dX4_count_12 : decode cX4_count 12 = .ok (.aload_n 0, 1) := by decide +kernel
theorem dX4_count_13 : decode cX4_count 13 = .ok (.getfield 43, 3) := by decide +kernel
theorem dX4_count_16 : decode cX4_count 16 = .ok (.iload_n 1, 1) := by decide +kernel
theorem dX4_count_17 : decode cX4_count 17 = .ok (.bipush 10, 2) := by decide +kernel
theorem dX4_count_19 : decode cX4_count 19 = .ok (.isub, 1) := by decide +kernel
theorem dX4_count_20 : decode cX4_count 20 = .ok (.iaload, 1) := by decide +kernel
theorem dX4_count_21 : decode cX4_count 21 = .ok (.ireturn, 1) := by decide +kernel
theorem dX4_count_22 : decode cX4_count 22 = .ok (.iload_n 1, 1) := by decide +kernel
theorem dX4_count_23 : decode cX4_count 23 = .ok (.tableswitch 109 0 7 #[45, 53, 61, 69, 77, 85, 93, 101], 45) := by decide +kernel
theorem dX4_count_68 : decode cX4_count 68 = .ok (.aload_n 0, 1) := by decide +kernel
theorem dX4_count_69 : decode cX4_count 69 = .ok (.getfield 10, 3) := by decide +kernel
theorem dX4_count_72 : decode cX4_count 72 = .ok (.getfield 136, 3) := by decide +kernel
theorem dX4_count_75 : decode cX4_count 75 = .ok (.ireturn, 1) := by decide +kernel
theorem dX4_count_76 : decode cX4_count 76 = .ok (.aload_n 0, 1) := by decide +kernel
theorem dX4_count_77 : decode cX4_count 77 = .ok (.getfield 10, 3) := by decide +kernel
theorem dX4_count_80 : decode cX4_count 80 = .ok (.getfield 155, 3) := by decide +kernel
theorem dX4_count_83 : decode cX4_count 83 = .ok (.ireturn, 1) := by decide +kernel
theorem dX4_count_84 : decode cX4_count 84 = .ok (.aload_n 0, 1) := by decide +kernel
theorem dX4_count_85 : decode cX4_count 85 = .ok (.getfield 10, 3) := by decide +kernel
theorem dX4_count_88 : decode cX4_count 88 = .ok (.getfield 177, 3) := by decide +kernel
theorem dX4_count_91 : decode cX4_count 91 = .ok (.ireturn, 1) := by decide +kernel
theorem dX4_count_92 : decode cX4_count 92 = .ok (.aload_n 0, 1) := by decide +kernel
theorem dX4_count_93 : decode cX4_count 93 = .ok (.getfield 10, 3) := by decide +kernel
theorem dX4_count_96 : decode cX4_count 96 = .ok (.getfield 167, 3) := by decide +kernel
theorem dX4_count_99 : decode cX4_count 99 = .ok (.ireturn, 1) := by decide +kernel
theorem dX4_count_100 : decode cX4_count 100 = .ok (.aload_n 0, 1) := by decide +kernel
theorem dX4_count_101 : decode cX4_count 101 = .ok (.getfield 10, 3) := by decide +kernel
theorem dX4_count_104 : decode cX4_count 104 = .ok (.invokevirtual 108, 3) := by decide +kernel
theorem dX4_count_107 : decode cX4_count 107 = .ok (.ireturn, 1) := by decide +kernel
theorem dX4_count_108 : decode cX4_count 108 = .ok (.aload_n 0, 1) := by decide +kernel
theorem dX4_count_109 : decode cX4_count 109 = .ok (.getfield 10, 3) := by decide +kernel
theorem dX4_count_112 : decode cX4_count 112 = .ok (.invokevirtual 210, 3) := by decide +kernel
theorem dX4_count_115 : decode cX4_count 115 = .ok (.ireturn, 1) := by decide +kernel
theorem dX4_count_116 : decode cX4_count 116 = .ok (.aload_n 0, 1) := by decide +kernel
theorem dX4_count_117 : decode cX4_count 117 = .ok (.getfield 32, 3) := by decide +kernel
theorem dX4_count_120 : decode cX4_count 120 = .ok (.getfield 239, 3) := by decide +kernel
theorem dX4_count_123 : decode cX4_count 123 = .ok (.ireturn, 1) := by decide +kernel
theorem dX4_count_124 : decode cX4_count 124 = .ok (.aload_n 0, 1) := by decide +kernel
theorem dX4_count_125 : decode cX4_count 125 = .ok (.getfield 25, 3) := by decide +kernel
theorem dX4_count_128 : decode cX4_count 128 = .ok (.getfield 242, 3) := by decide +kernel
theorem dX4_count_131 : decode cX4_count 131 = .ok (.ireturn, 1) := by decide +kernel
theorem dX4_count_132 : decode cX4_count 132 = .ok (.bipush (-9), 2) := by decide +kernel
theorem dX4_count_134 : decode cX4_count 134 = .ok (.ireturn, 1) := by decide +kernel
theorem dX4_refused_0 : decode cX4_refused 0 = .ok (.iload_n 1, 1) := by decide +kernel
theorem dX4_refused_1 : decode cX4_refused 1 = .ok (.ineg, 1) := by decide +kernel
theorem dX4_refused_2 : decode cX4_refused 2 = .ok (.istore_n 2, 1) := by decide +kernel
theorem dX4_refused_3 : decode cX4_refused 3 = .ok (.iload_n 2, 1) := by decide +kernel
theorem dX4_refused_4 : decode cX4_refused 4 = .ok (.ifCond .lt 22, 3) := by decide +kernel
theorem dX4_refused_7 : decode cX4_refused 7 = .ok (.iload_n 2, 1) := by decide +kernel
theorem dX4_refused_8 : decode cX4_refused 8 = .ok (.aload_n 0, 1) := by decide +kernel
theorem dX4_refused_9 : decode cX4_refused 9 = .ok (.getfield 43, 3) := by decide +kernel
theorem dX4_refused_12 : decode cX4_refused 12 = .ok (.arraylength, 1) := by decide +kernel
theorem dX4_refused_13 : decode cX4_refused 13 = .ok (.if_icmp .ge 13, 3) := by decide +kernel
theorem dX4_refused_16 : decode cX4_refused 16 = .ok (.aload_n 0, 1) := by decide +kernel
theorem dX4_refused_17 : decode cX4_refused 17 = .ok (.getfield 43, 3) := by decide +kernel
theorem dX4_refused_20 : decode cX4_refused 20 = .ok (.iload_n 2, 1) := by decide +kernel
theorem dX4_refused_21 : decode cX4_refused 21 = .ok (.dup2, 1) := by decide +kernel
theorem dX4_refused_22 : decode cX4_refused 22 = .ok (.iaload, 1) := by decide +kernel
theorem dX4_refused_23 : decode cX4_refused 23 = .ok (.iconst 1, 1) := by decide +kernel
theorem dX4_refused_24 : decode cX4_refused 24 = .ok (.iadd, 1) := by decide +kernel
theorem dX4_refused_25 : decode cX4_refused 25 = .ok (.iastore, 1) := by decide +kernel
theorem dX4_refused_26 : decode cX4_refused 26 = .ok (.iload_n 1, 1) := by decide +kernel
theorem dX4_refused_27 : decode cX4_refused 27 = .ok (.ireturn, 1) := by decide +kernel
