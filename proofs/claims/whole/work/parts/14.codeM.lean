theorem dX4_init_0 : decode cX4_init 0 = .ok (.aload_n 0, 1) := by decide +kernel
theorem dX4_init_1 : decode cX4_init 1 = .ok (.invokespecial 1, 3) := by decide +kernel
theorem dX4_init_4 : decode cX4_init 4 = .ok (.aload_n 0, 1) := by decide +kernel
theorem dX4_init_5 : decode cX4_init 5 = .ok (.iconst 4, 1) := by decide +kernel
theorem dX4_init_6 : decode cX4_init 6 = .ok (.putfield 7, 3) := by decide +kernel
theorem dX4_init_9 : decode cX4_init 9 = .ok (.aload_n 0, 1) := by decide +kernel
theorem dX4_init_10 : decode cX4_init 10 = .ok (.iconst 2, 1) := by decide +kernel
theorem dX4_init_11 : decode cX4_init 11 = .ok (.putfield 13, 3) := by decide +kernel
theorem dX4_init_14 : decode cX4_init 14 = .ok (.aload_n 0, 1) := by decide +kernel
theorem dX4_init_15 : decode cX4_init 15 = .ok (.iconst (-1), 1) := by decide +kernel
theorem dX4_init_16 : decode cX4_init 16 = .ok (.putfield 16, 3) := by decide +kernel
theorem dX4_init_19 : decode cX4_init 19 = .ok (.aload_n 0, 1) := by decide +kernel
theorem dX4_init_20 : decode cX4_init 20 = .ok (.bipush 32, 2) := by decide +kernel
theorem dX4_init_22 : decode cX4_init 22 = .ok (.newarray .int, 2) := by decide +kernel
theorem dX4_init_24 : decode cX4_init 24 = .ok (.putfield 19, 3) := by decide +kernel
theorem dX4_init_27 : decode cX4_init 27 = .ok (.aload_n 0, 1) := by decide +kernel
theorem dX4_init_28 : decode cX4_init 28 = .ok (.bipush 32, 2) := by decide +kernel
theorem dX4_init_30 : decode cX4_init 30 = .ok (.newarray .int, 2) := by decide +kernel
theorem dX4_init_32 : decode cX4_init 32 = .ok (.putfield 23, 3) := by decide +kernel
theorem dX4_init_35 : decode cX4_init 35 = .ok (.aload_n 0, 1) := by decide +kernel
theorem dX4_init_36 : decode cX4_init 36 = .ok (.bipush 32, 2) := by decide +kernel
theorem dX4_init_38 : decode cX4_init 38 = .ok (.newarray .int, 2) := by decide +kernel
theorem dX4_init_40 : decode cX4_init 40 = .ok (.putfield 26, 3) := by decide +kernel
theorem dX4_init_43 : decode cX4_init 43 = .ok (.aload_n 0, 1) := by decide +kernel
theorem dX4_init_44 : decode cX4_init 44 = .ok (.bipush 32, 2) := by decide +kernel
theorem dX4_init_46 : decode cX4_init 46 = .ok (.newarray .int, 2) := by decide +kernel
theorem dX4_init_48 : decode cX4_init 48 = .ok (.putfield 29, 3) := by decide +kernel
theorem dX4_init_51 : decode cX4_init 51 = .ok (.aload_n 0, 1) := by decide +kernel
theorem dX4_init_52 : decode cX4_init 52 = .ok (.bipush 32, 2) := by decide +kernel
theorem dX4_init_54 : decode cX4_init 54 = .ok (.newarray .int, 2) := by decide +kernel
theorem dX4_init_56 : decode cX4_init 56 = .ok (.putfield 32, 3) := by decide +kernel
theorem dX4_init_59 : decode cX4_init 59 = .ok (.aload_n 0, 1) := by decide +kernel
theorem dX4_init_60 : decode cX4_init 60 = .ok (.bipush 32, 2) := by decide +kernel
theorem dX4_init_62 : decode cX4_init 62 = .ok (.newarray .int, 2) := by decide +kernel
theorem dX4_init_64 : decode cX4_init 64 = .ok (.putfield 35, 3) := by decide +kernel
theorem dX4_init_67 : decode cX4_init 67 = .ok (.aload_n 0, 1) := by decide +kernel
theorem dX4_init_68 : decode cX4_init 68 = .ok (.bipush 64, 2) := by decide +kernel
theorem dX4_init_70 : decode cX4_init 70 = .ok (.newarray .int, 2) := by decide +kernel
theorem dX4_init_72 : decode cX4_init 72 = .ok (.putfield 38, 3) := by decide +kernel
theorem dX4_init_75 : decode cX4_init 75 = .ok (.aload_n 0, 1) := by decide +kernel
theorem dX4_init_76 : decode cX4_init 76 = .ok (.bipush 64, 2) := by decide +kernel
theorem dX4_init_78 : decode cX4_init 78 = .ok (.newarray .int, 2) := by decide +kernel
theorem dX4_init_80 : decode cX4_init 80 = .ok (.putfield 41, 3) := by decide +kernel
theorem dX4_init_83 : decode cX4_init 83 = .ok (.aload_n 0, 1) := by decide +kernel
theorem dX4_init_84 : decode cX4_init 84 = .ok (.bipush 64, 2) := by decide +kernel
theorem dX4_init_86 : decode cX4_init 86 = .ok (.newarray .int, 2) := by decide +kernel
theorem dX4_init_88 : decode cX4_init 88 = .ok (.putfield 44, 3) := by decide +kernel
theorem dX4_init_91 : decode cX4_init 91 = .ok (.aload_n 0, 1) := by decide +kernel
theorem dX4_init_92 : decode cX4_init 92 = .ok (.bipush 64, 2) := by decide +kernel
theorem dX4_init_94 : decode cX4_init 94 = .ok (.newarray .boolean, 2) := by decide +kernel
theorem dX4_init_96 : decode cX4_init 96 = .ok (.putfield 47, 3) := by decide +kernel
theorem dX4_init_99 : decode cX4_init 99 = .ok (.aload_n 0, 1) := by decide +kernel
theorem dX4_init_100 : decode cX4_init 100 = .ok (.iconst 4, 1) := by decide +kernel
theorem dX4_init_101 : decode cX4_init 101 = .ok (.newarray .int, 2) := by decide +kernel
theorem dX4_init_103 : decode cX4_init 103 = .ok (.putfield 51, 3) := by decide +kernel
theorem dX4_init_106 : decode cX4_init 106 = .ok (.return_, 1) := by decide +kernel
theorem dX4_thrown_0 : decode cX4_thrown 0 = .ok (.aload_n 0, 1) := by decide +kernel
theorem dX4_thrown_1 : decode cX4_thrown 1 = .ok (.getfield 54, 3) := by decide +kernel
theorem dX4_thrown_4 : decode cX4_thrown 4 = .ok (.ireturn, 1) := by decide +kernel
theorem dX4_rooms_0 : decode cX4_rooms 0 = .ok (.aload_n 0, 1) := by decide +kernel
theorem dX4_rooms_1 : decode cX4_rooms 1 = .ok (.iload_n 1, 1) := by decide +kernel
theorem dX4_rooms_2 : decode cX4_rooms 2 = .ok (.ifCond .lt 20, 3) := by decide +kernel
theorem dX4_rooms_5 : decode cX4_rooms 5 = .ok (.iload_n 1, 1) := by decide +kernel
theorem dX4_rooms_6 : decode cX4_rooms 6 = .ok (.bipush 32, 2) := by decide +kernel
theorem dX4_rooms_8 : decode cX4_rooms 8 = .ok (.if_icmp .gt 14, 3) := by decide +kernel
theorem dX4_rooms_11 : decode cX4_rooms 11 = .ok (.iload_n 2, 1) := by decide +kernel
theorem dX4_rooms_12 : decode cX4_rooms 12 = .ok (.iconst 1, 1) := by decide +kernel
theorem dX4_rooms_13 : decode cX4_rooms 13 = .ok (.if_icmp .lt 9, 3) := by decide +kernel
theorem dX4_rooms_16 : decode cX4_rooms 16 = .ok (.iload_n 2, 1) := by decide +kernel
theorem dX4_rooms_17 : decode cX4_rooms 17 = .ok (.bipush 16, 2) := by decide +kernel
theorem dX4_rooms_19 : decode cX4_rooms 19 = .ok (.if_icmp .le 7, 3) := by decide +kernel
theorem dX4_rooms_22 : decode cX4_rooms 22 = .ok (.iconst 1, 1) := by decide +kernel
theorem dX4_rooms_23 : decode cX4_rooms 23 = .ok (.goto 4, 3) := by decide +kernel
theorem dX4_rooms_26 : decode cX4_rooms 26 = .ok (.iconst 0, 1) := by decide +kernel
theorem dX4_rooms_27 : decode cX4_rooms 27 = .ok (.putfield 54, 3) := by decide +kernel
theorem dX4_rooms_30 : decode cX4_rooms 30 = .ok (.aload_n 0, 1) := by decide +kernel
theorem dX4_rooms_31 : decode cX4_rooms 31 = .ok (.getfield 54, 3) := by decide +kernel
theorem dX4_rooms_34 : decode cX4_rooms 34 = .ok (.ifCond .ne 13, 3) := by decide +kernel
theorem dX4_rooms_37 : decode cX4_rooms 37 = .ok (.aload_n 0, 1) := by decide +kernel
theorem dX4_rooms_38 : decode cX4_rooms 38 = .ok (.iload_n 1, 1) := by decide +kernel
theorem dX4_rooms_39 : decode cX4_rooms 39 = .ok (.putfield 7, 3) := by decide +kernel
theorem dX4_rooms_42 : decode cX4_rooms 42 = .ok (.aload_n 0, 1) := by decide +kernel
theorem dX4_rooms_43 : decode cX4_rooms 43 = .ok (.iload_n 2, 1) := by decide +kernel
theorem dX4_rooms_44 : decode cX4_rooms 44 = .ok (.putfield 13, 3) := by decide +kernel
theorem dX4_rooms_47 : decode cX4_rooms 47 = .ok (.return_, 1) := by decide +kernel
theorem dX4_key_0 : decode cX4_key 0 = .ok (.aload_n 0, 1) := by decide +kernel
theorem dX4_key_1 : decode cX4_key 1 = .ok (.iconst 0, 1) := by decide +kernel
theorem dX4_key_2 : decode cX4_key 2 = .ok (.putfield 54, 3) := by decide +kernel
theorem dX4_key_5 : decode cX4_key 5 = .ok (.aload_n 0, 1) := by decide +kernel
theorem dX4_key_6 : decode cX4_key 6 = .ok (.lload_n 1, 1) := by decide +kernel
theorem dX4_key_7 : decode cX4_key 7 = .ok (.putfield 57, 3) := by decide +kernel
theorem dX4_key_10 : decode cX4_key 10 = .ok (.aload_n 0, 1) := by decide +kernel
theorem dX4_key_11 : decode cX4_key 11 = .ok (.lload_n 3, 1) := by decide +kernel
theorem dX4_key_12 : decode cX4_key 12 = .ok (.putfield 61, 3) := by decide +kernel
theorem dX4_key_15 : decode cX4_key 15 = .ok (.return_, 1) := by decide +kernel
theorem dX4_turned_0 : decode cX4_turned 0 = .ok (.lload_n 0, 1) := by decide +kernel
theorem dX4_turned_1 : decode cX4_turned 1 = .ok (.iload_n 2, 1) := by decide +kernel
theorem dX4_turned_2 : decode cX4_turned 2 = .ok (.lshl, 1) := by decide +kernel
theorem dX4_turned_3 : decode cX4_turned 3 = .ok (.lload_n 0, 1) := by decide +kernel
theorem dX4_turned_4 : decode cX4_turned 4 = .ok (.bipush 64, 2) := by decide +kernel
theorem dX4_turned_6 : decode cX4_turned 6 = .ok (.iload_n 2, 1) := by decide +kernel
theorem dX4_turned_7 : decode cX4_turned 7 = .ok (.isub, 1) := by decide +kernel
theorem dX4_turned_8 : decode cX4_turned 8 = .ok (.lushr, 1) := by decide +kernel
theorem dX4_turned_9 : decode cX4_turned 9 = .ok (.lor, 1) := by decide +kernel
theorem dX4_turned_10 : decode cX4_turned 10 = .ok (.lreturn, 1) := by decide +kernel
set_option maxRecDepth 20000 in
theorem ggX4_round_X4_turned : GoodIn wsX4_round wsX4_turned := goodIn_r _ [8] (by decide +kernel) (by decide +kernel)
set_option maxRecDepth 20000 in
theorem gX4_round_X4_turned : GoodIn wsX4_round (va_wsS RX4 70 yX4_turned wsX4_turned) := goodIn_app (goodIn_of _ (by decide +kernel)) ggX4_round_X4_turned
theorem dX4_round_0 : decode cX4_round 0 = .ok (.aload_n 0, 1) := by decide +kernel
theorem dX4_round_1 : decode cX4_round 1 = .ok (.aload_n 0, 1) := by decide +kernel
theorem dX4_round_2 : decode cX4_round 2 = .ok (.getfield 64, 3) := by decide +kernel
theorem dX4_round_5 : decode cX4_round 5 = .ok (.aload_n 0, 1) := by decide +kernel
theorem dX4_round_6 : decode cX4_round 6 = .ok (.getfield 67, 3) := by decide +kernel
theorem dX4_round_9 : decode cX4_round 9 = .ok (.ladd, 1) := by decide +kernel
theorem dX4_round_10 : decode cX4_round 10 = .ok (.putfield 64, 3) := by decide +kernel
theorem dX4_round_13 : decode cX4_round 13 = .ok (.aload_n 0, 1) := by decide +kernel
theorem dX4_round_14 : decode cX4_round 14 = .ok (.aload_n 0, 1) := by decide +kernel
theorem dX4_round_15 : decode cX4_round 15 = .ok (.getfield 67, 3) := by decide +kernel
theorem dX4_round_18 : decode cX4_round 18 = .ok (.bipush 13, 2) := by decide +kernel
theorem dX4_round_20 : decode cX4_round 20 = .ok (.invokestatic 70, 3) := by decide +kernel
theorem dX4_round_23 : decode cX4_round 23 = .ok (.aload_n 0, 1) := by decide +kernel
theorem dX4_round_24 : decode cX4_round 24 = .ok (.getfield 64, 3) := by decide +kernel
theorem dX4_round_27 : decode cX4_round 27 = .ok (.lxor, 1) := by decide +kernel
theorem dX4_round_28 : decode cX4_round 28 = .ok (.putfield 67, 3) := by decide +kernel
theorem dX4_round_31 : decode cX4_round 31 = .ok (.aload_n 0, 1) := by decide +kernel
theorem dX4_round_32 : decode cX4_round 32 = .ok (.aload_n 0, 1) := by decide +kernel
theorem dX4_round_33 : decode cX4_round 33 = .ok (.getfield 64, 3) := by decide +kernel
theorem dX4_round_36 : decode cX4_round 36 = .ok (.bipush 32, 2) := by decide +kernel
theorem dX4_round_38 : decode cX4_round 38 = .ok (.invokestatic 70, 3) := by decide +kernel
theorem dX4_round_41 : decode cX4_round 41 = .ok (.putfield 64, 3) := by decide +kernel
theorem dX4_round_44 : decode cX4_round 44 = .ok (.aload_n 0, 1) := by decide +kernel
theorem dX4_round_45 : decode cX4_round 45 = .ok (.aload_n 0, 1) := by decide +kernel
theorem dX4_round_46 : decode cX4_round 46 = .ok (.getfield 74, 3) := by decide +kernel
theorem dX4_round_49 : decode cX4_round 49 = .ok (.aload_n 0, 1) := by decide +kernel
theorem dX4_round_50 : decode cX4_round 50 = .ok (.getfield 77, 3) := by decide +kernel
theorem dX4_round_53 : decode cX4_round 53 = .ok (.ladd, 1) := by decide +kernel
theorem dX4_round_54 : decode cX4_round 54 = .ok (.putfield 74, 3) := by decide +kernel
theorem dX4_round_57 : decode cX4_round 57 = .ok (.aload_n 0, 1) := by decide +kernel
theorem dX4_round_58 : decode cX4_round 58 = .ok (.aload_n 0, 1) := by decide +kernel
theorem dX4_round_59 : decode cX4_round 59 = .ok (.getfield 77, 3) := by decide +kernel
theorem dX4_round_62 : decode cX4_round 62 = .ok (.bipush 16, 2) := by decide +kernel
theorem dX4_round_64 : decode cX4_round 64 = .ok (.invokestatic 70, 3) := by decide +kernel
theorem dX4_round_67 : decode cX4_round 67 = .ok (.aload_n 0, 1) := by decide +kernel
theorem dX4_round_68 : decode cX4_round 68 = .ok (.getfield 74, 3) := by decide +kernel
theorem dX4_round_71 : decode cX4_round 71 = .ok (.lxor, 1) := by decide +kernel
theorem dX4_round_72 : decode cX4_round 72 = .ok (.putfield 77, 3) := by decide +kernel
theorem dX4_round_75 : decode cX4_round 75 = .ok (.aload_n 0, 1) := by decide +kernel
theorem dX4_round_76 : decode cX4_round 76 = .ok (.aload_n 0, 1) := by decide +kernel
theorem dX4_round_77 : decode cX4_round 77 = .ok (.getfield 64, 3) := by decide +kernel
theorem dX4_round_80 : decode cX4_round 80 = .ok (.aload_n 0, 1) := by decide +kernel
theorem dX4_round_81 : decode cX4_round 81 = .ok (.getfield 77, 3) := by decide +kernel
theorem dX4_round_84 : decode cX4_round 84 = .ok (.ladd, 1) := by decide +kernel
theorem dX4_round_85 : decode cX4_round 85 = .ok (.putfield 64, 3) := by decide +kernel
theorem dX4_round_88 : decode cX4_round 88 = .ok (.aload_n 0, 1) := by decide +kernel
theorem dX4_round_89 : decode cX4_round 89 = .ok (.aload_n 0, 1) := by decide +kernel
theorem dX4_round_90 : decode cX4_round 90 = .ok (.getfield 77, 3) := by decide +kernel
theorem dX4_round_93 : decode cX4_round 93 = .ok (.bipush 21, 2) := by decide +kernel
theorem dX4_round_95 : decode cX4_round 95 = .ok (.invokestatic 70, 3) := by decide +kernel
theorem dX4_round_98 : decode cX4_round 98 = .ok (.aload_n 0, 1) := by decide +kernel
theorem dX4_round_99 : decode cX4_round 99 = .ok (.getfield 64, 3) := by decide +kernel
theorem dX4_round_102 : decode cX4_round 102 = .ok (.lxor, 1) := by decide +kernel
theorem dX4_round_103 : decode cX4_round 103 = .ok (.putfield 77, 3) := by decide +kernel
theorem dX4_round_106 : decode cX4_round 106 = .ok (.aload_n 0, 1) := by decide +kernel
theorem dX4_round_107 : decode cX4_round 107 = .ok (.aload_n 0, 1) := by decide +kernel
theorem dX4_round_108 : decode cX4_round 108 = .ok (.getfield 74, 3) := by decide +kernel
theorem dX4_round_111 : decode cX4_round 111 = .ok (.aload_n 0, 1) := by decide +kernel
theorem dX4_round_112 : decode cX4_round 112 = .ok (.getfield 67, 3) := by decide +kernel
theorem dX4_round_115 : decode cX4_round 115 = .ok (.ladd, 1) := by decide +kernel
theorem dX4_round_116 : decode cX4_round 116 = .ok (.putfield 74, 3) := by decide +kernel
theorem dX4_round_119 : decode cX4_round 119 = .ok (.aload_n 0, 1) := by decide +kernel
theorem dX4_round_120 : decode cX4_round 120 = .ok (.aload_n 0, 1) := by decide +kernel
theorem dX4_round_121 : decode cX4_round 121 = .ok (.getfield 67, 3) := by decide +kernel
theorem dX4_round_124 : decode cX4_round 124 = .ok (.bipush 17, 2) := by decide +kernel
theorem dX4_round_126 : decode cX4_round 126 = .ok (.invokestatic 70, 3) := by decide +kernel
theorem dX4_round_129 : decode cX4_round 129 = .ok (.aload_n 0, 1) := by decide +kernel
theorem dX4_round_130 : decode cX4_round 130 = .ok (.getfield 74, 3) := by decide +kernel
theorem dX4_round_133 : decode cX4_round 133 = .ok (.lxor, 1) := by decide +kernel
theorem dX4_round_134 : decode cX4_round 134 = .ok (.putfield 67, 3) := by decide +kernel
theorem dX4_round_137 : decode cX4_round 137 = .ok (.aload_n 0, 1) := by decide +kernel
theorem dX4_round_138 : decode cX4_round 138 = .ok (.aload_n 0, 1) := by decide +kernel
theorem dX4_round_139 : decode cX4_round 139 = .ok (.getfield 74, 3) := by decide +kernel
theorem dX4_round_142 : decode cX4_round 142 = .ok (.bipush 32, 2) := by decide +kernel
theorem dX4_round_144 : decode cX4_round 144 = .ok (.invokestatic 70, 3) := by decide +kernel
theorem dX4_round_147 : decode cX4_round 147 = .ok (.putfield 74, 3) := by decide +kernel
theorem dX4_round_150 : decode cX4_round 150 = .ok (.return_, 1) := by decide +kernel
set_option maxRecDepth 20000 in
theorem ggX4_take_X4_round : GoodIn wsX4_take wsX4_round := goodIn_r _ [7, 2, 8, 9, 1, 10, 11, 6, 12, 13, 14, 15, 16, 17, 18, 19, 20, 21, 22, 23, 24, 25, 26, 27, 28, 29, 30, 31, 32, 33, 34, 35, 36] (by decide +kernel) (by decide +kernel)
set_option maxRecDepth 20000 in
theorem gX4_take_X4_round : GoodIn wsX4_take (wsV RX4 80 RX4 yX4_round wsX4_round) := goodIn_app (goodIn_of _ (by decide +kernel)) ggX4_take_X4_round
theorem dX4_take_0 : decode cX4_take 0 = .ok (.aload_n 0, 1) := by decide +kernel
theorem dX4_take_1 : decode cX4_take 1 = .ok (.aload_n 0, 1) := by decide +kernel
theorem dX4_take_2 : decode cX4_take 2 = .ok (.getfield 77, 3) := by decide +kernel
theorem dX4_take_5 : decode cX4_take 5 = .ok (.lload_n 1, 1) := by decide +kernel
theorem dX4_take_6 : decode cX4_take 6 = .ok (.lxor, 1) := by decide +kernel
theorem dX4_take_7 : decode cX4_take 7 = .ok (.putfield 77, 3) := by decide +kernel
theorem dX4_take_10 : decode cX4_take 10 = .ok (.aload_n 0, 1) := by decide +kernel
theorem dX4_take_11 : decode cX4_take 11 = .ok (.invokevirtual 80, 3) := by decide +kernel
theorem dX4_take_14 : decode cX4_take 14 = .ok (.aload_n 0, 1) := by decide +kernel
theorem dX4_take_15 : decode cX4_take 15 = .ok (.invokevirtual 80, 3) := by decide +kernel
theorem dX4_take_18 : decode cX4_take 18 = .ok (.aload_n 0, 1) := by decide +kernel
theorem dX4_take_19 : decode cX4_take 19 = .ok (.aload_n 0, 1) := by decide +kernel
theorem dX4_take_20 : decode cX4_take 20 = .ok (.getfield 64, 3) := by decide +kernel
theorem dX4_take_23 : decode cX4_take 23 = .ok (.lload_n 1, 1) := by decide +kernel
theorem dX4_take_24 : decode cX4_take 24 = .ok (.lxor, 1) := by decide +kernel
theorem dX4_take_25 : decode cX4_take 25 = .ok (.putfield 64, 3) := by decide +kernel
theorem dX4_take_28 : decode cX4_take 28 = .ok (.return_, 1) := by decide +kernel
set_option maxRecDepth 20000 in
theorem ggX4_hashOf_X4_take : GoodIn wsX4_hashOf wsX4_take := goodIn_r _ [17, 10, 3, 18, 19, 20, 16, 21, 6, 8, 22, 23, 24, 25, 26, 27, 28, 29, 30, 31, 32, 33, 34, 35, 36, 37, 38, 39, 40, 41, 42, 43, 44, 45, 46, 47, 48] (by decide +kernel) (by decide +kernel)
set_option maxRecDepth 20000 in
theorem gX4_hashOf_X4_take : GoodIn wsX4_hashOf (wsV RX4 91 RX4 yX4_take wsX4_take) := goodIn_app (goodIn_of _ (by decide +kernel)) ggX4_hashOf_X4_take
set_option maxRecDepth 20000 in
theorem ggX4_hashOf_X4_round : GoodIn wsX4_hashOf wsX4_round := goodIn_r _ [21, 3, 6, 8, 10, 22, 23, 16, 24, 25, 26, 27, 28, 29, 30, 31, 32, 33, 34, 35, 36, 37, 38, 39, 40, 41, 42, 43, 44, 45, 46, 47, 48] (by decide +kernel) (by decide +kernel)
set_option maxRecDepth 20000 in
theorem gX4_hashOf_X4_round : GoodIn wsX4_hashOf (wsV RX4 80 RX4 yX4_round wsX4_round) := goodIn_app (goodIn_of _ (by decide +kernel)) ggX4_hashOf_X4_round
theorem dX4_hashOf_0 : decode cX4_hashOf 0 = .ok (.aload_n 0, 1) := by decide +kernel
theorem dX4_hashOf_1 : decode cX4_hashOf 1 = .ok (.aload_n 0, 1) := by decide +kernel
theorem dX4_hashOf_2 : decode cX4_hashOf 2 = .ok (.getfield 57, 3) := by decide +kernel
theorem dX4_hashOf_5 : decode cX4_hashOf 5 = .ok (.ldc2_w 83, 3) := by decide +kernel
theorem dX4_hashOf_8 : decode cX4_hashOf 8 = .ok (.lxor, 1) := by decide +kernel
theorem dX4_hashOf_9 : decode cX4_hashOf 9 = .ok (.putfield 64, 3) := by decide +kernel
theorem dX4_hashOf_12 : decode cX4_hashOf 12 = .ok (.aload_n 0, 1) := by decide +kernel
theorem dX4_hashOf_13 : decode cX4_hashOf 13 = .ok (.aload_n 0, 1) := by decide +kernel
theorem dX4_hashOf_14 : decode cX4_hashOf 14 = .ok (.getfield 61, 3) := by decide +kernel
theorem dX4_hashOf_17 : decode cX4_hashOf 17 = .ok (.ldc2_w 85, 3) := by decide +kernel
theorem dX4_hashOf_20 : decode cX4_hashOf 20 = .ok (.lxor, 1) := by decide +kernel
theorem dX4_hashOf_21 : decode cX4_hashOf 21 = .ok (.putfield 67, 3) := by decide +kernel
theorem dX4_hashOf_24 : decode cX4_hashOf 24 = .ok (.aload_n 0, 1) := by decide +kernel
theorem dX4_hashOf_25 : decode cX4_hashOf 25 = .ok (.aload_n 0, 1) := by decide +kernel
theorem dX4_hashOf_26 : decode cX4_hashOf 26 = .ok (.getfield 57, 3) := by decide +kernel
theorem dX4_hashOf_29 : decode cX4_hashOf 29 = .ok (.ldc2_w 87, 3) := by decide +kernel
theorem dX4_hashOf_32 : decode cX4_hashOf 32 = .ok (.lxor, 1) := by decide +kernel
theorem dX4_hashOf_33 : decode cX4_hashOf 33 = .ok (.putfield 74, 3) := by decide +kernel
theorem dX4_hashOf_36 : decode cX4_hashOf 36 = .ok (.aload_n 0, 1) := by decide +kernel
theorem dX4_hashOf_37 : decode cX4_hashOf 37 = .ok (.aload_n 0, 1) := by decide +kernel
theorem dX4_hashOf_38 : decode cX4_hashOf 38 = .ok (.getfield 61, 3) := by decide +kernel
theorem dX4_hashOf_41 : decode cX4_hashOf 41 = .ok (.ldc2_w 89, 3) := by decide +kernel
theorem dX4_hashOf_44 : decode cX4_hashOf 44 = .ok (.lxor, 1) := by decide +kernel
theorem dX4_hashOf_45 : decode cX4_hashOf 45 = .ok (.putfield 77, 3) := by decide +kernel
theorem dX4_hashOf_48 : decode cX4_hashOf 48 = .ok (.aload_n 0, 1) := by decide +kernel
theorem dX4_hashOf_49 : decode cX4_hashOf 49 = .ok (.lload_n 1, 1) := by decide +kernel
theorem dX4_hashOf_50 : decode cX4_hashOf 50 = .ok (.invokevirtual 91, 3) := by decide +kernel
theorem dX4_hashOf_53 : decode cX4_hashOf 53 = .ok (.aload_n 0, 1) := by decide +kernel
theorem dX4_hashOf_54 : decode cX4_hashOf 54 = .ok (.lload_n 3, 1) := by decide +kernel
theorem dX4_hashOf_55 : decode cX4_hashOf 55 = .ok (.invokevirtual 91, 3) := by decide +kernel
theorem dX4_hashOf_58 : decode cX4_hashOf 58 = .ok (.aload_n 0, 1) := by decide +kernel
theorem dX4_hashOf_59 : decode cX4_hashOf 59 = .ok (.ldc2_w 95, 3) := by decide +kernel
theorem dX4_hashOf_62 : decode cX4_hashOf 62 = .ok (.invokevirtual 91, 3) := by decide +kernel
theorem dX4_hashOf_65 : decode cX4_hashOf 65 = .ok (.aload_n 0, 1) := by decide +kernel
theorem dX4_hashOf_66 : decode cX4_hashOf 66 = .ok (.aload_n 0, 1) := by decide +kernel
theorem dX4_hashOf_67 : decode cX4_hashOf 67 = .ok (.getfield 74, 3) := by decide +kernel
theorem dX4_hashOf_70 : decode cX4_hashOf 70 = .ok (.ldc2_w 97, 3) := by decide +kernel
theorem dX4_hashOf_73 : decode cX4_hashOf 73 = .ok (.lxor, 1) := by decide +kernel
theorem dX4_hashOf_74 : decode cX4_hashOf 74 = .ok (.putfield 74, 3) := by decide +kernel
theorem dX4_hashOf_77 : decode cX4_hashOf 77 = .ok (.iconst 0, 1) := by decide +kernel
theorem dX4_hashOf_78 : decode cX4_hashOf 78 = .ok (.istore 5, 2) := by decide +kernel
theorem dX4_hashOf_80 : decode cX4_hashOf 80 = .ok (.iload 5, 2) := by decide +kernel
theorem dX4_hashOf_82 : decode cX4_hashOf 82 = .ok (.iconst 4, 1) := by decide +kernel
theorem dX4_hashOf_83 : decode cX4_hashOf 83 = .ok (.if_icmp .ge 13, 3) := by decide +kernel
theorem dX4_hashOf_86 : decode cX4_hashOf 86 = .ok (.aload_n 0, 1) := by decide +kernel
theorem dX4_hashOf_87 : decode cX4_hashOf 87 = .ok (.invokevirtual 80, 3) := by decide +kernel
theorem dX4_hashOf_90 : decode cX4_hashOf 90 = .ok (.iinc 5 1, 3) := by decide +kernel
theorem dX4_hashOf_93 : decode cX4_hashOf 93 = .ok (.goto (-13), 3) := by decide +kernel
theorem dX4_hashOf_96 : decode cX4_hashOf 96 = .ok (.aload_n 0, 1) := by decide +kernel
theorem dX4_hashOf_97 : decode cX4_hashOf 97 = .ok (.getfield 64, 3) := by decide +kernel
theorem dX4_hashOf_100 : decode cX4_hashOf 100 = .ok (.aload_n 0, 1) := by decide +kernel
theorem dX4_hashOf_101 : decode cX4_hashOf 101 = .ok (.getfield 67, 3) := by decide +kernel
theorem dX4_hashOf_104 : decode cX4_hashOf 104 = .ok (.lxor, 1) := by decide +kernel
theorem dX4_hashOf_105 : decode cX4_hashOf 105 = .ok (.aload_n 0, 1) := by decide +kernel
theorem dX4_hashOf_106 : decode cX4_hashOf 106 = .ok (.getfield 74, 3) := by decide +kernel
theorem dX4_hashOf_109 : decode cX4_hashOf 109 = .ok (.lxor, 1) := by decide +kernel
theorem dX4_hashOf_110 : decode cX4_hashOf 110 = .ok (.aload_n 0, 1) := by decide +kernel
theorem dX4_hashOf_111 : decode cX4_hashOf 111 = .ok (.getfield 77, 3) := by decide +kernel
theorem dX4_hashOf_114 : decode cX4_hashOf 114 = .ok (.lxor, 1) := by decide +kernel
theorem dX4_hashOf_115 : decode cX4_hashOf 115 = .ok (.lreturn, 1) := by decide +kernel
set_option maxRecDepth 20000 in
theorem ggX4_hash_X4_hashOf : GoodIn wsX4_hash wsX4_hashOf := goodIn_r _ [6, 7, 8, 9, 10, 11, 12, 13, 14, 15, 16, 17, 18, 19, 20, 21, 5, 22, 23, 24, 25, 26, 27, 28, 29, 30, 31, 32, 33, 34, 35, 36, 37, 38, 39, 40, 41, 42, 43, 44, 45, 46, 47, 48, 49, 50, 51, 52, 53] (by decide +kernel) (by decide +kernel)
set_option maxRecDepth 20000 in
theorem gX4_hash_X4_hashOf : GoodIn wsX4_hash (wsV RX4 99 RX4 yX4_hashOf wsX4_hashOf) := goodIn_app (goodIn_of _ (by decide +kernel)) ggX4_hash_X4_hashOf
theorem dX4_hash_0 : decode cX4_hash 0 = .ok (.aload_n 0, 1) := by decide +kernel
theorem dX4_hash_1 : decode cX4_hash 1 = .ok (.iconst 0, 1) := by decide +kernel
theorem dX4_hash_2 : decode cX4_hash 2 = .ok (.putfield 54, 3) := by decide +kernel
theorem dX4_hash_5 : decode cX4_hash 5 = .ok (.aload_n 0, 1) := by decide +kernel
theorem dX4_hash_6 : decode cX4_hash 6 = .ok (.lload_n 1, 1) := by decide +kernel
theorem dX4_hash_7 : decode cX4_hash 7 = .ok (.lload_n 3, 1) := by decide +kernel
theorem dX4_hash_8 : decode cX4_hash 8 = .ok (.invokevirtual 99, 3) := by decide +kernel
theorem dX4_hash_11 : decode cX4_hash 11 = .ok (.lreturn, 1) := by decide +kernel
set_option maxRecDepth 20000 in
theorem ggX4_cookieOf_X4_hashOf : GoodIn wsX4_cookieOf wsX4_hashOf := goodIn_r _ [9, 10, 11, 12, 13, 14, 15, 16, 17, 18, 19, 20, 21, 22, 23, 24, 8, 25, 26, 27, 28, 29, 30, 31, 32, 33, 34, 35, 36, 37, 38, 39, 40, 41, 42, 43, 44, 45, 46, 47, 48, 49, 50, 51, 52, 53, 54, 55, 56] (by decide +kernel) (by decide +kernel)
set_option maxRecDepth 20000 in
theorem gX4_cookieOf_X4_hashOf : GoodIn wsX4_cookieOf (wsV RX4 99 RX4 yX4_hashOf wsX4_hashOf) := goodIn_app (goodIn_of _ (by decide +kernel)) ggX4_cookieOf_X4_hashOf
theorem dX4_cookieOf_0 : decode cX4_cookieOf 0 = .ok (.iload_n 1, 1) := by decide +kernel
theorem dX4_cookieOf_1 : decode cX4_cookieOf 1 = .ok (.i2l, 1) := by decide +kernel
theorem dX4_cookieOf_2 : decode cX4_cookieOf 2 = .ok (.bipush 32, 2) := by decide +kernel
theorem dX4_cookieOf_4 : decode cX4_cookieOf 4 = .ok (.lshl, 1) := by decide +kernel
theorem dX4_cookieOf_5 : decode cX4_cookieOf 5 = .ok (.iload_n 3, 1) := by decide +kernel
theorem dX4_cookieOf_6 : decode cX4_cookieOf 6 = .ok (.i2l, 1) := by decide +kernel
theorem dX4_cookieOf_7 : decode cX4_cookieOf 7 = .ok (.ldc2_w 103, 3) := by decide +kernel
theorem dX4_cookieOf_10 : decode cX4_cookieOf 10 = .ok (.land, 1) := by decide +kernel
theorem dX4_cookieOf_11 : decode cX4_cookieOf 11 = .ok (.lor, 1) := by decide +kernel
theorem dX4_cookieOf_12 : decode cX4_cookieOf 12 = .ok (.lstore 6, 2) := by decide +kernel
theorem dX4_cookieOf_14 : decode cX4_cookieOf 14 = .ok (.iload_n 2, 1) := by decide +kernel
theorem dX4_cookieOf_15 : decode cX4_cookieOf 15 = .ok (.i2l, 1) := by decide +kernel
theorem dX4_cookieOf_16 : decode cX4_cookieOf 16 = .ok (.ldc2_w 105, 3) := by decide +kernel
theorem dX4_cookieOf_19 : decode cX4_cookieOf 19 = .ok (.iload 4, 2) := by decide +kernel
theorem dX4_cookieOf_21 : decode cX4_cookieOf 21 = .ok (.i2l, 1) := by decide +kernel
theorem dX4_cookieOf_22 : decode cX4_cookieOf 22 = .ok (.lmul, 1) := by decide +kernel
theorem dX4_cookieOf_23 : decode cX4_cookieOf 23 = .ok (.ladd, 1) := by decide +kernel
theorem dX4_cookieOf_24 : decode cX4_cookieOf 24 = .ok (.ldc2_w 107, 3) := by decide +kernel
theorem dX4_cookieOf_27 : decode cX4_cookieOf 27 = .ok (.iload 5, 2) := by decide +kernel
theorem dX4_cookieOf_29 : decode cX4_cookieOf 29 = .ok (.i2l, 1) := by decide +kernel
theorem dX4_cookieOf_30 : decode cX4_cookieOf 30 = .ok (.lmul, 1) := by decide +kernel
theorem dX4_cookieOf_31 : decode cX4_cookieOf 31 = .ok (.ladd, 1) := by decide +kernel
theorem dX4_cookieOf_32 : decode cX4_cookieOf 32 = .ok (.lstore 8, 2) := by decide +kernel
theorem dX4_cookieOf_34 : decode cX4_cookieOf 34 = .ok (.aload_n 0, 1) := by decide +kernel
theorem dX4_cookieOf_35 : decode cX4_cookieOf 35 = .ok (.lload 6, 2) := by decide +kernel
theorem dX4_cookieOf_37 : decode cX4_cookieOf 37 = .ok (.lload 8, 2) := by decide +kernel
theorem dX4_cookieOf_39 : decode cX4_cookieOf 39 = .ok (.invokevirtual 99, 3) := by decide +kernel
theorem dX4_cookieOf_42 : decode cX4_cookieOf 42 = .ok (.ldc2_w 109, 3) := by decide +kernel
theorem dX4_cookieOf_45 : decode cX4_cookieOf 45 = .ok (.land, 1) := by decide +kernel
theorem dX4_cookieOf_46 : decode cX4_cookieOf 46 = .ok (.l2i, 1) := by decide +kernel
theorem dX4_cookieOf_47 : decode cX4_cookieOf 47 = .ok (.istore 10, 2) := by decide +kernel
theorem dX4_cookieOf_49 : decode cX4_cookieOf 49 = .ok (.iload 5, 2) := by decide +kernel
theorem dX4_cookieOf_51 : decode cX4_cookieOf 51 = .ok (.bipush 32, 2) := by decide +kernel
theorem dX4_cookieOf_53 : decode cX4_cookieOf 53 = .ok (.irem, 1) := by decide +kernel
theorem dX4_cookieOf_54 : decode cX4_cookieOf 54 = .ok (.bipush 27, 2) := by decide +kernel
theorem dX4_cookieOf_56 : decode cX4_cookieOf 56 = .ok (.ishl, 1) := by decide +kernel
theorem dX4_cookieOf_57 : decode cX4_cookieOf 57 = .ok (.iload 4, 2) := by decide +kernel
theorem dX4_cookieOf_59 : decode cX4_cookieOf 59 = .ok (.bipush 24, 2) := by decide +kernel
theorem dX4_cookieOf_61 : decode cX4_cookieOf 61 = .ok (.ishl, 1) := by decide +kernel
theorem dX4_cookieOf_62 : decode cX4_cookieOf 62 = .ok (.ior, 1) := by decide +kernel
theorem dX4_cookieOf_63 : decode cX4_cookieOf 63 = .ok (.iload 10, 2) := by decide +kernel
theorem dX4_cookieOf_65 : decode cX4_cookieOf 65 = .ok (.ior, 1) := by decide +kernel
theorem dX4_cookieOf_66 : decode cX4_cookieOf 66 = .ok (.ireturn, 1) := by decide +kernel
theorem dX4_noPort_0 : decode cX4_noPort 0 = .ok (.iload_n 0, 1) := by decide +kernel
theorem dX4_noPort_1 : decode cX4_noPort 1 = .ok (.ifCond .lt 9, 3) := by decide +kernel
theorem dX4_noPort_4 : decode cX4_noPort 4 = .ok (.iload_n 0, 1) := by decide +kernel
theorem dX4_noPort_5 : decode cX4_noPort 5 = .ok (.ldc 111, 2) := by decide +kernel
theorem dX4_noPort_7 : decode cX4_noPort 7 = .ok (.if_icmp .le 7, 3) := by decide +kernel
theorem dX4_noPort_10 : decode cX4_noPort 10 = .ok (.iconst 1, 1) := by decide +kernel
theorem dX4_noPort_11 : decode cX4_noPort 11 = .ok (.goto 4, 3) := by decide +kernel
theorem dX4_noPort_14 : decode cX4_noPort 14 = .ok (.iconst 0, 1) := by decide +kernel
theorem dX4_noPort_15 : decode cX4_noPort 15 = .ok (.ireturn, 1) := by decide +kernel
set_option maxRecDepth 20000 in
theorem ggX4_cookie_X4_noPort : GoodIn wsX4_cookie wsX4_noPort := goodIn_r _ [6, 7] (by decide +kernel) (by decide +kernel)
set_option maxRecDepth 20000 in
theorem gX4_cookie_X4_noPort : GoodIn wsX4_cookie (va_wsS RX4 112 yX4_noPort wsX4_noPort) := goodIn_app (goodIn_of _ (by decide +kernel)) ggX4_cookie_X4_noPort
set_option maxRecDepth 20000 in
theorem ggX4_cookie_X4_cookieOf : GoodIn wsX4_cookie wsX4_cookieOf := goodIn_r _ [11, 2, 12, 13, 14, 15, 16, 17, 5, 18, 19, 20, 21, 22, 23, 24, 25, 26, 27, 28, 29, 30, 31, 32, 33, 34, 35, 36, 37, 38, 39, 40, 41, 42, 43, 44, 45, 46, 47, 48, 49, 50, 51, 52, 53, 54, 55, 56, 57, 58, 59, 60, 61, 62, 63, 64, 65] (by decide +kernel) (by decide +kernel)
set_option maxRecDepth 20000 in
theorem gX4_cookie_X4_cookieOf : GoodIn wsX4_cookie (wsV RX4 116 RX4 yX4_cookieOf wsX4_cookieOf) := goodIn_app (goodIn_of _ (by decide +kernel)) ggX4_cookie_X4_cookieOf
theorem dX4_cookie_0 : decode cX4_cookie 0 = .ok (.aload_n 0, 1) := by decide +kernel
theorem dX4_cookie_1 : decode cX4_cookie 1 = .ok (.iload_n 2, 1) := by decide +kernel
theorem dX4_cookie_2 : decode cX4_cookie 2 = .ok (.invokestatic 112, 3) := by decide +kernel
theorem dX4_cookie_5 : decode cX4_cookie 5 = .ok (.ifCond .ne 20, 3) := by decide +kernel
theorem dX4_cookie_8 : decode cX4_cookie 8 = .ok (.iload 4, 2) := by decide +kernel
theorem dX4_cookie_10 : decode cX4_cookie 10 = .ok (.ifCond .lt 15, 3) := by decide +kernel
theorem dX4_cookie_13 : decode cX4_cookie 13 = .ok (.iload 4, 2) := by decide +kernel
theorem dX4_cookie_15 : decode cX4_cookie 15 = .ok (.bipush 7, 2) := by decide +kernel
theorem dX4_cookie_17 : decode cX4_cookie 17 = .ok (.if_icmp .gt 8, 3) := by decide +kernel
theorem dX4_cookie_20 : decode cX4_cookie 20 = .ok (.iload 5, 2) := by decide +kernel
theorem dX4_cookie_22 : decode cX4_cookie 22 = .ok (.ifCond .ge 7, 3) := by decide +kernel
theorem dX4_cookie_25 : decode cX4_cookie 25 = .ok (.iconst 1, 1) := by decide +kernel
theorem dX4_cookie_26 : decode cX4_cookie 26 = .ok (.goto 4, 3) := by decide +kernel
theorem dX4_cookie_29 : decode cX4_cookie 29 = .ok (.iconst 0, 1) := by decide +kernel
theorem dX4_cookie_30 : decode cX4_cookie 30 = .ok (.putfield 54, 3) := by decide +kernel
theorem dX4_cookie_33 : decode cX4_cookie 33 = .ok (.aload_n 0, 1) := by decide +kernel
theorem dX4_cookie_34 : decode cX4_cookie 34 = .ok (.getfield 54, 3) := by decide +kernel
theorem dX4_cookie_37 : decode cX4_cookie 37 = .ok (.ifCond .le 7, 3) := by decide +kernel
theorem dX4_cookie_40 : decode cX4_cookie 40 = .ok (.lconst 0, 1) := by decide +kernel
theorem dX4_cookie_41 : decode cX4_cookie 41 = .ok (.goto 19, 3) := by decide +kernel
theorem dX4_cookie_44 : decode cX4_cookie 44 = .ok (.aload_n 0, 1) := by decide +kernel
theorem dX4_cookie_45 : decode cX4_cookie 45 = .ok (.iload_n 1, 1) := by decide +kernel
theorem dX4_cookie_46 : decode cX4_cookie 46 = .ok (.iload_n 2, 1) := by decide +kernel
theorem dX4_cookie_47 : decode cX4_cookie 47 = .ok (.iload_n 3, 1) := by decide +kernel
theorem dX4_cookie_48 : decode cX4_cookie 48 = .ok (.iload 4, 2) := by decide +kernel
theorem dX4_cookie_50 : decode cX4_cookie 50 = .ok (.iload 5, 2) := by decide +kernel
theorem dX4_cookie_52 : decode cX4_cookie 52 = .ok (.invokevirtual 116, 3) := by decide +kernel
theorem dX4_cookie_55 : decode cX4_cookie 55 = .ok (.i2l, 1) := by decide +kernel
theorem dX4_cookie_56 : decode cX4_cookie 56 = .ok (.ldc2_w 103, 3) := by decide +kernel
theorem dX4_cookie_59 : decode cX4_cookie 59 = .ok (.land, 1) := by decide +kernel
theorem dX4_cookie_60 : decode cX4_cookie 60 = .ok (.lreturn, 1) := by decide +kernel
theorem dX4_half_0 : decode cX4_half 0 = .ok (.iconst 0, 1) := by decide +kernel
theorem dX4_half_1 : decode cX4_half 1 = .ok (.istore_n 3, 1) := by decide +kernel
theorem dX4_half_2 : decode cX4_half 2 = .ok (.iload_n 3, 1) := by decide +kernel
theorem dX4_half_3 : decode cX4_half 3 = .ok (.aload_n 0, 1) := by decide +kernel
theorem dX4_half_4 : decode cX4_half 4 = .ok (.getfield 120, 3) := by decide +kernel
theorem dX4_half_7 : decode cX4_half 7 = .ok (.if_icmp .ge 31, 3) := by decide +kernel
theorem dX4_half_10 : decode cX4_half 10 = .ok (.aload_n 0, 1) := by decide +kernel
theorem dX4_half_11 : decode cX4_half 11 = .ok (.getfield 19, 3) := by decide +kernel
theorem dX4_half_14 : decode cX4_half 14 = .ok (.iload_n 3, 1) := by decide +kernel
theorem dX4_half_15 : decode cX4_half 15 = .ok (.iaload, 1) := by decide +kernel
theorem dX4_half_16 : decode cX4_half 16 = .ok (.iload_n 1, 1) := by decide +kernel
theorem dX4_half_17 : decode cX4_half 17 = .ok (.if_icmp .ne 15, 3) := by decide +kernel
theorem dX4_half_20 : decode cX4_half 20 = .ok (.aload_n 0, 1) := by decide +kernel
theorem dX4_half_21 : decode cX4_half 21 = .ok (.getfield 23, 3) := by decide +kernel
theorem dX4_half_24 : decode cX4_half 24 = .ok (.iload_n 3, 1) := by decide +kernel
theorem dX4_half_25 : decode cX4_half 25 = .ok (.iaload, 1) := by decide +kernel
theorem dX4_half_26 : decode cX4_half 26 = .ok (.iload_n 2, 1) := by decide +kernel
theorem dX4_half_27 : decode cX4_half 27 = .ok (.if_icmp .ne 5, 3) := by decide +kernel
theorem dX4_half_30 : decode cX4_half 30 = .ok (.iload_n 3, 1) := by decide +kernel
theorem dX4_half_31 : decode cX4_half 31 = .ok (.ireturn, 1) := by decide +kernel
theorem dX4_half_32 : decode cX4_half 32 = .ok (.iinc 3 1, 3) := by decide +kernel
theorem dX4_half_35 : decode cX4_half 35 = .ok (.goto (-33), 3) := by decide +kernel
theorem dX4_half_38 : decode cX4_half 38 = .ok (.iconst (-1), 1) := by decide +kernel
theorem dX4_half_39 : decode cX4_half 39 = .ok (.ireturn, 1) := by decide +kernel
theorem dX4_opened_0 : decode cX4_opened 0 = .ok (.iconst 0, 1) := by decide +kernel
theorem dX4_opened_1 : decode cX4_opened 1 = .ok (.istore_n 3, 1) := by decide +kernel
theorem dX4_opened_2 : decode cX4_opened 2 = .ok (.iload_n 3, 1) := by decide +kernel
theorem dX4_opened_3 : decode cX4_opened 3 = .ok (.aload_n 0, 1) := by decide +kernel
theorem dX4_opened_4 : decode cX4_opened 4 = .ok (.getfield 123, 3) := by decide +kernel
theorem dX4_opened_7 : decode cX4_opened 7 = .ok (.if_icmp .ge 31, 3) := by decide +kernel
theorem dX4_opened_10 : decode cX4_opened 10 = .ok (.aload_n 0, 1) := by decide +kernel
theorem dX4_opened_11 : decode cX4_opened 11 = .ok (.getfield 38, 3) := by decide +kernel
theorem dX4_opened_14 : decode cX4_opened 14 = .ok (.iload_n 3, 1) := by decide +kernel
theorem dX4_opened_15 : decode cX4_opened 15 = .ok (.iaload, 1) := by decide +kernel
theorem dX4_opened_16 : decode cX4_opened 16 = .ok (.iload_n 1, 1) := by decide +kernel
theorem dX4_opened_17 : decode cX4_opened 17 = .ok (.if_icmp .ne 15, 3) := by decide +kernel
theorem dX4_opened_20 : decode cX4_opened 20 = .ok (.aload_n 0, 1) := by decide +kernel
theorem dX4_opened_21 : decode cX4_opened 21 = .ok (.getfield 41, 3) := by decide +kernel
theorem dX4_opened_24 : decode cX4_opened 24 = .ok (.iload_n 3, 1) := by decide +kernel
theorem dX4_opened_25 : decode cX4_opened 25 = .ok (.iaload, 1) := by decide +kernel
theorem dX4_opened_26 : decode cX4_opened 26 = .ok (.iload_n 2, 1) := by decide +kernel
theorem dX4_opened_27 : decode cX4_opened 27 = .ok (.if_icmp .ne 5, 3) := by decide +kernel
theorem dX4_opened_30 : decode cX4_opened 30 = .ok (.iload_n 3, 1) := by decide +kernel
theorem dX4_opened_31 : decode cX4_opened 31 = .ok (.ireturn, 1) := by decide +kernel
theorem dX4_opened_32 : decode cX4_opened 32 = .ok (.iinc 3 1, 3) := by decide +kernel
theorem dX4_opened_35 : decode cX4_opened 35 = .ok (.goto (-33), 3) := by decide +kernel
theorem dX4_opened_38 : decode cX4_opened 38 = .ok (.iconst (-1), 1) := by decide +kernel
theorem dX4_opened_39 : decode cX4_opened 39 = .ok (.ireturn, 1) := by decide +kernel
theorem dX4_dropHalf_0 : decode cX4_dropHalf 0 = .ok (.aload_n 0, 1) := by decide +kernel
theorem dX4_dropHalf_1 : decode cX4_dropHalf 1 = .ok (.dup, 1) := by decide +kernel
theorem dX4_dropHalf_2 : decode cX4_dropHalf 2 = .ok (.getfield 120, 3) := by decide +kernel
theorem dX4_dropHalf_5 : decode cX4_dropHalf 5 = .ok (.iconst 1, 1) := by decide +kernel
theorem dX4_dropHalf_6 : decode cX4_dropHalf 6 = .ok (.isub, 1) := by decide +kernel
theorem dX4_dropHalf_7 : decode cX4_dropHalf 7 = .ok (.putfield 120, 3) := by decide +kernel
theorem dX4_dropHalf_10 : decode cX4_dropHalf 10 = .ok (.iload_n 1, 1) := by decide +kernel
theorem dX4_dropHalf_11 : decode cX4_dropHalf 11 = .ok (.istore_n 2, 1) := by decide +kernel
theorem dX4_dropHalf_12 : decode cX4_dropHalf 12 = .ok (.iload_n 2, 1) := by decide +kernel
theorem dX4_dropHalf_13 : decode cX4_dropHalf 13 = .ok (.aload_n 0, 1) := by decide +kernel
theorem dX4_dropHalf_14 : decode cX4_dropHalf 14 = .ok (.getfield 120, 3) := by decide +kernel
theorem dX4_dropHalf_17 : decode cX4_dropHalf 17 = .ok (.if_icmp .ge 93, 3) := by decide +kernel
theorem dX4_dropHalf_20 : decode cX4_dropHalf 20 = .ok (.aload_n 0, 1) := by decide +kernel
theorem dX4_dropHalf_21 : decode cX4_dropHalf 21 = .ok (.getfield 19, 3) := by decide +kernel
theorem dX4_dropHalf_24 : decode cX4_dropHalf 24 = .ok (.iload_n 2, 1) := by decide +kernel
theorem dX4_dropHalf_25 : decode cX4_dropHalf 25 = .ok (.aload_n 0, 1) := by decide +kernel
theorem dX4_dropHalf_26 : decode cX4_dropHalf 26 = .ok (.getfield 19, 3) := by decide +kernel
theorem dX4_dropHalf_29 : decode cX4_dropHalf 29 = .ok (.iload_n 2, 1) := by decide +kernel
theorem dX4_dropHalf_30 : decode cX4_dropHalf 30 = .ok (.iconst 1, 1) := by decide +kernel
theorem dX4_dropHalf_31 : decode cX4_dropHalf 31 = .ok (.iadd, 1) := by decide +kernel
theorem dX4_dropHalf_32 : decode cX4_dropHalf 32 = .ok (.iaload, 1) := by decide +kernel
theorem dX4_dropHalf_33 : decode cX4_dropHalf 33 = .ok (.iastore, 1) := by decide +kernel
theorem dX4_dropHalf_34 : decode cX4_dropHalf 34 = .ok (.aload_n 0, 1) := by decide +kernel
theorem dX4_dropHalf_35 : decode cX4_dropHalf 35 = .ok (.getfield 23, 3) := by decide +kernel
theorem dX4_dropHalf_38 : decode cX4_dropHalf 38 = .ok (.iload_n 2, 1) := by decide +kernel
theorem dX4_dropHalf_39 : decode cX4_dropHalf 39 = .ok (.aload_n 0, 1) := by decide +kernel
theorem dX4_dropHalf_40 : decode cX4_dropHalf 40 = .ok (.getfield 23, 3) := by decide +kernel
theorem dX4_dropHalf_43 : decode cX4_dropHalf 43 = .ok (.iload_n 2, 1) := by decide +kernel
theorem dX4_dropHalf_44 : decode cX4_dropHalf 44 = .ok (.iconst 1, 1) := by decide +kernel
theorem dX4_dropHalf_45 : decode cX4_dropHalf 45 = .ok (.iadd, 1) := by decide +kernel
theorem dX4_dropHalf_46 : decode cX4_dropHalf 46 = .ok (.iaload, 1) := by decide +kernel
theorem dX4_dropHalf_47 : decode cX4_dropHalf 47 = .ok (.iastore, 1) := by decide +kernel
theorem dX4_dropHalf_48 : decode cX4_dropHalf 48 = .ok (.aload_n 0, 1) := by decide +kernel
theorem dX4_dropHalf_49 : decode cX4_dropHalf 49 = .ok (.getfield 26, 3) := by decide +kernel
theorem dX4_dropHalf_52 : decode cX4_dropHalf 52 = .ok (.iload_n 2, 1) := by decide +kernel
theorem dX4_dropHalf_53 : decode cX4_dropHalf 53 = .ok (.aload_n 0, 1) := by decide +kernel
theorem dX4_dropHalf_54 : decode cX4_dropHalf 54 = .ok (.getfield 26, 3) := by decide +kernel
theorem dX4_dropHalf_57 : decode cX4_dropHalf 57 = .ok (.iload_n 2, 1) := by decide +kernel
theorem dX4_dropHalf_58 : decode cX4_dropHalf 58 = .ok (.iconst 1, 1) := by decide +kernel
theorem dX4_dropHalf_59 : decode cX4_dropHalf 59 = .ok (.iadd, 1) := by decide +kernel
theorem dX4_dropHalf_60 : decode cX4_dropHalf 60 = .ok (.iaload, 1) := by decide +kernel
theorem dX4_dropHalf_61 : decode cX4_dropHalf 61 = .ok (.iastore, 1) := by decide +kernel
theorem dX4_dropHalf_62 : decode cX4_dropHalf 62 = .ok (.aload_n 0, 1) := by decide +kernel
theorem dX4_dropHalf_63 : decode cX4_dropHalf 63 = .ok (.getfield 29, 3) := by decide +kernel
theorem dX4_dropHalf_66 : decode cX4_dropHalf 66 = .ok (.iload_n 2, 1) := by decide +kernel
theorem dX4_dropHalf_67 : decode cX4_dropHalf 67 = .ok (.aload_n 0, 1) := by decide +kernel
theorem dX4_dropHalf_68 : decode cX4_dropHalf 68 = .ok (.getfield 29, 3) := by decide +kernel
theorem dX4_dropHalf_71 : decode cX4_dropHalf 71 = .ok (.iload_n 2, 1) := by decide +kernel
theorem dX4_dropHalf_72 : decode cX4_dropHalf 72 = .ok (.iconst 1, 1) := by decide +kernel
theorem dX4_dropHalf_73 : decode cX4_dropHalf 73 = .ok (.iadd, 1) := by decide +kernel
theorem dX4_dropHalf_74 : decode cX4_dropHalf 74 = .ok (.iaload, 1) := by decide +kernel
theorem dX4_dropHalf_75 : decode cX4_dropHalf 75 = .ok (.iastore, 1) := by decide +kernel
theorem dX4_dropHalf_76 : decode cX4_dropHalf 76 = .ok (.aload_n 0, 1) := by decide +kernel
theorem dX4_dropHalf_77 : decode cX4_dropHalf 77 = .ok (.getfield 32, 3) := by decide +kernel
theorem dX4_dropHalf_80 : decode cX4_dropHalf 80 = .ok (.iload_n 2, 1) := by decide +kernel
theorem dX4_dropHalf_81 : decode cX4_dropHalf 81 = .ok (.aload_n 0, 1) := by decide +kernel
theorem dX4_dropHalf_82 : decode cX4_dropHalf 82 = .ok (.getfield 32, 3) := by decide +kernel
theorem dX4_dropHalf_85 : decode cX4_dropHalf 85 = .ok (.iload_n 2, 1) := by decide +kernel
theorem dX4_dropHalf_86 : decode cX4_dropHalf 86 = .ok (.iconst 1, 1) := by decide +kernel
theorem dX4_dropHalf_87 : decode cX4_dropHalf 87 = .ok (.iadd, 1) := by decide +kernel
theorem dX4_dropHalf_88 : decode cX4_dropHalf 88 = .ok (.iaload, 1) := by decide +kernel
theorem dX4_dropHalf_89 : decode cX4_dropHalf 89 = .ok (.iastore, 1) := by decide +kernel
theorem dX4_dropHalf_90 : decode cX4_dropHalf 90 = .ok (.aload_n 0, 1) := by decide +kernel
theorem dX4_dropHalf_91 : decode cX4_dropHalf 91 = .ok (.getfield 35, 3) := by decide +kernel
theorem dX4_dropHalf_94 : decode cX4_dropHalf 94 = .ok (.iload_n 2, 1) := by decide +kernel
theorem dX4_dropHalf_95 : decode cX4_dropHalf 95 = .ok (.aload_n 0, 1) := by decide +kernel
theorem dX4_dropHalf_96 : decode cX4_dropHalf 96 = .ok (.getfield 35, 3) := by decide +kernel
theorem dX4_dropHalf_99 : decode cX4_dropHalf 99 = .ok (.iload_n 2, 1) := by decide +kernel
theorem dX4_dropHalf_100 : decode cX4_dropHalf 100 = .ok (.iconst 1, 1) := by decide +kernel
theorem dX4_dropHalf_101 : decode cX4_dropHalf 101 = .ok (.iadd, 1) := by decide +kernel
theorem dX4_dropHalf_102 : decode cX4_dropHalf 102 = .ok (.iaload, 1) := by decide +kernel
theorem dX4_dropHalf_103 : decode cX4_dropHalf 103 = .ok (.iastore, 1) := by decide +kernel
theorem dX4_dropHalf_104 : decode cX4_dropHalf 104 = .ok (.iinc 2 1, 3) := by decide +kernel
theorem dX4_dropHalf_107 : decode cX4_dropHalf 107 = .ok (.goto (-95), 3) := by decide +kernel
theorem dX4_dropHalf_110 : decode cX4_dropHalf 110 = .ok (.return_, 1) := by decide +kernel
theorem dX4_dropOpen_0 : decode cX4_dropOpen 0 = .ok (.aload_n 0, 1) := by decide +kernel
theorem dX4_dropOpen_1 : decode cX4_dropOpen 1 = .ok (.dup, 1) := by decide +kernel
theorem dX4_dropOpen_2 : decode cX4_dropOpen 2 = .ok (.getfield 123, 3) := by decide +kernel
theorem dX4_dropOpen_5 : decode cX4_dropOpen 5 = .ok (.iconst 1, 1) := by decide +kernel
theorem dX4_dropOpen_6 : decode cX4_dropOpen 6 = .ok (.isub, 1) := by decide +kernel
theorem dX4_dropOpen_7 : decode cX4_dropOpen 7 = .ok (.putfield 123, 3) := by decide +kernel
theorem dX4_dropOpen_10 : decode cX4_dropOpen 10 = .ok (.iload_n 1, 1) := by decide +kernel
theorem dX4_dropOpen_11 : decode cX4_dropOpen 11 = .ok (.istore_n 2, 1) := by decide +kernel
theorem dX4_dropOpen_12 : decode cX4_dropOpen 12 = .ok (.iload_n 2, 1) := by decide +kernel
theorem dX4_dropOpen_13 : decode cX4_dropOpen 13 = .ok (.aload_n 0, 1) := by decide +kernel
theorem dX4_dropOpen_14 : decode cX4_dropOpen 14 = .ok (.getfield 123, 3) := by decide +kernel
theorem dX4_dropOpen_17 : decode cX4_dropOpen 17 = .ok (.if_icmp .ge 65, 3) := by decide +kernel
theorem dX4_dropOpen_20 : decode cX4_dropOpen 20 = .ok (.aload_n 0, 1) := by decide +kernel
theorem dX4_dropOpen_21 : decode cX4_dropOpen 21 = .ok (.getfield 38, 3) := by decide +kernel
theorem dX4_dropOpen_24 : decode cX4_dropOpen 24 = .ok (.iload_n 2, 1) := by decide +kernel
theorem dX4_dropOpen_25 : decode cX4_dropOpen 25 = .ok (.aload_n 0, 1) := by decide +kernel
theorem dX4_dropOpen_26 : decode cX4_dropOpen 26 = .ok (.getfield 38, 3) := by decide +kernel
theorem dX4_dropOpen_29 : decode cX4_dropOpen 29 = .ok (.iload_n 2, 1) := by decide +kernel
theorem dX4_dropOpen_30 : decode cX4_dropOpen 30 = .ok (.iconst 1, 1) := by decide +kernel
theorem dX4_dropOpen_31 : decode cX4_dropOpen 31 = .ok (.iadd, 1) := by decide +kernel
theorem dX4_dropOpen_32 : decode cX4_dropOpen 32 = .ok (.iaload, 1) := by decide +kernel
theorem dX4_dropOpen_33 : decode cX4_dropOpen 33 = .ok (.iastore, 1) := by decide +kernel
theorem dX4_dropOpen_34 : decode cX4_dropOpen 34 = .ok (.aload_n 0, 1) := by decide +kernel
theorem dX4_dropOpen_35 : decode cX4_dropOpen 35 = .ok (.getfield 41, 3) := by decide +kernel
theorem dX4_dropOpen_38 : decode cX4_dropOpen 38 = .ok (.iload_n 2, 1) := by decide +kernel
theorem dX4_dropOpen_39 : decode cX4_dropOpen 39 = .ok (.aload_n 0, 1) := by decide +kernel
theorem dX4_dropOpen_40 : decode cX4_dropOpen 40 = .ok (.getfield 41, 3) := by decide +kernel
theorem dX4_dropOpen_43 : decode cX4_dropOpen 43 = .ok (.iload_n 2, 1) := by decide +kernel
theorem dX4_dropOpen_44 : decode cX4_dropOpen 44 = .ok (.iconst 1, 1) := by decide +kernel
theorem dX4_dropOpen_45 : decode cX4_dropOpen 45 = .ok (.iadd, 1) := by decide +kernel
theorem dX4_dropOpen_46 : decode cX4_dropOpen 46 = .ok (.iaload, 1) := by decide +kernel
theorem dX4_dropOpen_47 : decode cX4_dropOpen 47 = .ok (.iastore, 1) := by decide +kernel
theorem dX4_dropOpen_48 : decode cX4_dropOpen 48 = .ok (.aload_n 0, 1) := by decide +kernel
theorem dX4_dropOpen_49 : decode cX4_dropOpen 49 = .ok (.getfield 44, 3) := by decide +kernel
theorem dX4_dropOpen_52 : decode cX4_dropOpen 52 = .ok (.iload_n 2, 1) := by decide +kernel
theorem dX4_dropOpen_53 : decode cX4_dropOpen 53 = .ok (.aload_n 0, 1) := by decide +kernel
theorem dX4_dropOpen_54 : decode cX4_dropOpen 54 = .ok (.getfield 44, 3) := by decide +kernel
theorem dX4_dropOpen_57 : decode cX4_dropOpen 57 = .ok (.iload_n 2, 1) := by decide +kernel
theorem dX4_dropOpen_58 : decode cX4_dropOpen 58 = .ok (.iconst 1, 1) := by decide +kernel
theorem dX4_dropOpen_59 : decode cX4_dropOpen 59 = .ok (.iadd, 1) := by decide +kernel
theorem dX4_dropOpen_60 : decode cX4_dropOpen 60 = .ok (.iaload, 1) := by decide +kernel
theorem dX4_dropOpen_61 : decode cX4_dropOpen 61 = .ok (.iastore, 1) := by decide +kernel
theorem dX4_dropOpen_62 : decode cX4_dropOpen 62 = .ok (.aload_n 0, 1) := by decide +kernel
theorem dX4_dropOpen_63 : decode cX4_dropOpen 63 = .ok (.getfield 47, 3) := by decide +kernel
theorem dX4_dropOpen_66 : decode cX4_dropOpen 66 = .ok (.iload_n 2, 1) := by decide +kernel
theorem dX4_dropOpen_67 : decode cX4_dropOpen 67 = .ok (.aload_n 0, 1) := by decide +kernel
theorem dX4_dropOpen_68 : decode cX4_dropOpen 68 = .ok (.getfield 47, 3) := by decide +kernel
theorem dX4_dropOpen_71 : decode cX4_dropOpen 71 = .ok (.iload_n 2, 1) := by decide +kernel
theorem dX4_dropOpen_72 : decode cX4_dropOpen 72 = .ok (.iconst 1, 1) := by decide +kernel
theorem dX4_dropOpen_73 : decode cX4_dropOpen 73 = .ok (.iadd, 1) := by decide +kernel
theorem dX4_dropOpen_74 : decode cX4_dropOpen 74 = .ok (.baload, 1) := by decide +kernel
theorem dX4_dropOpen_75 : decode cX4_dropOpen 75 = .ok (.bastore, 1) := by decide +kernel
theorem dX4_dropOpen_76 : decode cX4_dropOpen 76 = .ok (.iinc 2 1, 3) := by decide +kernel
theorem dX4_dropOpen_79 : decode cX4_dropOpen 79 = .ok (.goto (-67), 3) := by decide +kernel
theorem dX4_dropOpen_82 : decode cX4_dropOpen 82 = .ok (.return_, 1) := by decide +kernel
theorem dX4_waiting_0 : decode cX4_waiting 0 = .ok (.iconst 0, 1) := by decide +kernel
theorem dX4_waiting_1 : decode cX4_waiting 1 = .ok (.istore_n 1, 1) := by decide +kernel
theorem dX4_waiting_2 : decode cX4_waiting 2 = .ok (.iconst 0, 1) := by decide +kernel
theorem dX4_waiting_3 : decode cX4_waiting 3 = .ok (.istore_n 2, 1) := by decide +kernel
theorem dX4_waiting_4 : decode cX4_waiting 4 = .ok (.iload_n 2, 1) := by decide +kernel
theorem dX4_waiting_5 : decode cX4_waiting 5 = .ok (.aload_n 0, 1) := by decide +kernel
theorem dX4_waiting_6 : decode cX4_waiting 6 = .ok (.getfield 123, 3) := by decide +kernel
theorem dX4_waiting_9 : decode cX4_waiting 9 = .ok (.if_icmp .ge 26, 3) := by decide +kernel
theorem dX4_waiting_12 : decode cX4_waiting 12 = .ok (.aload_n 0, 1) := by decide +kernel
theorem dX4_waiting_13 : decode cX4_waiting 13 = .ok (.getfield 47, 3) := by decide +kernel
theorem dX4_waiting_16 : decode cX4_waiting 16 = .ok (.iload_n 2, 1) := by decide +kernel
theorem dX4_waiting_17 : decode cX4_waiting 17 = .ok (.baload, 1) := by decide +kernel
theorem dX4_waiting_18 : decode cX4_waiting 18 = .ok (.ifCond .eq 7, 3) := by decide +kernel
theorem dX4_waiting_21 : decode cX4_waiting 21 = .ok (.iload_n 1, 1) := by decide +kernel
theorem dX4_waiting_22 : decode cX4_waiting 22 = .ok (.goto 6, 3) := by decide +kernel
theorem dX4_waiting_25 : decode cX4_waiting 25 = .ok (.iload_n 1, 1) := by decide +kernel
theorem dX4_waiting_26 : decode cX4_waiting 26 = .ok (.iconst 1, 1) := by decide +kernel
theorem dX4_waiting_27 : decode cX4_waiting 27 = .ok (.iadd, 1) := by decide +kernel
theorem dX4_waiting_28 : decode cX4_waiting 28 = .ok (.istore_n 1, 1) := by decide +kernel
theorem dX4_waiting_29 : decode cX4_waiting 29 = .ok (.iinc 2 1, 3) := by decide +kernel
theorem dX4_waiting_32 : decode cX4_waiting 32 = .ok (.goto (-28), 3) := by decide +kernel
theorem dX4_waiting_35 : decode cX4_waiting 35 = .ok (.iload_n 1, 1) := by decide +kernel
theorem dX4_waiting_36 : decode cX4_waiting 36 = .ok (.ireturn, 1) := by decide +kernel
set_option maxRecDepth 20000 in
theorem ggX4_hasRoom_X4_waiting : GoodIn wsX4_hasRoom wsX4_waiting := goodIn_r _ [7, 2, 8, 9, 10, 11, 12, 13, 14, 15, 16, 17, 18, 19, 20, 21, 22, 23, 24, 25, 26, 27, 28, 29, 30, 31, 32] (by decide +kernel) (by decide +kernel)
set_option maxRecDepth 20000 in
theorem gX4_hasRoom_X4_waiting : GoodIn wsX4_hasRoom (wsV RX4 126 RX4 yX4_waiting wsX4_waiting) := goodIn_app (goodIn_of _ (by decide +kernel)) ggX4_hasRoom_X4_waiting
theorem dX4_hasRoom_0 : decode cX4_hasRoom 0 = .ok (.aload_n 0, 1) := by decide +kernel
theorem dX4_hasRoom_1 : decode cX4_hasRoom 1 = .ok (.invokevirtual 126, 3) := by decide +kernel
theorem dX4_hasRoom_4 : decode cX4_hasRoom 4 = .ok (.aload_n 0, 1) := by decide +kernel
theorem dX4_hasRoom_5 : decode cX4_hasRoom 5 = .ok (.getfield 13, 3) := by decide +kernel
theorem dX4_hasRoom_8 : decode cX4_hasRoom 8 = .ok (.if_icmp .ge 16, 3) := by decide +kernel
theorem dX4_hasRoom_11 : decode cX4_hasRoom 11 = .ok (.aload_n 0, 1) := by decide +kernel
theorem dX4_hasRoom_12 : decode cX4_hasRoom 12 = .ok (.getfield 123, 3) := by decide +kernel
theorem dX4_hasRoom_15 : decode cX4_hasRoom 15 = .ok (.bipush 64, 2) := by decide +kernel
theorem dX4_hasRoom_17 : decode cX4_hasRoom 17 = .ok (.if_icmp .ge 7, 3) := by decide +kernel
theorem dX4_hasRoom_20 : decode cX4_hasRoom 20 = .ok (.iconst 1, 1) := by decide +kernel
theorem dX4_hasRoom_21 : decode cX4_hasRoom 21 = .ok (.goto 4, 3) := by decide +kernel
theorem dX4_hasRoom_24 : decode cX4_hasRoom 24 = .ok (.iconst 0, 1) := by decide +kernel
theorem dX4_hasRoom_25 : decode cX4_hasRoom 25 = .ok (.ireturn, 1) := by decide +kernel
theorem dX4_come_0 : decode cX4_come 0 = .ok (.aload_n 0, 1) := by decide +kernel
theorem dX4_come_1 : decode cX4_come 1 = .ok (.getfield 38, 3) := by decide +kernel
theorem dX4_come_4 : decode cX4_come 4 = .ok (.aload_n 0, 1) := by decide +kernel
theorem dX4_come_5 : decode cX4_come 5 = .ok (.getfield 123, 3) := by decide +kernel
theorem dX4_come_8 : decode cX4_come 8 = .ok (.iload_n 1, 1) := by decide +kernel
theorem dX4_come_9 : decode cX4_come 9 = .ok (.iastore, 1) := by decide +kernel
theorem dX4_come_10 : decode cX4_come 10 = .ok (.aload_n 0, 1) := by decide +kernel
theorem dX4_come_11 : decode cX4_come 11 = .ok (.getfield 41, 3) := by decide +kernel
theorem dX4_come_14 : decode cX4_come 14 = .ok (.aload_n 0, 1) := by decide +kernel
theorem dX4_come_15 : decode cX4_come 15 = .ok (.getfield 123, 3) := by decide +kernel
theorem dX4_come_18 : decode cX4_come 18 = .ok (.iload_n 2, 1) := by decide +kernel
theorem dX4_come_19 : decode cX4_come 19 = .ok (.iastore, 1) := by decide +kernel
theorem dX4_come_20 : decode cX4_come 20 = .ok (.aload_n 0, 1) := by decide +kernel
theorem dX4_come_21 : decode cX4_come 21 = .ok (.getfield 44, 3) := by decide +kernel
theorem dX4_come_24 : decode cX4_come 24 = .ok (.aload_n 0, 1) := by decide +kernel
theorem dX4_come_25 : decode cX4_come 25 = .ok (.getfield 123, 3) := by decide +kernel
theorem dX4_come_28 : decode cX4_come 28 = .ok (.iload_n 3, 1) := by decide +kernel
theorem dX4_come_29 : decode cX4_come 29 = .ok (.iastore, 1) := by decide +kernel
theorem dX4_come_30 : decode cX4_come 30 = .ok (.aload_n 0, 1) := by decide +kernel
theorem dX4_come_31 : decode cX4_come 31 = .ok (.getfield 47, 3) := by decide +kernel
theorem dX4_come_34 : decode cX4_come 34 = .ok (.aload_n 0, 1) := by decide +kernel
theorem dX4_come_35 : decode cX4_come 35 = .ok (.getfield 123, 3) := by decide +kernel
theorem dX4_come_38 : decode cX4_come 38 = .ok (.iconst 0, 1) := by decide +kernel
theorem dX4_come_39 : decode cX4_come 39 = .ok (.bastore, 1) := by decide +kernel
theorem dX4_come_40 : decode cX4_come 40 = .ok (.aload_n 0, 1) := by decide +kernel
theorem dX4_come_41 : decode cX4_come 41 = .ok (.dup, 1) := by decide +kernel
theorem dX4_come_42 : decode cX4_come 42 = .ok (.getfield 123, 3) := by decide +kernel
theorem dX4_come_45 : decode cX4_come 45 = .ok (.iconst 1, 1) := by decide +kernel
theorem dX4_come_46 : decode cX4_come 46 = .ok (.iadd, 1) := by decide +kernel
theorem dX4_come_47 : decode cX4_come 47 = .ok (.putfield 123, 3) := by decide +kernel
theorem dX4_come_50 : decode cX4_come 50 = .ok (.return_, 1) := by decide +kernel
set_option maxRecDepth 20000 in
theorem ggX4_pass_X4_dropHalf : GoodIn wsX4_pass wsX4_dropHalf := goodIn_r _ [9, 3, 10, 11, 12, 13, 14, 4, 15, 16, 17, 18, 19, 20, 21, 22, 23, 24, 25, 26, 27, 28, 29, 30, 31, 32, 33, 34, 35, 36, 37, 38] (by decide +kernel) (by decide +kernel)
set_option maxRecDepth 20000 in
theorem gX4_pass_X4_dropHalf : GoodIn wsX4_pass (wsV RX4 133 RX4 yX4_dropHalf wsX4_dropHalf) := goodIn_app (goodIn_of _ (by decide +kernel)) ggX4_pass_X4_dropHalf
theorem dX4_pass_0 : decode cX4_pass 0 = .ok (.aload_n 0, 1) := by decide +kernel
theorem dX4_pass_1 : decode cX4_pass 1 = .ok (.iload_n 1, 1) := by decide +kernel
theorem dX4_pass_2 : decode cX4_pass 2 = .ok (.ifCond .lt 10, 3) := by decide +kernel
theorem dX4_pass_5 : decode cX4_pass 5 = .ok (.iload_n 1, 1) := by decide +kernel
theorem dX4_pass_6 : decode cX4_pass 6 = .ok (.sipush 10000, 3) := by decide +kernel
theorem dX4_pass_9 : decode cX4_pass 9 = .ok (.if_icmp .le 7, 3) := by decide +kernel
theorem dX4_pass_12 : decode cX4_pass 12 = .ok (.iconst 1, 1) := by decide +kernel
theorem dX4_pass_13 : decode cX4_pass 13 = .ok (.goto 4, 3) := by decide +kernel
theorem dX4_pass_16 : decode cX4_pass 16 = .ok (.iconst 0, 1) := by decide +kernel
theorem dX4_pass_17 : decode cX4_pass 17 = .ok (.putfield 54, 3) := by decide +kernel
theorem dX4_pass_20 : decode cX4_pass 20 = .ok (.aload_n 0, 1) := by decide +kernel
theorem dX4_pass_21 : decode cX4_pass 21 = .ok (.getfield 54, 3) := by decide +kernel
theorem dX4_pass_24 : decode cX4_pass 24 = .ok (.ifCond .le 5, 3) := by decide +kernel
theorem dX4_pass_27 : decode cX4_pass 27 = .ok (.iconst 0, 1) := by decide +kernel
theorem dX4_pass_28 : decode cX4_pass 28 = .ok (.ireturn, 1) := by decide +kernel
theorem dX4_pass_29 : decode cX4_pass 29 = .ok (.aload_n 0, 1) := by decide +kernel
theorem dX4_pass_30 : decode cX4_pass 30 = .ok (.aload_n 0, 1) := by decide +kernel
theorem dX4_pass_31 : decode cX4_pass 31 = .ok (.getfield 130, 3) := by decide +kernel
theorem dX4_pass_34 : decode cX4_pass 34 = .ok (.iload_n 1, 1) := by decide +kernel
theorem dX4_pass_35 : decode cX4_pass 35 = .ok (.iadd, 1) := by decide +kernel
theorem dX4_pass_36 : decode cX4_pass 36 = .ok (.putfield 130, 3) := by decide +kernel
theorem dX4_pass_39 : decode cX4_pass 39 = .ok (.aload_n 0, 1) := by decide +kernel
theorem dX4_pass_40 : decode cX4_pass 40 = .ok (.getfield 120, 3) := by decide +kernel
theorem dX4_pass_43 : decode cX4_pass 43 = .ok (.iconst 1, 1) := by decide +kernel
theorem dX4_pass_44 : decode cX4_pass 44 = .ok (.isub, 1) := by decide +kernel
theorem dX4_pass_45 : decode cX4_pass 45 = .ok (.istore_n 2, 1) := by decide +kernel
theorem dX4_pass_46 : decode cX4_pass 46 = .ok (.iload_n 2, 1) := by decide +kernel
theorem dX4_pass_47 : decode cX4_pass 47 = .ok (.ifCond .lt 30, 3) := by decide +kernel
theorem dX4_pass_50 : decode cX4_pass 50 = .ok (.aload_n 0, 1) := by decide +kernel
theorem dX4_pass_51 : decode cX4_pass 51 = .ok (.getfield 130, 3) := by decide +kernel
theorem dX4_pass_54 : decode cX4_pass 54 = .ok (.aload_n 0, 1) := by decide +kernel
theorem dX4_pass_55 : decode cX4_pass 55 = .ok (.getfield 35, 3) := by decide +kernel
theorem dX4_pass_58 : decode cX4_pass 58 = .ok (.iload_n 2, 1) := by decide +kernel
theorem dX4_pass_59 : decode cX4_pass 59 = .ok (.iaload, 1) := by decide +kernel
theorem dX4_pass_60 : decode cX4_pass 60 = .ok (.isub, 1) := by decide +kernel
theorem dX4_pass_61 : decode cX4_pass 61 = .ok (.bipush 60, 2) := by decide +kernel
theorem dX4_pass_63 : decode cX4_pass 63 = .ok (.if_icmp .lt 8, 3) := by decide +kernel
theorem dX4_pass_66 : decode cX4_pass 66 = .ok (.aload_n 0, 1) := by decide +kernel
theorem dX4_pass_67 : decode cX4_pass 67 = .ok (.iload_n 2, 1) := by decide +kernel
theorem dX4_pass_68 : decode cX4_pass 68 = .ok (.invokevirtual 133, 3) := by decide +kernel
theorem dX4_pass_71 : decode cX4_pass 71 = .ok (.iinc 2 (-1), 3) := by decide +kernel
theorem dX4_pass_74 : decode cX4_pass 74 = .ok (.goto (-28), 3) := by decide +kernel
theorem dX4_pass_77 : decode cX4_pass 77 = .ok (.aload_n 0, 1) := by decide +kernel
theorem dX4_pass_78 : decode cX4_pass 78 = .ok (.getfield 130, 3) := by decide +kernel
theorem dX4_pass_81 : decode cX4_pass 81 = .ok (.ireturn, 1) := by decide +kernel
theorem dX4_kindOf_0 : decode cX4_kindOf 0 = .ok (.iload_n 0, 1) := by decide +kernel
theorem dX4_kindOf_1 : decode cX4_kindOf 1 = .ok (.sipush 4096, 3) := by decide +kernel
theorem dX4_kindOf_4 : decode cX4_kindOf 4 = .ok (.if_icmp .lt 8, 3) := by decide +kernel
theorem dX4_kindOf_7 : decode cX4_kindOf 7 = .ok (.bipush 7, 2) := by decide +kernel
theorem dX4_kindOf_9 : decode cX4_kindOf 9 = .ok (.goto 71, 3) := by decide +kernel
theorem dX4_kindOf_12 : decode cX4_kindOf 12 = .ok (.iload_n 0, 1) := by decide +kernel
theorem dX4_kindOf_13 : decode cX4_kindOf 13 = .ok (.sipush 1460, 3) := by decide +kernel
theorem dX4_kindOf_16 : decode cX4_kindOf 16 = .ok (.if_icmp .lt 8, 3) := by decide +kernel
theorem dX4_kindOf_19 : decode cX4_kindOf 19 = .ok (.bipush 6, 2) := by decide +kernel
theorem dX4_kindOf_21 : decode cX4_kindOf 21 = .ok (.goto 59, 3) := by decide +kernel
theorem dX4_kindOf_24 : decode cX4_kindOf 24 = .ok (.iload_n 0, 1) := by decide +kernel
theorem dX4_kindOf_25 : decode cX4_kindOf 25 = .ok (.sipush 1440, 3) := by decide +kernel
theorem dX4_kindOf_28 : decode cX4_kindOf 28 = .ok (.if_icmp .lt 7, 3) := by decide +kernel
theorem dX4_kindOf_31 : decode cX4_kindOf 31 = .ok (.iconst 5, 1) := by decide +kernel
theorem dX4_kindOf_32 : decode cX4_kindOf 32 = .ok (.goto 48, 3) := by decide +kernel
theorem dX4_kindOf_35 : decode cX4_kindOf 35 = .ok (.iload_n 0, 1) := by decide +kernel
theorem dX4_kindOf_36 : decode cX4_kindOf 36 = .ok (.sipush 1220, 3) := by decide +kernel
theorem dX4_kindOf_39 : decode cX4_kindOf 39 = .ok (.if_icmp .lt 7, 3) := by decide +kernel
theorem dX4_kindOf_42 : decode cX4_kindOf 42 = .ok (.iconst 4, 1) := by decide +kernel
theorem dX4_kindOf_43 : decode cX4_kindOf 43 = .ok (.goto 37, 3) := by decide +kernel
theorem dX4_kindOf_46 : decode cX4_kindOf 46 = .ok (.iload_n 0, 1) := by decide +kernel
theorem dX4_kindOf_47 : decode cX4_kindOf 47 = .ok (.sipush 1024, 3) := by decide +kernel
theorem dX4_kindOf_50 : decode cX4_kindOf 50 = .ok (.if_icmp .lt 7, 3) := by decide +kernel
theorem dX4_kindOf_53 : decode cX4_kindOf 53 = .ok (.iconst 3, 1) := by decide +kernel
theorem dX4_kindOf_54 : decode cX4_kindOf 54 = .ok (.goto 26, 3) := by decide +kernel
theorem dX4_kindOf_57 : decode cX4_kindOf 57 = .ok (.iload_n 0, 1) := by decide +kernel
theorem dX4_kindOf_58 : decode cX4_kindOf 58 = .ok (.sipush 536, 3) := by decide +kernel
theorem dX4_kindOf_61 : decode cX4_kindOf 61 = .ok (.if_icmp .lt 7, 3) := by decide +kernel
theorem dX4_kindOf_64 : decode cX4_kindOf 64 = .ok (.iconst 2, 1) := by decide +kernel
theorem dX4_kindOf_65 : decode cX4_kindOf 65 = .ok (.goto 15, 3) := by decide +kernel
theorem dX4_kindOf_68 : decode cX4_kindOf 68 = .ok (.iload_n 0, 1) := by decide +kernel
theorem dX4_kindOf_69 : decode cX4_kindOf 69 = .ok (.sipush 256, 3) := by decide +kernel
theorem dX4_kindOf_72 : decode cX4_kindOf 72 = .ok (.if_icmp .lt 7, 3) := by decide +kernel
theorem dX4_kindOf_75 : decode cX4_kindOf 75 = .ok (.iconst 1, 1) := by decide +kernel
theorem dX4_kindOf_76 : decode cX4_kindOf 76 = .ok (.goto 4, 3) := by decide +kernel
theorem dX4_kindOf_79 : decode cX4_kindOf 79 = .ok (.iconst 0, 1) := by decide +kernel
theorem dX4_kindOf_80 : decode cX4_kindOf 80 = .ok (.ireturn, 1) := by decide +kernel
set_option maxRecDepth 20000 in
theorem ggX4_syn_X4_noPort : GoodIn wsX4_syn wsX4_noPort := goodIn_r _ [19, 20] (by decide +kernel) (by decide +kernel)
set_option maxRecDepth 20000 in
theorem gX4_syn_X4_noPort : GoodIn wsX4_syn (va_wsS RX4 112 yX4_noPort wsX4_noPort) := goodIn_app (goodIn_of _ (by decide +kernel)) ggX4_syn_X4_noPort
set_option maxRecDepth 20000 in
theorem ggX4_syn_X4_opened : GoodIn wsX4_syn wsX4_opened := goodIn_r _ [24, 25, 26, 27, 73, 74, 75, 76, 77, 78, 79, 80, 81, 82, 83, 84, 85, 86, 87, 88, 89, 90, 91, 92, 93, 94, 95, 96] (by decide +kernel) (by decide +kernel)
set_option maxRecDepth 20000 in
theorem gX4_syn_X4_opened : GoodIn wsX4_syn (wsV RX4 137 RX4 yX4_opened wsX4_opened) := goodIn_app (goodIn_of _ (by decide +kernel)) ggX4_syn_X4_opened
set_option maxRecDepth 20000 in
theorem ggX4_syn_X4_half : GoodIn wsX4_syn wsX4_half := goodIn_r _ [31, 7, 12, 13, 73, 74, 75, 76, 77, 78, 79, 80, 81, 82, 83, 84, 85, 86, 87, 88, 89, 90, 91, 92, 93, 94, 95, 96] (by decide +kernel) (by decide +kernel)
set_option maxRecDepth 20000 in
theorem gX4_syn_X4_half : GoodIn wsX4_syn (wsV RX4 143 RX4 yX4_half wsX4_half) := goodIn_app (goodIn_of _ (by decide +kernel)) ggX4_syn_X4_half
set_option maxRecDepth 20000 in
theorem ggX4_syn_X4_dropHalf : GoodIn wsX4_syn wsX4_dropHalf := goodIn_r _ [35, 7, 12, 13, 3, 4, 14, 15, 73, 74, 75, 76, 77, 78, 79, 80, 81, 82, 83, 84, 85, 86, 87, 88, 89, 90, 91, 92, 93, 94, 95, 96] (by decide +kernel) (by decide +kernel)
set_option maxRecDepth 20000 in
theorem gX4_syn_X4_dropHalf : GoodIn wsX4_syn (wsV RX4 133 RX4 yX4_dropHalf wsX4_dropHalf) := goodIn_app (goodIn_of _ (by decide +kernel)) ggX4_syn_X4_dropHalf
set_option maxRecDepth 20000 in
theorem ggX4_syn_X4_kindOf : GoodIn wsX4_syn wsX4_kindOf := goodIn_r _ [38] (by decide +kernel) (by decide +kernel)
set_option maxRecDepth 20000 in
theorem gX4_syn_X4_kindOf : GoodIn wsX4_syn (va_wsS RX4 146 yX4_kindOf wsX4_kindOf) := goodIn_app (goodIn_of _ (by decide +kernel)) ggX4_syn_X4_kindOf
set_option maxRecDepth 20000 in
theorem ggX4_syn_X4_cookieOf : GoodIn wsX4_syn wsX4_cookieOf := goodIn_r _ [42, 5, 43, 44, 45, 46, 47, 48, 18, 49, 50, 51, 52, 53, 54, 55, 56, 57, 58, 59, 60, 61, 62, 63, 64, 65, 66, 67, 68, 69, 70, 71, 72, 73, 74, 75, 76, 77, 78, 79, 80, 81, 82, 83, 84, 85, 86, 87, 88, 89, 90, 91, 92, 93, 94, 95, 96] (by decide +kernel) (by decide +kernel)
set_option maxRecDepth 20000 in
theorem gX4_syn_X4_cookieOf : GoodIn wsX4_syn (wsV RX4 116 RX4 yX4_cookieOf wsX4_cookieOf) := goodIn_app (goodIn_of _ (by decide +kernel)) ggX4_syn_X4_cookieOf
theorem dX4_syn_0 : decode cX4_syn 0 = .ok (.aload_n 0, 1) := by decide +kernel
theorem dX4_syn_1 : decode cX4_syn 1 = .ok (.iload_n 2, 1) := by decide +kernel
theorem dX4_syn_2 : decode cX4_syn 2 = .ok (.invokestatic 112, 3) := by decide +kernel
theorem dX4_syn_5 : decode cX4_syn 5 = .ok (.ifCond .ne 11, 3) := by decide +kernel
theorem dX4_syn_8 : decode cX4_syn 8 = .ok (.iload 4, 2) := by decide +kernel
theorem dX4_syn_10 : decode cX4_syn 10 = .ok (.invokestatic 112, 3) := by decide +kernel
theorem dX4_syn_13 : decode cX4_syn 13 = .ok (.ifCond .eq 7, 3) := by decide +kernel
theorem dX4_syn_16 : decode cX4_syn 16 = .ok (.iconst 1, 1) := by decide +kernel
theorem dX4_syn_17 : decode cX4_syn 17 = .ok (.goto 4, 3) := by decide +kernel
theorem dX4_syn_20 : decode cX4_syn 20 = .ok (.iconst 0, 1) := by decide +kernel
theorem dX4_syn_21 : decode cX4_syn 21 = .ok (.putfield 54, 3) := by decide +kernel
theorem dX4_syn_24 : decode cX4_syn 24 = .ok (.aload_n 0, 1) := by decide +kernel
theorem dX4_syn_25 : decode cX4_syn 25 = .ok (.getfield 54, 3) := by decide +kernel
theorem dX4_syn_28 : decode cX4_syn 28 = .ok (.ifCond .le 5, 3) := by decide +kernel
theorem dX4_syn_31 : decode cX4_syn 31 = .ok (.lconst 0, 1) := by decide +kernel
theorem dX4_syn_32 : decode cX4_syn 32 = .ok (.lreturn, 1) := by decide +kernel
theorem dX4_syn_33 : decode cX4_syn 33 = .ok (.aload_n 0, 1) := by decide +kernel
theorem dX4_syn_34 : decode cX4_syn 34 = .ok (.iload_n 1, 1) := by decide +kernel
theorem dX4_syn_35 : decode cX4_syn 35 = .ok (.iload_n 2, 1) := by decide +kernel
theorem dX4_syn_36 : decode cX4_syn 36 = .ok (.invokevirtual 137, 3) := by decide +kernel
theorem dX4_syn_39 : decode cX4_syn 39 = .ok (.ifCond .lt 7, 3) := by decide +kernel
theorem dX4_syn_42 : decode cX4_syn 42 = .ok (.ldc2_w 141, 3) := by decide +kernel
theorem dX4_syn_45 : decode cX4_syn 45 = .ok (.lreturn, 1) := by decide +kernel
theorem dX4_syn_46 : decode cX4_syn 46 = .ok (.aload_n 0, 1) := by decide +kernel
theorem dX4_syn_47 : decode cX4_syn 47 = .ok (.iload_n 1, 1) := by decide +kernel
theorem dX4_syn_48 : decode cX4_syn 48 = .ok (.iload_n 2, 1) := by decide +kernel
theorem dX4_syn_49 : decode cX4_syn 49 = .ok (.invokevirtual 143, 3) := by decide +kernel
theorem dX4_syn_52 : decode cX4_syn 52 = .ok (.istore 5, 2) := by decide +kernel
theorem dX4_syn_54 : decode cX4_syn 54 = .ok (.iload 5, 2) := by decide +kernel
theorem dX4_syn_56 : decode cX4_syn 56 = .ok (.ifCond .lt 27, 3) := by decide +kernel
theorem dX4_syn_59 : decode cX4_syn 59 = .ok (.aload_n 0, 1) := by decide +kernel
theorem dX4_syn_60 : decode cX4_syn 60 = .ok (.getfield 26, 3) := by decide +kernel
theorem dX4_syn_63 : decode cX4_syn 63 = .ok (.iload 5, 2) := by decide +kernel
theorem dX4_syn_65 : decode cX4_syn 65 = .ok (.iaload, 1) := by decide +kernel
theorem dX4_syn_66 : decode cX4_syn 66 = .ok (.iload_n 3, 1) := by decide +kernel
theorem dX4_syn_67 : decode cX4_syn 67 = .ok (.if_icmp .ne 16, 3) := by decide +kernel
theorem dX4_syn_70 : decode cX4_syn 70 = .ok (.aload_n 0, 1) := by decide +kernel
theorem dX4_syn_71 : decode cX4_syn 71 = .ok (.getfield 29, 3) := by decide +kernel
theorem dX4_syn_74 : decode cX4_syn 74 = .ok (.iload 5, 2) := by decide +kernel
theorem dX4_syn_76 : decode cX4_syn 76 = .ok (.iaload, 1) := by decide +kernel
theorem dX4_syn_77 : decode cX4_syn 77 = .ok (.i2l, 1) := by decide +kernel
theorem dX4_syn_78 : decode cX4_syn 78 = .ok (.ldc2_w 103, 3) := by decide +kernel
theorem dX4_syn_81 : decode cX4_syn 81 = .ok (.land, 1) := by decide +kernel
theorem dX4_syn_82 : decode cX4_syn 82 = .ok (.lreturn, 1) := by decide +kernel
theorem dX4_syn_83 : decode cX4_syn 83 = .ok (.iload 5, 2) := by decide +kernel
theorem dX4_syn_85 : decode cX4_syn 85 = .ok (.ifCond .lt 9, 3) := by decide +kernel
theorem dX4_syn_88 : decode cX4_syn 88 = .ok (.aload_n 0, 1) := by decide +kernel
theorem dX4_syn_89 : decode cX4_syn 89 = .ok (.iload 5, 2) := by decide +kernel
theorem dX4_syn_91 : decode cX4_syn 91 = .ok (.invokevirtual 133, 3) := by decide +kernel
theorem dX4_syn_94 : decode cX4_syn 94 = .ok (.iload 4, 2) := by decide +kernel
theorem dX4_syn_96 : decode cX4_syn 96 = .ok (.invokestatic 146, 3) := by decide +kernel
theorem dX4_syn_99 : decode cX4_syn 99 = .ok (.istore 6, 2) := by decide +kernel
theorem dX4_syn_101 : decode cX4_syn 101 = .ok (.aload_n 0, 1) := by decide +kernel
theorem dX4_syn_102 : decode cX4_syn 102 = .ok (.iload_n 1, 1) := by decide +kernel
theorem dX4_syn_103 : decode cX4_syn 103 = .ok (.iload_n 2, 1) := by decide +kernel
theorem dX4_syn_104 : decode cX4_syn 104 = .ok (.iload_n 3, 1) := by decide +kernel
theorem dX4_syn_105 : decode cX4_syn 105 = .ok (.iload 6, 2) := by decide +kernel
theorem dX4_syn_107 : decode cX4_syn 107 = .ok (.aload_n 0, 1) := by decide +kernel
theorem dX4_syn_108 : decode cX4_syn 108 = .ok (.getfield 130, 3) := by decide +kernel
theorem dX4_syn_111 : decode cX4_syn 111 = .ok (.bipush 64, 2) := by decide +kernel
theorem dX4_syn_113 : decode cX4_syn 113 = .ok (.idiv, 1) := by decide +kernel
theorem dX4_syn_114 : decode cX4_syn 114 = .ok (.invokevirtual 116, 3) := by decide +kernel
theorem dX4_syn_117 : decode cX4_syn 117 = .ok (.istore 7, 2) := by decide +kernel
theorem dX4_syn_119 : decode cX4_syn 119 = .ok (.aload_n 0, 1) := by decide +kernel
theorem dX4_syn_120 : decode cX4_syn 120 = .ok (.getfield 120, 3) := by decide +kernel
theorem dX4_syn_123 : decode cX4_syn 123 = .ok (.aload_n 0, 1) := by decide +kernel
theorem dX4_syn_124 : decode cX4_syn 124 = .ok (.getfield 7, 3) := by decide +kernel
theorem dX4_syn_127 : decode cX4_syn 127 = .ok (.if_icmp .lt 29, 3) := by decide +kernel
theorem dX4_syn_130 : decode cX4_syn 130 = .ok (.aload_n 0, 1) := by decide +kernel
theorem dX4_syn_131 : decode cX4_syn 131 = .ok (.aload_n 0, 1) := by decide +kernel
theorem dX4_syn_132 : decode cX4_syn 132 = .ok (.getfield 130, 3) := by decide +kernel
theorem dX4_syn_135 : decode cX4_syn 135 = .ok (.putfield 16, 3) := by decide +kernel
theorem dX4_syn_138 : decode cX4_syn 138 = .ok (.aload_n 0, 1) := by decide +kernel
theorem dX4_syn_139 : decode cX4_syn 139 = .ok (.getfield 51, 3) := by decide +kernel
theorem dX4_syn_142 : decode cX4_syn 142 = .ok (.iconst 0, 1) := by decide +kernel
theorem dX4_syn_143 : decode cX4_syn 143 = .ok (.dup2, 1) := by decide +kernel
theorem dX4_syn_144 : decode cX4_syn 144 = .ok (.iaload, 1) := by decide +kernel
theorem dX4_syn_145 : decode cX4_syn 145 = .ok (.iconst 1, 1) := by decide +kernel
theorem dX4_syn_146 : decode cX4_syn 146 = .ok (.iadd, 1) := by decide +kernel
theorem dX4_syn_147 : decode cX4_syn 147 = .ok (.iastore, 1) := by decide +kernel
theorem dX4_syn_148 : decode cX4_syn 148 = .ok (.iload 7, 2) := by decide +kernel
theorem dX4_syn_150 : decode cX4_syn 150 = .ok (.i2l, 1) := by decide +kernel
theorem dX4_syn_151 : decode cX4_syn 151 = .ok (.ldc2_w 103, 3) := by decide +kernel
theorem dX4_syn_154 : decode cX4_syn 154 = .ok (.land, 1) := by decide +kernel
theorem dX4_syn_155 : decode cX4_syn 155 = .ok (.lreturn, 1) := by decide +kernel
theorem dX4_syn_156 : decode cX4_syn 156 = .ok (.iload 7, 2) := by decide +kernel
theorem dX4_syn_158 : decode cX4_syn 158 = .ok (.ldc 150, 2) := by decide +kernel
theorem dX4_syn_160 : decode cX4_syn 160 = .ok (.ixor, 1) := by decide +kernel
theorem dX4_syn_161 : decode cX4_syn 161 = .ok (.istore 7, 2) := by decide +kernel
theorem dX4_syn_163 : decode cX4_syn 163 = .ok (.aload_n 0, 1) := by decide +kernel
theorem dX4_syn_164 : decode cX4_syn 164 = .ok (.getfield 19, 3) := by decide +kernel
theorem dX4_syn_167 : decode cX4_syn 167 = .ok (.aload_n 0, 1) := by decide +kernel
theorem dX4_syn_168 : decode cX4_syn 168 = .ok (.getfield 120, 3) := by decide +kernel
theorem dX4_syn_171 : decode cX4_syn 171 = .ok (.iload_n 1, 1) := by decide +kernel
theorem dX4_syn_172 : decode cX4_syn 172 = .ok (.iastore, 1) := by decide +kernel
theorem dX4_syn_173 : decode cX4_syn 173 = .ok (.aload_n 0, 1) := by decide +kernel
theorem dX4_syn_174 : decode cX4_syn 174 = .ok (.getfield 23, 3) := by decide +kernel
theorem dX4_syn_177 : decode cX4_syn 177 = .ok (.aload_n 0, 1) := by decide +kernel
theorem dX4_syn_178 : decode cX4_syn 178 = .ok (.getfield 120, 3) := by decide +kernel
theorem dX4_syn_181 : decode cX4_syn 181 = .ok (.iload_n 2, 1) := by decide +kernel
theorem dX4_syn_182 : decode cX4_syn 182 = .ok (.iastore, 1) := by decide +kernel
theorem dX4_syn_183 : decode cX4_syn 183 = .ok (.aload_n 0, 1) := by decide +kernel
theorem dX4_syn_184 : decode cX4_syn 184 = .ok (.getfield 26, 3) := by decide +kernel
theorem dX4_syn_187 : decode cX4_syn 187 = .ok (.aload_n 0, 1) := by decide +kernel
theorem dX4_syn_188 : decode cX4_syn 188 = .ok (.getfield 120, 3) := by decide +kernel
theorem dX4_syn_191 : decode cX4_syn 191 = .ok (.iload_n 3, 1) := by decide +kernel
theorem dX4_syn_192 : decode cX4_syn 192 = .ok (.iastore, 1) := by decide +kernel
theorem dX4_syn_193 : decode cX4_syn 193 = .ok (.aload_n 0, 1) := by decide +kernel
theorem dX4_syn_194 : decode cX4_syn 194 = .ok (.getfield 29, 3) := by decide +kernel
theorem dX4_syn_197 : decode cX4_syn 197 = .ok (.aload_n 0, 1) := by decide +kernel
theorem dX4_syn_198 : decode cX4_syn 198 = .ok (.getfield 120, 3) := by decide +kernel
theorem dX4_syn_201 : decode cX4_syn 201 = .ok (.iload 7, 2) := by decide +kernel
theorem dX4_syn_203 : decode cX4_syn 203 = .ok (.iastore, 1) := by decide +kernel
theorem dX4_syn_204 : decode cX4_syn 204 = .ok (.aload_n 0, 1) := by decide +kernel
theorem dX4_syn_205 : decode cX4_syn 205 = .ok (.getfield 32, 3) := by decide +kernel
theorem dX4_syn_208 : decode cX4_syn 208 = .ok (.aload_n 0, 1) := by decide +kernel
theorem dX4_syn_209 : decode cX4_syn 209 = .ok (.getfield 120, 3) := by decide +kernel
theorem dX4_syn_212 : decode cX4_syn 212 = .ok (.iload 6, 2) := by decide +kernel
theorem dX4_syn_214 : decode cX4_syn 214 = .ok (.iastore, 1) := by decide +kernel
theorem dX4_syn_215 : decode cX4_syn 215 = .ok (.aload_n 0, 1) := by decide +kernel
theorem dX4_syn_216 : decode cX4_syn 216 = .ok (.getfield 35, 3) := by decide +kernel
theorem dX4_syn_219 : decode cX4_syn 219 = .ok (.aload_n 0, 1) := by decide +kernel
theorem dX4_syn_220 : decode cX4_syn 220 = .ok (.getfield 120, 3) := by decide +kernel
theorem dX4_syn_223 : decode cX4_syn 223 = .ok (.aload_n 0, 1) := by decide +kernel
theorem dX4_syn_224 : decode cX4_syn 224 = .ok (.getfield 130, 3) := by decide +kernel
theorem dX4_syn_227 : decode cX4_syn 227 = .ok (.iastore, 1) := by decide +kernel
theorem dX4_syn_228 : decode cX4_syn 228 = .ok (.aload_n 0, 1) := by decide +kernel
theorem dX4_syn_229 : decode cX4_syn 229 = .ok (.dup, 1) := by decide +kernel
theorem dX4_syn_230 : decode cX4_syn 230 = .ok (.getfield 120, 3) := by decide +kernel
theorem dX4_syn_233 : decode cX4_syn 233 = .ok (.iconst 1, 1) := by decide +kernel
theorem dX4_syn_234 : decode cX4_syn 234 = .ok (.iadd, 1) := by decide +kernel
theorem dX4_syn_235 : decode cX4_syn 235 = .ok (.putfield 120, 3) := by decide +kernel
theorem dX4_syn_238 : decode cX4_syn 238 = .ok (.iload 7, 2) := by decide +kernel
theorem dX4_syn_240 : decode cX4_syn 240 = .ok (.i2l, 1) := by decide +kernel
theorem dX4_syn_241 : decode cX4_syn 241 = .ok (.ldc2_w 103, 3) := by decide +kernel
theorem dX4_syn_244 : decode cX4_syn 244 = .ok (.land, 1) := by decide +kernel
theorem dX4_syn_245 : decode cX4_syn 245 = .ok (.lreturn, 1) := by decide +kernel
set_option maxRecDepth 20000 in
theorem ggX4_ack_X4_noPort : GoodIn wsX4_ack wsX4_noPort := goodIn_r _ [11, 12] (by decide +kernel) (by decide +kernel)
set_option maxRecDepth 20000 in
theorem gX4_ack_X4_noPort : GoodIn wsX4_ack (va_wsS RX4 112 yX4_noPort wsX4_noPort) := goodIn_app (goodIn_of _ (by decide +kernel)) ggX4_ack_X4_noPort
set_option maxRecDepth 20000 in
theorem ggX4_ack_X4_opened : GoodIn wsX4_ack wsX4_opened := goodIn_r _ [16, 17, 18, 19, 82, 83, 84, 85, 86, 87, 88, 89, 90, 91, 92, 93, 94, 95, 96, 97, 98, 99, 100, 101, 102, 103, 104, 105] (by decide +kernel) (by decide +kernel)
set_option maxRecDepth 20000 in
theorem gX4_ack_X4_opened : GoodIn wsX4_ack (wsV RX4 137 RX4 yX4_opened wsX4_opened) := goodIn_app (goodIn_of _ (by decide +kernel)) ggX4_ack_X4_opened
set_option maxRecDepth 20000 in
theorem ggX4_ack_X4_half : GoodIn wsX4_ack wsX4_half := goodIn_r _ [23, 24, 25, 26, 82, 83, 84, 85, 86, 87, 88, 89, 90, 91, 92, 93, 94, 95, 96, 97, 98, 99, 100, 101, 102, 103, 104, 105] (by decide +kernel) (by decide +kernel)
set_option maxRecDepth 20000 in
theorem gX4_ack_X4_half : GoodIn wsX4_ack (wsV RX4 143 RX4 yX4_half wsX4_half) := goodIn_app (goodIn_of _ (by decide +kernel)) ggX4_ack_X4_half
set_option maxRecDepth 20000 in
theorem ggX4_ack_X4_hasRoom : GoodIn wsX4_ack wsX4_hasRoom := goodIn_r _ [30, 31, 17, 32, 33, 34, 10, 35, 36, 82, 83, 84, 85, 86, 87, 88, 89, 90, 91, 92, 93, 94, 95, 96, 97, 98, 99, 100, 101, 102, 103, 104, 105] (by decide +kernel) (by decide +kernel)
set_option maxRecDepth 20000 in
theorem gX4_ack_X4_hasRoom : GoodIn wsX4_ack (wsV RX4 151 RX4 yX4_hasRoom wsX4_hasRoom) := goodIn_app (goodIn_of _ (by decide +kernel)) ggX4_ack_X4_hasRoom
set_option maxRecDepth 20000 in
theorem ggX4_ack_X4_come : GoodIn wsX4_ack wsX4_come := goodIn_r _ [40, 18, 17, 19, 41, 36, 82, 83, 84, 85, 86, 87, 88, 89, 90, 91, 92, 93, 94, 95, 96, 97, 98, 99, 100, 101, 102, 103, 104, 105] (by decide +kernel) (by decide +kernel)
set_option maxRecDepth 20000 in
theorem gX4_ack_X4_come : GoodIn wsX4_ack (wsV RX4 155 RX4 yX4_come wsX4_come) := goodIn_app (goodIn_of _ (by decide +kernel)) ggX4_ack_X4_come
set_option maxRecDepth 20000 in
theorem ggX4_ack_X4_dropHalf : GoodIn wsX4_ack wsX4_dropHalf := goodIn_r _ [45, 24, 25, 26, 2, 3, 4, 46, 82, 83, 84, 85, 86, 87, 88, 89, 90, 91, 92, 93, 94, 95, 96, 97, 98, 99, 100, 101, 102, 103, 104, 105] (by decide +kernel) (by decide +kernel)
set_option maxRecDepth 20000 in
theorem gX4_ack_X4_dropHalf : GoodIn wsX4_ack (wsV RX4 133 RX4 yX4_dropHalf wsX4_dropHalf) := goodIn_app (goodIn_of _ (by decide +kernel)) ggX4_ack_X4_dropHalf
set_option maxRecDepth 20000 in
theorem ggX4_ack_X4_cookieOf : GoodIn wsX4_ack wsX4_cookieOf := goodIn_r _ [50, 51, 52, 53, 54, 55, 56, 57, 10, 58, 59, 60, 61, 62, 63, 64, 65, 66, 67, 68, 69, 70, 71, 72, 73, 74, 75, 76, 77, 78, 79, 80, 81, 82, 83, 84, 85, 86, 87, 88, 89, 90, 91, 92, 93, 94, 95, 96, 97, 98, 99, 100, 101, 102, 103, 104, 105] (by decide +kernel) (by decide +kernel)
set_option maxRecDepth 20000 in
theorem gX4_ack_X4_cookieOf : GoodIn wsX4_ack (wsV RX4 116 RX4 yX4_cookieOf wsX4_cookieOf) := goodIn_app (goodIn_of _ (by decide +kernel)) ggX4_ack_X4_cookieOf
theorem dX4_ack_0 : decode cX4_ack 0 = .ok (.aload_n 0, 1) := by decide +kernel
theorem dX4_ack_1 : decode cX4_ack 1 = .ok (.iload_n 2, 1) := by decide +kernel
theorem dX4_ack_2 : decode cX4_ack 2 = .ok (.invokestatic 112, 3) := by decide +kernel
theorem dX4_ack_5 : decode cX4_ack 5 = .ok (.ifCond .eq 7, 3) := by decide +kernel
theorem dX4_ack_8 : decode cX4_ack 8 = .ok (.iconst 1, 1) := by decide +kernel
theorem dX4_ack_9 : decode cX4_ack 9 = .ok (.goto 4, 3) := by decide +kernel
theorem dX4_ack_12 : decode cX4_ack 12 = .ok (.iconst 0, 1) := by decide +kernel
theorem dX4_ack_13 : decode cX4_ack 13 = .ok (.putfield 54, 3) := by decide +kernel
theorem dX4_ack_16 : decode cX4_ack 16 = .ok (.aload_n 0, 1) := by decide +kernel
theorem dX4_ack_17 : decode cX4_ack 17 = .ok (.getfield 54, 3) := by decide +kernel
theorem dX4_ack_20 : decode cX4_ack 20 = .ok (.ifCond .le 5, 3) := by decide +kernel
theorem dX4_ack_23 : decode cX4_ack 23 = .ok (.iconst 0, 1) := by decide +kernel
theorem dX4_ack_24 : decode cX4_ack 24 = .ok (.ireturn, 1) := by decide +kernel
theorem dX4_ack_25 : decode cX4_ack 25 = .ok (.aload_n 0, 1) := by decide +kernel
theorem dX4_ack_26 : decode cX4_ack 26 = .ok (.iload_n 1, 1) := by decide +kernel
theorem dX4_ack_27 : decode cX4_ack 27 = .ok (.iload_n 2, 1) := by decide +kernel
theorem dX4_ack_28 : decode cX4_ack 28 = .ok (.invokevirtual 137, 3) := by decide +kernel
theorem dX4_ack_31 : decode cX4_ack 31 = .ok (.ifCond .lt 5, 3) := by decide +kernel
theorem dX4_ack_34 : decode cX4_ack 34 = .ok (.iconst 1, 1) := by decide +kernel
theorem dX4_ack_35 : decode cX4_ack 35 = .ok (.ireturn, 1) := by decide +kernel
theorem dX4_ack_36 : decode cX4_ack 36 = .ok (.aload_n 0, 1) := by decide +kernel
theorem dX4_ack_37 : decode cX4_ack 37 = .ok (.iload_n 1, 1) := by decide +kernel
theorem dX4_ack_38 : decode cX4_ack 38 = .ok (.iload_n 2, 1) := by decide +kernel
theorem dX4_ack_39 : decode cX4_ack 39 = .ok (.invokevirtual 143, 3) := by decide +kernel
theorem dX4_ack_42 : decode cX4_ack 42 = .ok (.istore 5, 2) := by decide +kernel
theorem dX4_ack_44 : decode cX4_ack 44 = .ok (.iload 5, 2) := by decide +kernel
theorem dX4_ack_46 : decode cX4_ack 46 = .ok (.ifCond .lt 70, 3) := by decide +kernel
theorem dX4_ack_49 : decode cX4_ack 49 = .ok (.aload_n 0, 1) := by decide +kernel
theorem dX4_ack_50 : decode cX4_ack 50 = .ok (.getfield 26, 3) := by decide +kernel
theorem dX4_ack_53 : decode cX4_ack 53 = .ok (.iload 5, 2) := by decide +kernel
theorem dX4_ack_55 : decode cX4_ack 55 = .ok (.iaload, 1) := by decide +kernel
theorem dX4_ack_56 : decode cX4_ack 56 = .ok (.iload_n 3, 1) := by decide +kernel
theorem dX4_ack_57 : decode cX4_ack 57 = .ok (.iconst 1, 1) := by decide +kernel
theorem dX4_ack_58 : decode cX4_ack 58 = .ok (.isub, 1) := by decide +kernel
theorem dX4_ack_59 : decode cX4_ack 59 = .ok (.if_icmp .ne 57, 3) := by decide +kernel
theorem dX4_ack_62 : decode cX4_ack 62 = .ok (.aload_n 0, 1) := by decide +kernel
theorem dX4_ack_63 : decode cX4_ack 63 = .ok (.getfield 29, 3) := by decide +kernel
theorem dX4_ack_66 : decode cX4_ack 66 = .ok (.iload 5, 2) := by decide +kernel
theorem dX4_ack_68 : decode cX4_ack 68 = .ok (.iaload, 1) := by decide +kernel
theorem dX4_ack_69 : decode cX4_ack 69 = .ok (.iload 4, 2) := by decide +kernel
theorem dX4_ack_71 : decode cX4_ack 71 = .ok (.iconst 1, 1) := by decide +kernel
theorem dX4_ack_72 : decode cX4_ack 72 = .ok (.isub, 1) := by decide +kernel
theorem dX4_ack_73 : decode cX4_ack 73 = .ok (.if_icmp .ne 43, 3) := by decide +kernel
theorem dX4_ack_76 : decode cX4_ack 76 = .ok (.aload_n 0, 1) := by decide +kernel
theorem dX4_ack_77 : decode cX4_ack 77 = .ok (.invokevirtual 151, 3) := by decide +kernel
theorem dX4_ack_80 : decode cX4_ack 80 = .ok (.ifCond .ne 5, 3) := by decide +kernel
theorem dX4_ack_83 : decode cX4_ack 83 = .ok (.iconst 3, 1) := by decide +kernel
theorem dX4_ack_84 : decode cX4_ack 84 = .ok (.ireturn, 1) := by decide +kernel
theorem dX4_ack_85 : decode cX4_ack 85 = .ok (.aload_n 0, 1) := by decide +kernel
theorem dX4_ack_86 : decode cX4_ack 86 = .ok (.iload_n 1, 1) := by decide +kernel
theorem dX4_ack_87 : decode cX4_ack 87 = .ok (.iload_n 2, 1) := by decide +kernel
theorem dX4_ack_88 : decode cX4_ack 88 = .ok (.aload_n 0, 1) := by decide +kernel
theorem dX4_ack_89 : decode cX4_ack 89 = .ok (.getfield 32, 3) := by decide +kernel
theorem dX4_ack_92 : decode cX4_ack 92 = .ok (.iload 5, 2) := by decide +kernel
theorem dX4_ack_94 : decode cX4_ack 94 = .ok (.iaload, 1) := by decide +kernel
theorem dX4_ack_95 : decode cX4_ack 95 = .ok (.invokevirtual 155, 3) := by decide +kernel
theorem dX4_ack_98 : decode cX4_ack 98 = .ok (.aload_n 0, 1) := by decide +kernel
theorem dX4_ack_99 : decode cX4_ack 99 = .ok (.iload 5, 2) := by decide +kernel
theorem dX4_ack_101 : decode cX4_ack 101 = .ok (.invokevirtual 133, 3) := by decide +kernel
theorem dX4_ack_104 : decode cX4_ack 104 = .ok (.aload_n 0, 1) := by decide +kernel
theorem dX4_ack_105 : decode cX4_ack 105 = .ok (.getfield 51, 3) := by decide +kernel
theorem dX4_ack_108 : decode cX4_ack 108 = .ok (.iconst 1, 1) := by decide +kernel
theorem dX4_ack_109 : decode cX4_ack 109 = .ok (.dup2, 1) := by decide +kernel
theorem dX4_ack_110 : decode cX4_ack 110 = .ok (.iaload, 1) := by decide +kernel
theorem dX4_ack_111 : decode cX4_ack 111 = .ok (.iconst 1, 1) := by decide +kernel
theorem dX4_ack_112 : decode cX4_ack 112 = .ok (.iadd, 1) := by decide +kernel
theorem dX4_ack_113 : decode cX4_ack 113 = .ok (.iastore, 1) := by decide +kernel
theorem dX4_ack_114 : decode cX4_ack 114 = .ok (.iconst 2, 1) := by decide +kernel
theorem dX4_ack_115 : decode cX4_ack 115 = .ok (.ireturn, 1) := by decide +kernel
theorem dX4_ack_116 : decode cX4_ack 116 = .ok (.iload 5, 2) := by decide +kernel
theorem dX4_ack_118 : decode cX4_ack 118 = .ok (.ifCond .lt 5, 3) := by decide +kernel
theorem dX4_ack_121 : decode cX4_ack 121 = .ok (.iconst 4, 1) := by decide +kernel
theorem dX4_ack_122 : decode cX4_ack 122 = .ok (.ireturn, 1) := by decide +kernel
theorem dX4_ack_123 : decode cX4_ack 123 = .ok (.aload_n 0, 1) := by decide +kernel
theorem dX4_ack_124 : decode cX4_ack 124 = .ok (.getfield 16, 3) := by decide +kernel
theorem dX4_ack_127 : decode cX4_ack 127 = .ok (.ifCond .lt 18, 3) := by decide +kernel
theorem dX4_ack_130 : decode cX4_ack 130 = .ok (.aload_n 0, 1) := by decide +kernel
theorem dX4_ack_131 : decode cX4_ack 131 = .ok (.getfield 130, 3) := by decide +kernel
theorem dX4_ack_134 : decode cX4_ack 134 = .ok (.aload_n 0, 1) := by decide +kernel
theorem dX4_ack_135 : decode cX4_ack 135 = .ok (.getfield 16, 3) := by decide +kernel
theorem dX4_ack_138 : decode cX4_ack 138 = .ok (.isub, 1) := by decide +kernel
theorem dX4_ack_139 : decode cX4_ack 139 = .ok (.sipush 128, 3) := by decide +kernel
theorem dX4_ack_142 : decode cX4_ack 142 = .ok (.if_icmp .le 16, 3) := by decide +kernel
theorem dX4_ack_145 : decode cX4_ack 145 = .ok (.aload_n 0, 1) := by decide +kernel
theorem dX4_ack_146 : decode cX4_ack 146 = .ok (.getfield 51, 3) := by decide +kernel
theorem dX4_ack_149 : decode cX4_ack 149 = .ok (.iconst 3, 1) := by decide +kernel
theorem dX4_ack_150 : decode cX4_ack 150 = .ok (.dup2, 1) := by decide +kernel
theorem dX4_ack_151 : decode cX4_ack 151 = .ok (.iaload, 1) := by decide +kernel
theorem dX4_ack_152 : decode cX4_ack 152 = .ok (.iconst 1, 1) := by decide +kernel
theorem dX4_ack_153 : decode cX4_ack 153 = .ok (.iadd, 1) := by decide +kernel
theorem dX4_ack_154 : decode cX4_ack 154 = .ok (.iastore, 1) := by decide +kernel
theorem dX4_ack_155 : decode cX4_ack 155 = .ok (.bipush 8, 2) := by decide +kernel
theorem dX4_ack_157 : decode cX4_ack 157 = .ok (.ireturn, 1) := by decide +kernel
theorem dX4_ack_158 : decode cX4_ack 158 = .ok (.iload 4, 2) := by decide +kernel
theorem dX4_ack_160 : decode cX4_ack 160 = .ok (.iconst 1, 1) := by decide +kernel
theorem dX4_ack_161 : decode cX4_ack 161 = .ok (.isub, 1) := by decide +kernel
theorem dX4_ack_162 : decode cX4_ack 162 = .ok (.istore 6, 2) := by decide +kernel
theorem dX4_ack_164 : decode cX4_ack 164 = .ok (.iload 6, 2) := by decide +kernel
theorem dX4_ack_166 : decode cX4_ack 166 = .ok (.bipush 24, 2) := by decide +kernel
theorem dX4_ack_168 : decode cX4_ack 168 = .ok (.iushr, 1) := by decide +kernel
theorem dX4_ack_169 : decode cX4_ack 169 = .ok (.bipush 7, 2) := by decide +kernel
theorem dX4_ack_171 : decode cX4_ack 171 = .ok (.iand, 1) := by decide +kernel
theorem dX4_ack_172 : decode cX4_ack 172 = .ok (.istore 7, 2) := by decide +kernel
theorem dX4_ack_174 : decode cX4_ack 174 = .ok (.aload_n 0, 1) := by decide +kernel
theorem dX4_ack_175 : decode cX4_ack 175 = .ok (.getfield 130, 3) := by decide +kernel
theorem dX4_ack_178 : decode cX4_ack 178 = .ok (.bipush 64, 2) := by decide +kernel
theorem dX4_ack_180 : decode cX4_ack 180 = .ok (.idiv, 1) := by decide +kernel
theorem dX4_ack_181 : decode cX4_ack 181 = .ok (.istore 8, 2) := by decide +kernel
theorem dX4_ack_183 : decode cX4_ack 183 = .ok (.iload 6, 2) := by decide +kernel
theorem dX4_ack_185 : decode cX4_ack 185 = .ok (.aload_n 0, 1) := by decide +kernel
theorem dX4_ack_186 : decode cX4_ack 186 = .ok (.iload_n 1, 1) := by decide +kernel
theorem dX4_ack_187 : decode cX4_ack 187 = .ok (.iload_n 2, 1) := by decide +kernel
theorem dX4_ack_188 : decode cX4_ack 188 = .ok (.iload_n 3, 1) := by decide +kernel
theorem dX4_ack_189 : decode cX4_ack 189 = .ok (.iconst 1, 1) := by decide +kernel
theorem dX4_ack_190 : decode cX4_ack 190 = .ok (.isub, 1) := by decide +kernel
theorem dX4_ack_191 : decode cX4_ack 191 = .ok (.iload 7, 2) := by decide +kernel
theorem dX4_ack_193 : decode cX4_ack 193 = .ok (.iload 8, 2) := by decide +kernel
theorem dX4_ack_195 : decode cX4_ack 195 = .ok (.invokevirtual 116, 3) := by decide +kernel
theorem dX4_ack_198 : decode cX4_ack 198 = .ok (.if_icmp .ne 7, 3) := by decide +kernel
theorem dX4_ack_201 : decode cX4_ack 201 = .ok (.iconst 1, 1) := by decide +kernel
theorem dX4_ack_202 : decode cX4_ack 202 = .ok (.goto 4, 3) := by decide +kernel
theorem dX4_ack_205 : decode cX4_ack 205 = .ok (.iconst 0, 1) := by decide +kernel
theorem dX4_ack_206 : decode cX4_ack 206 = .ok (.istore 9, 2) := by decide +kernel
theorem dX4_ack_208 : decode cX4_ack 208 = .ok (.iload 9, 2) := by decide +kernel
theorem dX4_ack_210 : decode cX4_ack 210 = .ok (.ifCond .ne 28, 3) := by decide +kernel
theorem dX4_ack_213 : decode cX4_ack 213 = .ok (.iload 8, 2) := by decide +kernel
theorem dX4_ack_215 : decode cX4_ack 215 = .ok (.ifCond .le 27, 3) := by decide +kernel
theorem dX4_ack_218 : decode cX4_ack 218 = .ok (.iload 6, 2) := by decide +kernel
theorem dX4_ack_220 : decode cX4_ack 220 = .ok (.aload_n 0, 1) := by decide +kernel
theorem dX4_ack_221 : decode cX4_ack 221 = .ok (.iload_n 1, 1) := by decide +kernel
theorem dX4_ack_222 : decode cX4_ack 222 = .ok (.iload_n 2, 1) := by decide +kernel
theorem dX4_ack_223 : decode cX4_ack 223 = .ok (.iload_n 3, 1) := by decide +kernel
theorem dX4_ack_224 : decode cX4_ack 224 = .ok (.iconst 1, 1) := by decide +kernel
theorem dX4_ack_225 : decode cX4_ack 225 = .ok (.isub, 1) := by decide +kernel
theorem dX4_ack_226 : decode cX4_ack 226 = .ok (.iload 7, 2) := by decide +kernel
theorem dX4_ack_228 : decode cX4_ack 228 = .ok (.iload 8, 2) := by decide +kernel
theorem dX4_ack_230 : decode cX4_ack 230 = .ok (.iconst 1, 1) := by decide +kernel
theorem dX4_ack_231 : decode cX4_ack 231 = .ok (.isub, 1) := by decide +kernel
theorem dX4_ack_232 : decode cX4_ack 232 = .ok (.invokevirtual 116, 3) := by decide +kernel
theorem dX4_ack_235 : decode cX4_ack 235 = .ok (.if_icmp .ne 7, 3) := by decide +kernel
theorem dX4_ack_238 : decode cX4_ack 238 = .ok (.iconst 1, 1) := by decide +kernel
theorem dX4_ack_239 : decode cX4_ack 239 = .ok (.goto 4, 3) := by decide +kernel
theorem dX4_ack_242 : decode cX4_ack 242 = .ok (.iconst 0, 1) := by decide +kernel
theorem dX4_ack_243 : decode cX4_ack 243 = .ok (.istore 9, 2) := by decide +kernel
theorem dX4_ack_245 : decode cX4_ack 245 = .ok (.iload 9, 2) := by decide +kernel
theorem dX4_ack_247 : decode cX4_ack 247 = .ok (.ifCond .ne 16, 3) := by decide +kernel
theorem dX4_ack_250 : decode cX4_ack 250 = .ok (.aload_n 0, 1) := by decide +kernel
theorem dX4_ack_251 : decode cX4_ack 251 = .ok (.getfield 51, 3) := by decide +kernel
theorem dX4_ack_254 : decode cX4_ack 254 = .ok (.iconst 3, 1) := by decide +kernel
theorem dX4_ack_255 : decode cX4_ack 255 = .ok (.dup2, 1) := by decide +kernel
theorem dX4_ack_256 : decode cX4_ack 256 = .ok (.iaload, 1) := by decide +kernel
theorem dX4_ack_257 : decode cX4_ack 257 = .ok (.iconst 1, 1) := by decide +kernel
theorem dX4_ack_258 : decode cX4_ack 258 = .ok (.iadd, 1) := by decide +kernel
theorem dX4_ack_259 : decode cX4_ack 259 = .ok (.iastore, 1) := by decide +kernel
theorem dX4_ack_260 : decode cX4_ack 260 = .ok (.bipush 7, 2) := by decide +kernel
theorem dX4_ack_262 : decode cX4_ack 262 = .ok (.ireturn, 1) := by decide +kernel
theorem dX4_ack_263 : decode cX4_ack 263 = .ok (.aload_n 0, 1) := by decide +kernel
theorem dX4_ack_264 : decode cX4_ack 264 = .ok (.invokevirtual 151, 3) := by decide +kernel
theorem dX4_ack_267 : decode cX4_ack 267 = .ok (.ifCond .ne 6, 3) := by decide +kernel
theorem dX4_ack_270 : decode cX4_ack 270 = .ok (.bipush 6, 2) := by decide +kernel
theorem dX4_ack_272 : decode cX4_ack 272 = .ok (.ireturn, 1) := by decide +kernel
theorem dX4_ack_273 : decode cX4_ack 273 = .ok (.aload_n 0, 1) := by decide +kernel
theorem dX4_ack_274 : decode cX4_ack 274 = .ok (.iload_n 1, 1) := by decide +kernel
theorem dX4_ack_275 : decode cX4_ack 275 = .ok (.iload_n 2, 1) := by decide +kernel
theorem dX4_ack_276 : decode cX4_ack 276 = .ok (.iload 7, 2) := by decide +kernel
theorem dX4_ack_278 : decode cX4_ack 278 = .ok (.invokevirtual 155, 3) := by decide +kernel
theorem dX4_ack_281 : decode cX4_ack 281 = .ok (.aload_n 0, 1) := by decide +kernel
theorem dX4_ack_282 : decode cX4_ack 282 = .ok (.getfield 51, 3) := by decide +kernel
theorem dX4_ack_285 : decode cX4_ack 285 = .ok (.iconst 2, 1) := by decide +kernel
theorem dX4_ack_286 : decode cX4_ack 286 = .ok (.dup2, 1) := by decide +kernel
theorem dX4_ack_287 : decode cX4_ack 287 = .ok (.iaload, 1) := by decide +kernel
theorem dX4_ack_288 : decode cX4_ack 288 = .ok (.iconst 1, 1) := by decide +kernel
theorem dX4_ack_289 : decode cX4_ack 289 = .ok (.iadd, 1) := by decide +kernel
theorem dX4_ack_290 : decode cX4_ack 290 = .ok (.iastore, 1) := by decide +kernel
theorem dX4_ack_291 : decode cX4_ack 291 = .ok (.iconst 5, 1) := by decide +kernel
theorem dX4_ack_292 : decode cX4_ack 292 = .ok (.ireturn, 1) := by decide +kernel
theorem dX4_take__0 : decode cX4_take_ 0 = .ok (.aload_n 0, 1) := by decide +kernel
theorem dX4_take__1 : decode cX4_take_ 1 = .ok (.iconst 0, 1) := by decide +kernel
theorem dX4_take__2 : decode cX4_take_ 2 = .ok (.putfield 54, 3) := by decide +kernel
theorem dX4_take__5 : decode cX4_take_ 5 = .ok (.iconst 0, 1) := by decide +kernel
theorem dX4_take__6 : decode cX4_take_ 6 = .ok (.istore_n 1, 1) := by decide +kernel
theorem dX4_take__7 : decode cX4_take_ 7 = .ok (.iload_n 1, 1) := by decide +kernel
theorem dX4_take__8 : decode cX4_take_ 8 = .ok (.aload_n 0, 1) := by decide +kernel
theorem dX4_take__9 : decode cX4_take_ 9 = .ok (.getfield 123, 3) := by decide +kernel
theorem dX4_take__12 : decode cX4_take_ 12 = .ok (.if_icmp .ge 42, 3) := by decide +kernel
theorem dX4_take__15 : decode cX4_take_ 15 = .ok (.aload_n 0, 1) := by decide +kernel
theorem dX4_take__16 : decode cX4_take_ 16 = .ok (.getfield 47, 3) := by decide +kernel
theorem dX4_take__19 : decode cX4_take_ 19 = .ok (.iload_n 1, 1) := by decide +kernel
theorem dX4_take__20 : decode cX4_take_ 20 = .ok (.baload, 1) := by decide +kernel
theorem dX4_take__21 : decode cX4_take_ 21 = .ok (.ifCond .ne 27, 3) := by decide +kernel
theorem dX4_take__24 : decode cX4_take_ 24 = .ok (.aload_n 0, 1) := by decide +kernel
theorem dX4_take__25 : decode cX4_take_ 25 = .ok (.getfield 47, 3) := by decide +kernel
theorem dX4_take__28 : decode cX4_take_ 28 = .ok (.iload_n 1, 1) := by decide +kernel
theorem dX4_take__29 : decode cX4_take_ 29 = .ok (.iconst 1, 1) := by decide +kernel
theorem dX4_take__30 : decode cX4_take_ 30 = .ok (.bastore, 1) := by decide +kernel
theorem dX4_take__31 : decode cX4_take_ 31 = .ok (.aload_n 0, 1) := by decide +kernel
theorem dX4_take__32 : decode cX4_take_ 32 = .ok (.getfield 41, 3) := by decide +kernel
theorem dX4_take__35 : decode cX4_take_ 35 = .ok (.iload_n 1, 1) := by decide +kernel
theorem dX4_take__36 : decode cX4_take_ 36 = .ok (.iaload, 1) := by decide +kernel
theorem dX4_take__37 : decode cX4_take_ 37 = .ok (.ldc 159, 2) := by decide +kernel
theorem dX4_take__39 : decode cX4_take_ 39 = .ok (.aload_n 0, 1) := by decide +kernel
theorem dX4_take__40 : decode cX4_take_ 40 = .ok (.getfield 44, 3) := by decide +kernel
theorem dX4_take__43 : decode cX4_take_ 43 = .ok (.iload_n 1, 1) := by decide +kernel
theorem dX4_take__44 : decode cX4_take_ 44 = .ok (.iaload, 1) := by decide +kernel
theorem dX4_take__45 : decode cX4_take_ 45 = .ok (.imul, 1) := by decide +kernel
theorem dX4_take__46 : decode cX4_take_ 46 = .ok (.iadd, 1) := by decide +kernel
theorem dX4_take__47 : decode cX4_take_ 47 = .ok (.ireturn, 1) := by decide +kernel
theorem dX4_take__48 : decode cX4_take_ 48 = .ok (.iinc 1 1, 3) := by decide +kernel
theorem dX4_take__51 : decode cX4_take_ 51 = .ok (.goto (-44), 3) := by decide +kernel
theorem dX4_take__54 : decode cX4_take_ 54 = .ok (.iconst (-1), 1) := by decide +kernel
theorem dX4_take__55 : decode cX4_take_ 55 = .ok (.ireturn, 1) := by decide +kernel
set_option maxRecDepth 20000 in
theorem ggX4_stateOf_X4_opened : GoodIn wsX4_stateOf wsX4_opened := goodIn_r _ [6, 7, 8, 9, 17, 18, 19, 20, 21, 22, 23, 24, 25, 26, 27, 28, 29, 30, 31, 32, 33, 34, 35, 36, 37, 38, 39, 40] (by decide +kernel) (by decide +kernel)
set_option maxRecDepth 20000 in
theorem gX4_stateOf_X4_opened : GoodIn wsX4_stateOf (wsV RX4 137 RX4 yX4_opened wsX4_opened) := goodIn_app (goodIn_of _ (by decide +kernel)) ggX4_stateOf_X4_opened
set_option maxRecDepth 20000 in
theorem ggX4_stateOf_X4_half : GoodIn wsX4_stateOf wsX4_half := goodIn_r _ [13, 14, 15, 16, 17, 18, 19, 20, 21, 22, 23, 24, 25, 26, 27, 28, 29, 30, 31, 32, 33, 34, 35, 36, 37, 38, 39, 40] (by decide +kernel) (by decide +kernel)
set_option maxRecDepth 20000 in
theorem gX4_stateOf_X4_half : GoodIn wsX4_stateOf (wsV RX4 143 RX4 yX4_half wsX4_half) := goodIn_app (goodIn_of _ (by decide +kernel)) ggX4_stateOf_X4_half
theorem dX4_stateOf_0 : decode cX4_stateOf 0 = .ok (.aload_n 0, 1) := by decide +kernel
theorem dX4_stateOf_1 : decode cX4_stateOf 1 = .ok (.iload_n 1, 1) := by decide +kernel
theorem dX4_stateOf_2 : decode cX4_stateOf 2 = .ok (.iload_n 2, 1) := by decide +kernel
theorem dX4_stateOf_3 : decode cX4_stateOf 3 = .ok (.invokevirtual 137, 3) := by decide +kernel
theorem dX4_stateOf_6 : decode cX4_stateOf 6 = .ok (.istore_n 3, 1) := by decide +kernel
theorem dX4_stateOf_7 : decode cX4_stateOf 7 = .ok (.iload_n 3, 1) := by decide +kernel
theorem dX4_stateOf_8 : decode cX4_stateOf 8 = .ok (.ifCond .lt 20, 3) := by decide +kernel
theorem dX4_stateOf_11 : decode cX4_stateOf 11 = .ok (.aload_n 0, 1) := by decide +kernel
theorem dX4_stateOf_12 : decode cX4_stateOf 12 = .ok (.getfield 47, 3) := by decide +kernel
theorem dX4_stateOf_15 : decode cX4_stateOf 15 = .ok (.iload_n 3, 1) := by decide +kernel
theorem dX4_stateOf_16 : decode cX4_stateOf 16 = .ok (.baload, 1) := by decide +kernel
theorem dX4_stateOf_17 : decode cX4_stateOf 17 = .ok (.ifCond .eq 7, 3) := by decide +kernel
theorem dX4_stateOf_20 : decode cX4_stateOf 20 = .ok (.iconst 3, 1) := by decide +kernel
theorem dX4_stateOf_21 : decode cX4_stateOf 21 = .ok (.goto 21, 3) := by decide +kernel
theorem dX4_stateOf_24 : decode cX4_stateOf 24 = .ok (.iconst 2, 1) := by decide +kernel
theorem dX4_stateOf_25 : decode cX4_stateOf 25 = .ok (.goto 17, 3) := by decide +kernel
theorem dX4_stateOf_28 : decode cX4_stateOf 28 = .ok (.aload_n 0, 1) := by decide +kernel
theorem dX4_stateOf_29 : decode cX4_stateOf 29 = .ok (.iload_n 1, 1) := by decide +kernel
theorem dX4_stateOf_30 : decode cX4_stateOf 30 = .ok (.iload_n 2, 1) := by decide +kernel
theorem dX4_stateOf_31 : decode cX4_stateOf 31 = .ok (.invokevirtual 143, 3) := by decide +kernel
theorem dX4_stateOf_34 : decode cX4_stateOf 34 = .ok (.ifCond .lt 7, 3) := by decide +kernel
theorem dX4_stateOf_37 : decode cX4_stateOf 37 = .ok (.iconst 1, 1) := by decide +kernel
theorem dX4_stateOf_38 : decode cX4_stateOf 38 = .ok (.goto 4, 3) := by decide +kernel
theorem dX4_stateOf_41 : decode cX4_stateOf 41 = .ok (.iconst 0, 1) := by decide +kernel
theorem dX4_stateOf_42 : decode cX4_stateOf 42 = .ok (.ireturn, 1) := by decide +kernel
set_option maxRecDepth 20000 in
theorem ggX4_close_X4_noPort : GoodIn wsX4_close wsX4_noPort := goodIn_r _ [5, 6] (by decide +kernel) (by decide +kernel)
set_option maxRecDepth 20000 in
theorem gX4_close_X4_noPort : GoodIn wsX4_close (va_wsS RX4 112 yX4_noPort wsX4_noPort) := goodIn_app (goodIn_of _ (by decide +kernel)) ggX4_close_X4_noPort
set_option maxRecDepth 20000 in
theorem ggX4_close_X4_stateOf : GoodIn wsX4_close wsX4_stateOf := goodIn_r _ [10, 11, 12, 13, 14, 4, 15, 16, 17, 18, 19, 20, 21, 22, 23, 24, 25, 39, 40, 41, 42, 43, 44, 45, 46, 47, 48, 49, 50, 51, 52, 53, 54, 55, 56, 57, 58, 59, 60, 61, 62] (by decide +kernel) (by decide +kernel)
set_option maxRecDepth 20000 in
theorem gX4_close_X4_stateOf : GoodIn wsX4_close (wsV RX4 160 RX4 yX4_stateOf wsX4_stateOf) := goodIn_app (goodIn_of _ (by decide +kernel)) ggX4_close_X4_stateOf
set_option maxRecDepth 20000 in
theorem ggX4_close_X4_half : GoodIn wsX4_close wsX4_half := goodIn_r _ [22, 23, 24, 25, 39, 40, 41, 42, 43, 44, 45, 46, 47, 48, 49, 50, 51, 52, 53, 54, 55, 56, 57, 58, 59, 60, 61, 62] (by decide +kernel) (by decide +kernel)
set_option maxRecDepth 20000 in
theorem gX4_close_X4_half : GoodIn wsX4_close (wsV RX4 143 RX4 yX4_half wsX4_half) := goodIn_app (goodIn_of _ (by decide +kernel)) ggX4_close_X4_half
set_option maxRecDepth 20000 in
theorem ggX4_close_X4_dropHalf : GoodIn wsX4_close wsX4_dropHalf := goodIn_r _ [29, 23, 24, 25, 30, 31, 32, 33, 39, 40, 41, 42, 43, 44, 45, 46, 47, 48, 49, 50, 51, 52, 53, 54, 55, 56, 57, 58, 59, 60, 61, 62] (by decide +kernel) (by decide +kernel)
set_option maxRecDepth 20000 in
theorem gX4_close_X4_dropHalf : GoodIn wsX4_close (wsV RX4 133 RX4 yX4_dropHalf wsX4_dropHalf) := goodIn_app (goodIn_of _ (by decide +kernel)) ggX4_close_X4_dropHalf
set_option maxRecDepth 20000 in
theorem ggX4_close_X4_opened : GoodIn wsX4_close wsX4_opened := goodIn_r _ [15, 16, 17, 18, 39, 40, 41, 42, 43, 44, 45, 46, 47, 48, 49, 50, 51, 52, 53, 54, 55, 56, 57, 58, 59, 60, 61, 62] (by decide +kernel) (by decide +kernel)
set_option maxRecDepth 20000 in
theorem gX4_close_X4_opened : GoodIn wsX4_close (wsV RX4 137 RX4 yX4_opened wsX4_opened) := goodIn_app (goodIn_of _ (by decide +kernel)) ggX4_close_X4_opened
set_option maxRecDepth 20000 in
theorem ggX4_close_X4_dropOpen : GoodIn wsX4_close wsX4_dropOpen := goodIn_r _ [37, 16, 17, 18, 38, 11, 39, 40, 41, 42, 43, 44, 45, 46, 47, 48, 49, 50, 51, 52, 53, 54, 55, 56, 57, 58, 59, 60, 61, 62] (by decide +kernel) (by decide +kernel)
set_option maxRecDepth 20000 in
theorem gX4_close_X4_dropOpen : GoodIn wsX4_close (wsV RX4 163 RX4 yX4_dropOpen wsX4_dropOpen) := goodIn_app (goodIn_of _ (by decide +kernel)) ggX4_close_X4_dropOpen
theorem dX4_close_0 : decode cX4_close 0 = .ok (.aload_n 0, 1) := by decide +kernel
theorem dX4_close_1 : decode cX4_close 1 = .ok (.iload_n 2, 1) := by decide +kernel
theorem dX4_close_2 : decode cX4_close 2 = .ok (.invokestatic 112, 3) := by decide +kernel
theorem dX4_close_5 : decode cX4_close 5 = .ok (.ifCond .eq 7, 3) := by decide +kernel
theorem dX4_close_8 : decode cX4_close 8 = .ok (.iconst 1, 1) := by decide +kernel
theorem dX4_close_9 : decode cX4_close 9 = .ok (.goto 4, 3) := by decide +kernel
theorem dX4_close_12 : decode cX4_close 12 = .ok (.iconst 0, 1) := by decide +kernel
theorem dX4_close_13 : decode cX4_close 13 = .ok (.putfield 54, 3) := by decide +kernel
theorem dX4_close_16 : decode cX4_close 16 = .ok (.aload_n 0, 1) := by decide +kernel
theorem dX4_close_17 : decode cX4_close 17 = .ok (.getfield 54, 3) := by decide +kernel
theorem dX4_close_20 : decode cX4_close 20 = .ok (.ifCond .le 5, 3) := by decide +kernel
theorem dX4_close_23 : decode cX4_close 23 = .ok (.iconst 0, 1) := by decide +kernel
theorem dX4_close_24 : decode cX4_close 24 = .ok (.ireturn, 1) := by decide +kernel
theorem dX4_close_25 : decode cX4_close 25 = .ok (.aload_n 0, 1) := by decide +kernel
theorem dX4_close_26 : decode cX4_close 26 = .ok (.iload_n 1, 1) := by decide +kernel
theorem dX4_close_27 : decode cX4_close 27 = .ok (.iload_n 2, 1) := by decide +kernel
theorem dX4_close_28 : decode cX4_close 28 = .ok (.invokevirtual 160, 3) := by decide +kernel
theorem dX4_close_31 : decode cX4_close 31 = .ok (.istore_n 3, 1) := by decide +kernel
theorem dX4_close_32 : decode cX4_close 32 = .ok (.iload_n 3, 1) := by decide +kernel
theorem dX4_close_33 : decode cX4_close 33 = .ok (.iconst 1, 1) := by decide +kernel
theorem dX4_close_34 : decode cX4_close 34 = .ok (.if_icmp .ne 16, 3) := by decide +kernel
theorem dX4_close_37 : decode cX4_close 37 = .ok (.aload_n 0, 1) := by decide +kernel
theorem dX4_close_38 : decode cX4_close 38 = .ok (.aload_n 0, 1) := by decide +kernel
theorem dX4_close_39 : decode cX4_close 39 = .ok (.iload_n 1, 1) := by decide +kernel
theorem dX4_close_40 : decode cX4_close 40 = .ok (.iload_n 2, 1) := by decide +kernel
theorem dX4_close_41 : decode cX4_close 41 = .ok (.invokevirtual 143, 3) := by decide +kernel
theorem dX4_close_44 : decode cX4_close 44 = .ok (.invokevirtual 133, 3) := by decide +kernel
theorem dX4_close_47 : decode cX4_close 47 = .ok (.goto 18, 3) := by decide +kernel
theorem dX4_close_50 : decode cX4_close 50 = .ok (.iload_n 3, 1) := by decide +kernel
theorem dX4_close_51 : decode cX4_close 51 = .ok (.iconst 1, 1) := by decide +kernel
theorem dX4_close_52 : decode cX4_close 52 = .ok (.if_icmp .le 13, 3) := by decide +kernel
theorem dX4_close_55 : decode cX4_close 55 = .ok (.aload_n 0, 1) := by decide +kernel
theorem dX4_close_56 : decode cX4_close 56 = .ok (.aload_n 0, 1) := by decide +kernel
theorem dX4_close_57 : decode cX4_close 57 = .ok (.iload_n 1, 1) := by decide +kernel
theorem dX4_close_58 : decode cX4_close 58 = .ok (.iload_n 2, 1) := by decide +kernel
theorem dX4_close_59 : decode cX4_close 59 = .ok (.invokevirtual 137, 3) := by decide +kernel
theorem dX4_close_62 : decode cX4_close 62 = .ok (.invokevirtual 163, 3) := by decide +kernel
theorem dX4_close_65 : decode cX4_close 65 = .ok (.iload_n 3, 1) := by decide +kernel
theorem dX4_close_66 : decode cX4_close 66 = .ok (.ireturn, 1) := by decide +kernel
set_option maxRecDepth 20000 in
theorem ggX4_state_X4_noPort : GoodIn wsX4_state wsX4_noPort := goodIn_r _ [5, 6] (by decide +kernel) (by decide +kernel)
set_option maxRecDepth 20000 in
theorem gX4_state_X4_noPort : GoodIn wsX4_state (va_wsS RX4 112 yX4_noPort wsX4_noPort) := goodIn_app (goodIn_of _ (by decide +kernel)) ggX4_state_X4_noPort
set_option maxRecDepth 20000 in
theorem ggX4_state_X4_stateOf : GoodIn wsX4_state wsX4_stateOf := goodIn_r _ [10, 11, 12, 13, 14, 4, 15, 16, 17, 18, 19, 20, 21, 22, 23, 24, 25, 26, 27, 28, 29, 30, 31, 32, 33, 34, 35, 36, 37, 38, 39, 40, 41, 42, 43, 44, 45, 46, 47, 48, 49] (by decide +kernel) (by decide +kernel)
set_option maxRecDepth 20000 in
theorem gX4_state_X4_stateOf : GoodIn wsX4_state (wsV RX4 160 RX4 yX4_stateOf wsX4_stateOf) := goodIn_app (goodIn_of _ (by decide +kernel)) ggX4_state_X4_stateOf
theorem dX4_state_0 : decode cX4_state 0 = .ok (.aload_n 0, 1) := by decide +kernel
theorem dX4_state_1 : decode cX4_state 1 = .ok (.iload_n 2, 1) := by decide +kernel
theorem dX4_state_2 : decode cX4_state 2 = .ok (.invokestatic 112, 3) := by decide +kernel
theorem dX4_state_5 : decode cX4_state 5 = .ok (.ifCond .eq 7, 3) := by decide +kernel
theorem dX4_state_8 : decode cX4_state 8 = .ok (.iconst 1, 1) := by decide +kernel
theorem dX4_state_9 : decode cX4_state 9 = .ok (.goto 4, 3) := by decide +kernel
theorem dX4_state_12 : decode cX4_state 12 = .ok (.iconst 0, 1) := by decide +kernel
theorem dX4_state_13 : decode cX4_state 13 = .ok (.putfield 54, 3) := by decide +kernel
theorem dX4_state_16 : decode cX4_state 16 = .ok (.aload_n 0, 1) := by decide +kernel
theorem dX4_state_17 : decode cX4_state 17 = .ok (.getfield 54, 3) := by decide +kernel
theorem dX4_state_20 : decode cX4_state 20 = .ok (.ifCond .le 7, 3) := by decide +kernel
theorem dX4_state_23 : decode cX4_state 23 = .ok (.iconst 0, 1) := by decide +kernel
theorem dX4_state_24 : decode cX4_state 24 = .ok (.goto 9, 3) := by decide +kernel
theorem dX4_state_27 : decode cX4_state 27 = .ok (.aload_n 0, 1) := by decide +kernel
theorem dX4_state_28 : decode cX4_state 28 = .ok (.iload_n 1, 1) := by decide +kernel
theorem dX4_state_29 : decode cX4_state 29 = .ok (.iload_n 2, 1) := by decide +kernel
theorem dX4_state_30 : decode cX4_state 30 = .ok (.invokevirtual 160, 3) := by decide +kernel
theorem dX4_state_33 : decode cX4_state 33 = .ok (.ireturn, 1) := by decide +kernel
set_option maxRecDepth 20000 in
theorem ggX4_told_X4_waiting : GoodIn wsX4_told wsX4_waiting := goodIn_r _ [10, 3, 11, 12, 13, 14, 15, 16, 17, 18, 19, 20, 21, 22, 23, 24, 25, 26, 27, 28, 29, 30, 31, 32, 33, 34, 35] (by decide +kernel) (by decide +kernel)
set_option maxRecDepth 20000 in
theorem gX4_told_X4_waiting : GoodIn wsX4_told (wsV RX4 126 RX4 yX4_waiting wsX4_waiting) := goodIn_app (goodIn_of _ (by decide +kernel)) ggX4_told_X4_waiting
theorem dX4_told_0 : decode cX4_told 0 = .ok (.aload_n 0, 1) := by decide +kernel
theorem dX4_told_1 : decode cX4_told 1 = .ok (.iload_n 1, 1) := by decide +kernel
theorem dX4_told_2 : decode cX4_told 2 = .ok (.ifCond .lt 9, 3) := by decide +kernel
theorem dX4_told_5 : decode cX4_told 5 = .ok (.iload_n 1, 1) := by decide +kernel
theorem dX4_told_6 : decode cX4_told 6 = .ok (.bipush 7, 2) := by decide +kernel
theorem dX4_told_8 : decode cX4_told 8 = .ok (.if_icmp .le 7, 3) := by decide +kernel
theorem dX4_told_11 : decode cX4_told 11 = .ok (.iconst 1, 1) := by decide +kernel
theorem dX4_told_12 : decode cX4_told 12 = .ok (.goto 4, 3) := by decide +kernel
theorem dX4_told_15 : decode cX4_told 15 = .ok (.iconst 0, 1) := by decide +kernel
theorem dX4_told_16 : decode cX4_told 16 = .ok (.putfield 54, 3) := by decide +kernel
theorem dX4_told_19 : decode cX4_told 19 = .ok (.aload_n 0, 1) := by decide +kernel
theorem dX4_told_20 : decode cX4_told 20 = .ok (.getfield 54, 3) := by decide +kernel
theorem dX4_told_23 : decode cX4_told 23 = .ok (.ifCond .le 5, 3) := by decide +kernel
theorem dX4_told_26 : decode cX4_told 26 = .ok (.iconst 0, 1) := by decide +kernel
theorem dX4_told_27 : decode cX4_told 27 = .ok (.ireturn, 1) := by decide +kernel
theorem dX4_told_28 : decode cX4_told 28 = .ok (.iload_n 1, 1) := by decide +kernel
theorem dX4_told_29 : decode cX4_told 29 = .ok (.ifCond .ne 10, 3) := by decide +kernel
theorem dX4_told_32 : decode cX4_told 32 = .ok (.aload_n 0, 1) := by decide +kernel
theorem dX4_told_33 : decode cX4_told 33 = .ok (.getfield 120, 3) := by decide +kernel
theorem dX4_told_36 : decode cX4_told 36 = .ok (.goto 48, 3) := by decide +kernel
theorem dX4_told_39 : decode cX4_told 39 = .ok (.iload_n 1, 1) := by decide +kernel
theorem dX4_told_40 : decode cX4_told 40 = .ok (.iconst 1, 1) := by decide +kernel
theorem dX4_told_41 : decode cX4_told 41 = .ok (.if_icmp .ne 10, 3) := by decide +kernel
theorem dX4_told_44 : decode cX4_told 44 = .ok (.aload_n 0, 1) := by decide +kernel
theorem dX4_told_45 : decode cX4_told 45 = .ok (.invokevirtual 126, 3) := by decide +kernel
theorem dX4_told_48 : decode cX4_told 48 = .ok (.goto 36, 3) := by decide +kernel
theorem dX4_told_51 : decode cX4_told 51 = .ok (.iload_n 1, 1) := by decide +kernel
theorem dX4_told_52 : decode cX4_told 52 = .ok (.iconst 2, 1) := by decide +kernel
theorem dX4_told_53 : decode cX4_told 53 = .ok (.if_icmp .ne 10, 3) := by decide +kernel
theorem dX4_told_56 : decode cX4_told 56 = .ok (.aload_n 0, 1) := by decide +kernel
theorem dX4_told_57 : decode cX4_told 57 = .ok (.getfield 123, 3) := by decide +kernel
theorem dX4_told_60 : decode cX4_told 60 = .ok (.goto 24, 3) := by decide +kernel
theorem dX4_told_63 : decode cX4_told 63 = .ok (.iload_n 1, 1) := by decide +kernel
theorem dX4_told_64 : decode cX4_told 64 = .ok (.bipush 7, 2) := by decide +kernel
theorem dX4_told_66 : decode cX4_told 66 = .ok (.if_icmp .ne 10, 3) := by decide +kernel
theorem dX4_told_69 : decode cX4_told 69 = .ok (.aload_n 0, 1) := by decide +kernel
theorem dX4_told_70 : decode cX4_told 70 = .ok (.getfield 130, 3) := by decide +kernel
theorem dX4_told_73 : decode cX4_told 73 = .ok (.goto 11, 3) := by decide +kernel
theorem dX4_told_76 : decode cX4_told 76 = .ok (.aload_n 0, 1) := by decide +kernel
theorem dX4_told_77 : decode cX4_told 77 = .ok (.getfield 51, 3) := by decide +kernel
theorem dX4_told_80 : decode cX4_told 80 = .ok (.iload_n 1, 1) := by decide +kernel
theorem dX4_told_81 : decode cX4_told 81 = .ok (.iconst 3, 1) := by decide +kernel
theorem dX4_told_82 : decode cX4_told 82 = .ok (.isub, 1) := by decide +kernel
theorem dX4_told_83 : decode cX4_told 83 = .ok (.iaload, 1) := by decide +kernel
theorem dX4_told_84 : decode cX4_told 84 = .ok (.ireturn, 1) := by decide +kernel
set_option maxRecDepth 20000 in
theorem ggL_rooms_X3_rooms : GoodIn wsL_rooms wsX3_rooms := goodIn_ca (goodIn_r _ [6, 7, 8, 9, 10, 5, 11, 12, 13, 14, 15, 16, 17, 18, 19, 20, 21, 22, 23, 24] (by decide +kernel) (by decide +kernel)) (goodIn_sub (fun _ h => List.mem_cons_of_mem _ (List.mem_append_right _ h)) (by decide +kernel))
set_option maxRecDepth 20000 in
theorem gL_rooms_X3_rooms : GoodIn wsL_rooms (wsV RL 7 RX3 yX3_rooms wsX3_rooms) := goodIn_app (goodIn_of _ (by decide +kernel)) ggL_rooms_X3_rooms
