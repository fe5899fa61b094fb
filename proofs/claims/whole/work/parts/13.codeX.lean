theorem dX0_init_0 : decode cX0_init 0 = .ok (.aload_n 0, 1) := by decide +kernel
theorem dX0_init_1 : decode cX0_init 1 = .ok (.invokespecial 3, 3) := by decide +kernel
theorem dX0_init_4 : decode cX0_init 4 = .ok (.aload_n 0, 1) := by decide +kernel
theorem dX0_init_5 : decode cX0_init 5 = .ok (.bipush 64, 2) := by decide +kernel
theorem dX0_init_7 : decode cX0_init 7 = .ok (.newarray .long, 2) := by decide +kernel
theorem dX0_init_9 : decode cX0_init 9 = .ok (.putfield 9, 3) := by decide +kernel
theorem dX0_init_12 : decode cX0_init 12 = .ok (.aload_n 0, 1) := by decide +kernel
theorem dX0_init_13 : decode cX0_init 13 = .ok (.bipush 64, 2) := by decide +kernel
theorem dX0_init_15 : decode cX0_init 15 = .ok (.newarray .int, 2) := by decide +kernel
theorem dX0_init_17 : decode cX0_init 17 = .ok (.putfield 15, 3) := by decide +kernel
theorem dX0_init_20 : decode cX0_init 20 = .ok (.aload_n 0, 1) := by decide +kernel
theorem dX0_init_21 : decode cX0_init 21 = .ok (.iconst 0, 1) := by decide +kernel
theorem dX0_init_22 : decode cX0_init 22 = .ok (.putfield 19, 3) := by decide +kernel
theorem dX0_init_25 : decode cX0_init 25 = .ok (.aload_n 0, 1) := by decide +kernel
theorem dX0_init_26 : decode cX0_init 26 = .ok (.iconst 0, 1) := by decide +kernel
theorem dX0_init_27 : decode cX0_init 27 = .ok (.putfield 23, 3) := by decide +kernel
theorem dX0_init_30 : decode cX0_init 30 = .ok (.return_, 1) := by decide +kernel
theorem dX0_waiting_0 : decode cX0_waiting 0 = .ok (.aload_n 0, 1) := by decide +kernel
theorem dX0_waiting_1 : decode cX0_waiting 1 = .ok (.getfield 19, 3) := by decide +kernel
theorem dX0_waiting_4 : decode cX0_waiting 4 = .ok (.aload_n 0, 1) := by decide +kernel
theorem dX0_waiting_5 : decode cX0_waiting 5 = .ok (.getfield 23, 3) := by decide +kernel
theorem dX0_waiting_8 : decode cX0_waiting 8 = .ok (.isub, 1) := by decide +kernel
theorem dX0_waiting_9 : decode cX0_waiting 9 = .ok (.ireturn, 1) := by decide +kernel
theorem dX0_isTaken_0 : decode cX0_isTaken 0 = .ok (.iload_n 1, 1) := by decide +kernel
theorem dX0_isTaken_1 : decode cX0_isTaken 1 = .ok (.aload_n 0, 1) := by decide +kernel
theorem dX0_isTaken_2 : decode cX0_isTaken 2 = .ok (.getfield 23, 3) := by decide +kernel
theorem dX0_isTaken_5 : decode cX0_isTaken 5 = .ok (.if_icmp .ge 7, 3) := by decide +kernel
theorem dX0_isTaken_8 : decode cX0_isTaken 8 = .ok (.iconst 1, 1) := by decide +kernel
theorem dX0_isTaken_9 : decode cX0_isTaken 9 = .ok (.goto 4, 3) := by decide +kernel
theorem dX0_isTaken_12 : decode cX0_isTaken 12 = .ok (.iconst 0, 1) := by decide +kernel
theorem dX0_isTaken_13 : decode cX0_isTaken 13 = .ok (.ireturn, 1) := by decide +kernel
set_option maxRecDepth 20000 in
theorem ggX0_hasRoom_X0_waiting : GoodIn wsX0_hasRoom wsX0_waiting := goodIn_r _ [6, 1, 7, 8, 9, 10, 11] (by decide +kernel) (by decide +kernel)
set_option maxRecDepth 20000 in
theorem gX0_hasRoom_X0_waiting : GoodIn wsX0_hasRoom (wsV RX0 26 RX0 yX0_waiting wsX0_waiting) := goodIn_app (goodIn_of _ (by decide +kernel)) ggX0_hasRoom_X0_waiting
theorem dX0_hasRoom_0 : decode cX0_hasRoom 0 = .ok (.aload_n 0, 1) := by decide +kernel
theorem dX0_hasRoom_1 : decode cX0_hasRoom 1 = .ok (.invokevirtual 26, 3) := by decide +kernel
theorem dX0_hasRoom_4 : decode cX0_hasRoom 4 = .ok (.iload_n 1, 1) := by decide +kernel
theorem dX0_hasRoom_5 : decode cX0_hasRoom 5 = .ok (.if_icmp .ge 16, 3) := by decide +kernel
theorem dX0_hasRoom_8 : decode cX0_hasRoom 8 = .ok (.aload_n 0, 1) := by decide +kernel
theorem dX0_hasRoom_9 : decode cX0_hasRoom 9 = .ok (.getfield 19, 3) := by decide +kernel
theorem dX0_hasRoom_12 : decode cX0_hasRoom 12 = .ok (.bipush 64, 2) := by decide +kernel
theorem dX0_hasRoom_14 : decode cX0_hasRoom 14 = .ok (.if_icmp .ge 7, 3) := by decide +kernel
theorem dX0_hasRoom_17 : decode cX0_hasRoom 17 = .ok (.iconst 1, 1) := by decide +kernel
theorem dX0_hasRoom_18 : decode cX0_hasRoom 18 = .ok (.goto 4, 3) := by decide +kernel
theorem dX0_hasRoom_21 : decode cX0_hasRoom 21 = .ok (.iconst 0, 1) := by decide +kernel
theorem dX0_hasRoom_22 : decode cX0_hasRoom 22 = .ok (.ireturn, 1) := by decide +kernel
theorem dX0_find_0 : decode cX0_find 0 = .ok (.iconst 0, 1) := by decide +kernel
theorem dX0_find_1 : decode cX0_find 1 = .ok (.istore_n 3, 1) := by decide +kernel
theorem dX0_find_2 : decode cX0_find 2 = .ok (.iload_n 3, 1) := by decide +kernel
theorem dX0_find_3 : decode cX0_find 3 = .ok (.aload_n 0, 1) := by decide +kernel
theorem dX0_find_4 : decode cX0_find 4 = .ok (.getfield 19, 3) := by decide +kernel
theorem dX0_find_7 : decode cX0_find 7 = .ok (.if_icmp .ge 22, 3) := by decide +kernel
theorem dX0_find_10 : decode cX0_find 10 = .ok (.aload_n 0, 1) := by decide +kernel
theorem dX0_find_11 : decode cX0_find 11 = .ok (.getfield 9, 3) := by decide +kernel
theorem dX0_find_14 : decode cX0_find 14 = .ok (.iload_n 3, 1) := by decide +kernel
theorem dX0_find_15 : decode cX0_find 15 = .ok (.laload, 1) := by decide +kernel
theorem dX0_find_16 : decode cX0_find 16 = .ok (.lload_n 1, 1) := by decide +kernel
theorem dX0_find_17 : decode cX0_find 17 = .ok (.lcmp, 1) := by decide +kernel
theorem dX0_find_18 : decode cX0_find 18 = .ok (.ifCond .ne 5, 3) := by decide +kernel
theorem dX0_find_21 : decode cX0_find 21 = .ok (.iload_n 3, 1) := by decide +kernel
theorem dX0_find_22 : decode cX0_find 22 = .ok (.ireturn, 1) := by decide +kernel
theorem dX0_find_23 : decode cX0_find 23 = .ok (.iinc 3 1, 3) := by decide +kernel
theorem dX0_find_26 : decode cX0_find 26 = .ok (.goto (-24), 3) := by decide +kernel
theorem dX0_find_29 : decode cX0_find 29 = .ok (.iconst (-1), 1) := by decide +kernel
theorem dX0_find_30 : decode cX0_find 30 = .ok (.ireturn, 1) := by decide +kernel
theorem dX0_add_0 : decode cX0_add 0 = .ok (.aload_n 0, 1) := by decide +kernel
theorem dX0_add_1 : decode cX0_add 1 = .ok (.getfield 19, 3) := by decide +kernel
theorem dX0_add_4 : decode cX0_add 4 = .ok (.bipush 64, 2) := by decide +kernel
theorem dX0_add_6 : decode cX0_add 6 = .ok (.if_icmp .lt 4, 3) := by decide +kernel
theorem dX0_add_9 : decode cX0_add 9 = .ok (.return_, 1) := by decide +kernel
theorem dX0_add_10 : decode cX0_add 10 = .ok (.aload_n 0, 1) := by decide +kernel
theorem dX0_add_11 : decode cX0_add 11 = .ok (.getfield 9, 3) := by decide +kernel
theorem dX0_add_14 : decode cX0_add 14 = .ok (.aload_n 0, 1) := by decide +kernel
theorem dX0_add_15 : decode cX0_add 15 = .ok (.getfield 19, 3) := by decide +kernel
theorem dX0_add_18 : decode cX0_add 18 = .ok (.lload_n 1, 1) := by decide +kernel
theorem dX0_add_19 : decode cX0_add 19 = .ok (.lastore, 1) := by decide +kernel
theorem dX0_add_20 : decode cX0_add 20 = .ok (.aload_n 0, 1) := by decide +kernel
theorem dX0_add_21 : decode cX0_add 21 = .ok (.getfield 15, 3) := by decide +kernel
theorem dX0_add_24 : decode cX0_add 24 = .ok (.aload_n 0, 1) := by decide +kernel
theorem dX0_add_25 : decode cX0_add 25 = .ok (.getfield 19, 3) := by decide +kernel
theorem dX0_add_28 : decode cX0_add 28 = .ok (.iload_n 3, 1) := by decide +kernel
theorem dX0_add_29 : decode cX0_add 29 = .ok (.iastore, 1) := by decide +kernel
theorem dX0_add_30 : decode cX0_add 30 = .ok (.aload_n 0, 1) := by decide +kernel
theorem dX0_add_31 : decode cX0_add 31 = .ok (.dup, 1) := by decide +kernel
theorem dX0_add_32 : decode cX0_add 32 = .ok (.getfield 19, 3) := by decide +kernel
theorem dX0_add_35 : decode cX0_add 35 = .ok (.iconst 1, 1) := by decide +kernel
theorem dX0_add_36 : decode cX0_add 36 = .ok (.iadd, 1) := by decide +kernel
theorem dX0_add_37 : decode cX0_add 37 = .ok (.putfield 19, 3) := by decide +kernel
theorem dX0_add_40 : decode cX0_add 40 = .ok (.return_, 1) := by decide +kernel
theorem dX0_takeFirst_0 : decode cX0_takeFirst 0 = .ok (.aload_n 0, 1) := by decide +kernel
theorem dX0_takeFirst_1 : decode cX0_takeFirst 1 = .ok (.getfield 23, 3) := by decide +kernel
theorem dX0_takeFirst_4 : decode cX0_takeFirst 4 = .ok (.aload_n 0, 1) := by decide +kernel
theorem dX0_takeFirst_5 : decode cX0_takeFirst 5 = .ok (.getfield 19, 3) := by decide +kernel
theorem dX0_takeFirst_8 : decode cX0_takeFirst 8 = .ok (.if_icmp .lt 5, 3) := by decide +kernel
theorem dX0_takeFirst_11 : decode cX0_takeFirst 11 = .ok (.iconst (-1), 1) := by decide +kernel
theorem dX0_takeFirst_12 : decode cX0_takeFirst 12 = .ok (.ireturn, 1) := by decide +kernel
theorem dX0_takeFirst_13 : decode cX0_takeFirst 13 = .ok (.aload_n 0, 1) := by decide +kernel
theorem dX0_takeFirst_14 : decode cX0_takeFirst 14 = .ok (.dup, 1) := by decide +kernel
theorem dX0_takeFirst_15 : decode cX0_takeFirst 15 = .ok (.getfield 23, 3) := by decide +kernel
theorem dX0_takeFirst_18 : decode cX0_takeFirst 18 = .ok (.iconst 1, 1) := by decide +kernel
theorem dX0_takeFirst_19 : decode cX0_takeFirst 19 = .ok (.iadd, 1) := by decide +kernel
theorem dX0_takeFirst_20 : decode cX0_takeFirst 20 = .ok (.putfield 23, 3) := by decide +kernel
theorem dX0_takeFirst_23 : decode cX0_takeFirst 23 = .ok (.aload_n 0, 1) := by decide +kernel
theorem dX0_takeFirst_24 : decode cX0_takeFirst 24 = .ok (.getfield 23, 3) := by decide +kernel
theorem dX0_takeFirst_27 : decode cX0_takeFirst 27 = .ok (.iconst 1, 1) := by decide +kernel
theorem dX0_takeFirst_28 : decode cX0_takeFirst 28 = .ok (.isub, 1) := by decide +kernel
theorem dX0_takeFirst_29 : decode cX0_takeFirst 29 = .ok (.ireturn, 1) := by decide +kernel
set_option maxRecDepth 20000 in
theorem ggX0_drop_X0_isTaken : GoodIn wsX0_drop wsX0_isTaken := goodIn_r _ [9, 2, 10, 11, 12, 13] (by decide +kernel) (by decide +kernel)
set_option maxRecDepth 20000 in
theorem gX0_drop_X0_isTaken : GoodIn wsX0_drop (wsV RX0 30 RX0 yX0_isTaken wsX0_isTaken) := goodIn_app (goodIn_of _ (by decide +kernel)) ggX0_drop_X0_isTaken
theorem dX0_drop_0 : decode cX0_drop 0 = .ok (.iload_n 1, 1) := by decide +kernel
theorem dX0_drop_1 : decode cX0_drop 1 = .ok (.ifCond .lt 11, 3) := by decide +kernel
theorem dX0_drop_4 : decode cX0_drop 4 = .ok (.iload_n 1, 1) := by decide +kernel
theorem dX0_drop_5 : decode cX0_drop 5 = .ok (.aload_n 0, 1) := by decide +kernel
theorem dX0_drop_6 : decode cX0_drop 6 = .ok (.getfield 19, 3) := by decide +kernel
theorem dX0_drop_9 : decode cX0_drop 9 = .ok (.if_icmp .lt 4, 3) := by decide +kernel
theorem dX0_drop_12 : decode cX0_drop 12 = .ok (.return_, 1) := by decide +kernel
theorem dX0_drop_13 : decode cX0_drop 13 = .ok (.aload_n 0, 1) := by decide +kernel
theorem dX0_drop_14 : decode cX0_drop 14 = .ok (.iload_n 1, 1) := by decide +kernel
theorem dX0_drop_15 : decode cX0_drop 15 = .ok (.invokevirtual 30, 3) := by decide +kernel
theorem dX0_drop_18 : decode cX0_drop 18 = .ok (.ifCond .eq 13, 3) := by decide +kernel
theorem dX0_drop_21 : decode cX0_drop 21 = .ok (.aload_n 0, 1) := by decide +kernel
theorem dX0_drop_22 : decode cX0_drop 22 = .ok (.dup, 1) := by decide +kernel
theorem dX0_drop_23 : decode cX0_drop 23 = .ok (.getfield 23, 3) := by decide +kernel
theorem dX0_drop_26 : decode cX0_drop 26 = .ok (.iconst 1, 1) := by decide +kernel
theorem dX0_drop_27 : decode cX0_drop 27 = .ok (.isub, 1) := by decide +kernel
theorem dX0_drop_28 : decode cX0_drop 28 = .ok (.putfield 23, 3) := by decide +kernel
theorem dX0_drop_31 : decode cX0_drop 31 = .ok (.aload_n 0, 1) := by decide +kernel
theorem dX0_drop_32 : decode cX0_drop 32 = .ok (.dup, 1) := by decide +kernel
theorem dX0_drop_33 : decode cX0_drop 33 = .ok (.getfield 19, 3) := by decide +kernel
theorem dX0_drop_36 : decode cX0_drop 36 = .ok (.iconst 1, 1) := by decide +kernel
theorem dX0_drop_37 : decode cX0_drop 37 = .ok (.isub, 1) := by decide +kernel
theorem dX0_drop_38 : decode cX0_drop 38 = .ok (.putfield 19, 3) := by decide +kernel
theorem dX0_drop_41 : decode cX0_drop 41 = .ok (.iload_n 1, 1) := by decide +kernel
theorem dX0_drop_42 : decode cX0_drop 42 = .ok (.istore_n 2, 1) := by decide +kernel
theorem dX0_drop_43 : decode cX0_drop 43 = .ok (.iload_n 2, 1) := by decide +kernel
theorem dX0_drop_44 : decode cX0_drop 44 = .ok (.aload_n 0, 1) := by decide +kernel
theorem dX0_drop_45 : decode cX0_drop 45 = .ok (.getfield 19, 3) := by decide +kernel
theorem dX0_drop_48 : decode cX0_drop 48 = .ok (.if_icmp .ge 37, 3) := by decide +kernel
theorem dX0_drop_51 : decode cX0_drop 51 = .ok (.aload_n 0, 1) := by decide +kernel
theorem dX0_drop_52 : decode cX0_drop 52 = .ok (.getfield 9, 3) := by decide +kernel
theorem dX0_drop_55 : decode cX0_drop 55 = .ok (.iload_n 2, 1) := by decide +kernel
theorem dX0_drop_56 : decode cX0_drop 56 = .ok (.aload_n 0, 1) := by decide +kernel
theorem dX0_drop_57 : decode cX0_drop 57 = .ok (.getfield 9, 3) := by decide +kernel
theorem dX0_drop_60 : decode cX0_drop 60 = .ok (.iload_n 2, 1) := by decide +kernel
theorem dX0_drop_61 : decode cX0_drop 61 = .ok (.iconst 1, 1) := by decide +kernel
theorem dX0_drop_62 : decode cX0_drop 62 = .ok (.iadd, 1) := by decide +kernel
theorem dX0_drop_63 : decode cX0_drop 63 = .ok (.laload, 1) := by decide +kernel
theorem dX0_drop_64 : decode cX0_drop 64 = .ok (.lastore, 1) := by decide +kernel
theorem dX0_drop_65 : decode cX0_drop 65 = .ok (.aload_n 0, 1) := by decide +kernel
theorem dX0_drop_66 : decode cX0_drop 66 = .ok (.getfield 15, 3) := by decide +kernel
theorem dX0_drop_69 : decode cX0_drop 69 = .ok (.iload_n 2, 1) := by decide +kernel
theorem dX0_drop_70 : decode cX0_drop 70 = .ok (.aload_n 0, 1) := by decide +kernel
theorem dX0_drop_71 : decode cX0_drop 71 = .ok (.getfield 15, 3) := by decide +kernel
theorem dX0_drop_74 : decode cX0_drop 74 = .ok (.iload_n 2, 1) := by decide +kernel
theorem dX0_drop_75 : decode cX0_drop 75 = .ok (.iconst 1, 1) := by decide +kernel
theorem dX0_drop_76 : decode cX0_drop 76 = .ok (.iadd, 1) := by decide +kernel
theorem dX0_drop_77 : decode cX0_drop 77 = .ok (.iaload, 1) := by decide +kernel
theorem dX0_drop_78 : decode cX0_drop 78 = .ok (.iastore, 1) := by decide +kernel
theorem dX0_drop_79 : decode cX0_drop 79 = .ok (.iinc 2 1, 3) := by decide +kernel
theorem dX0_drop_82 : decode cX0_drop 82 = .ok (.goto (-39), 3) := by decide +kernel
theorem dX0_drop_85 : decode cX0_drop 85 = .ok (.return_, 1) := by decide +kernel
theorem dX1_init_0 : decode cX1_init 0 = .ok (.aload_n 0, 1) := by decide +kernel
theorem dX1_init_1 : decode cX1_init 1 = .ok (.invokespecial 3, 3) := by decide +kernel
theorem dX1_init_4 : decode cX1_init 4 = .ok (.aload_n 0, 1) := by decide +kernel
theorem dX1_init_5 : decode cX1_init 5 = .ok (.bipush 32, 2) := by decide +kernel
theorem dX1_init_7 : decode cX1_init 7 = .ok (.newarray .long, 2) := by decide +kernel
theorem dX1_init_9 : decode cX1_init 9 = .ok (.putfield 9, 3) := by decide +kernel
theorem dX1_init_12 : decode cX1_init 12 = .ok (.aload_n 0, 1) := by decide +kernel
theorem dX1_init_13 : decode cX1_init 13 = .ok (.bipush 32, 2) := by decide +kernel
theorem dX1_init_15 : decode cX1_init 15 = .ok (.newarray .int, 2) := by decide +kernel
theorem dX1_init_17 : decode cX1_init 17 = .ok (.putfield 15, 3) := by decide +kernel
theorem dX1_init_20 : decode cX1_init 20 = .ok (.aload_n 0, 1) := by decide +kernel
theorem dX1_init_21 : decode cX1_init 21 = .ok (.bipush 32, 2) := by decide +kernel
theorem dX1_init_23 : decode cX1_init 23 = .ok (.newarray .int, 2) := by decide +kernel
theorem dX1_init_25 : decode cX1_init 25 = .ok (.putfield 19, 3) := by decide +kernel
theorem dX1_init_28 : decode cX1_init 28 = .ok (.aload_n 0, 1) := by decide +kernel
theorem dX1_init_29 : decode cX1_init 29 = .ok (.bipush 32, 2) := by decide +kernel
theorem dX1_init_31 : decode cX1_init 31 = .ok (.newarray .int, 2) := by decide +kernel
theorem dX1_init_33 : decode cX1_init 33 = .ok (.putfield 22, 3) := by decide +kernel
theorem dX1_init_36 : decode cX1_init 36 = .ok (.aload_n 0, 1) := by decide +kernel
theorem dX1_init_37 : decode cX1_init 37 = .ok (.bipush 32, 2) := by decide +kernel
theorem dX1_init_39 : decode cX1_init 39 = .ok (.newarray .int, 2) := by decide +kernel
theorem dX1_init_41 : decode cX1_init 41 = .ok (.putfield 25, 3) := by decide +kernel
theorem dX1_init_44 : decode cX1_init 44 = .ok (.aload_n 0, 1) := by decide +kernel
theorem dX1_init_45 : decode cX1_init 45 = .ok (.iconst 0, 1) := by decide +kernel
theorem dX1_init_46 : decode cX1_init 46 = .ok (.putfield 28, 3) := by decide +kernel
theorem dX1_init_49 : decode cX1_init 49 = .ok (.return_, 1) := by decide +kernel
theorem dX1_find_0 : decode cX1_find 0 = .ok (.iconst 0, 1) := by decide +kernel
theorem dX1_find_1 : decode cX1_find 1 = .ok (.istore_n 3, 1) := by decide +kernel
theorem dX1_find_2 : decode cX1_find 2 = .ok (.iload_n 3, 1) := by decide +kernel
theorem dX1_find_3 : decode cX1_find 3 = .ok (.aload_n 0, 1) := by decide +kernel
theorem dX1_find_4 : decode cX1_find 4 = .ok (.getfield 28, 3) := by decide +kernel
theorem dX1_find_7 : decode cX1_find 7 = .ok (.if_icmp .ge 22, 3) := by decide +kernel
theorem dX1_find_10 : decode cX1_find 10 = .ok (.aload_n 0, 1) := by decide +kernel
theorem dX1_find_11 : decode cX1_find 11 = .ok (.getfield 9, 3) := by decide +kernel
theorem dX1_find_14 : decode cX1_find 14 = .ok (.iload_n 3, 1) := by decide +kernel
theorem dX1_find_15 : decode cX1_find 15 = .ok (.laload, 1) := by decide +kernel
theorem dX1_find_16 : decode cX1_find 16 = .ok (.lload_n 1, 1) := by decide +kernel
theorem dX1_find_17 : decode cX1_find 17 = .ok (.lcmp, 1) := by decide +kernel
theorem dX1_find_18 : decode cX1_find 18 = .ok (.ifCond .ne 5, 3) := by decide +kernel
theorem dX1_find_21 : decode cX1_find 21 = .ok (.iload_n 3, 1) := by decide +kernel
theorem dX1_find_22 : decode cX1_find 22 = .ok (.ireturn, 1) := by decide +kernel
theorem dX1_find_23 : decode cX1_find 23 = .ok (.iinc 3 1, 3) := by decide +kernel
theorem dX1_find_26 : decode cX1_find 26 = .ok (.goto (-24), 3) := by decide +kernel
theorem dX1_find_29 : decode cX1_find 29 = .ok (.iconst (-1), 1) := by decide +kernel
theorem dX1_find_30 : decode cX1_find 30 = .ok (.ireturn, 1) := by decide +kernel
theorem dX1_add_0 : decode cX1_add 0 = .ok (.aload_n 0, 1) := by decide +kernel
theorem dX1_add_1 : decode cX1_add 1 = .ok (.getfield 28, 3) := by decide +kernel
theorem dX1_add_4 : decode cX1_add 4 = .ok (.bipush 32, 2) := by decide +kernel
theorem dX1_add_6 : decode cX1_add 6 = .ok (.if_icmp .lt 4, 3) := by decide +kernel
theorem dX1_add_9 : decode cX1_add 9 = .ok (.return_, 1) := by decide +kernel
theorem dX1_add_10 : decode cX1_add 10 = .ok (.aload_n 0, 1) := by decide +kernel
theorem dX1_add_11 : decode cX1_add 11 = .ok (.getfield 9, 3) := by decide +kernel
theorem dX1_add_14 : decode cX1_add 14 = .ok (.aload_n 0, 1) := by decide +kernel
theorem dX1_add_15 : decode cX1_add 15 = .ok (.getfield 28, 3) := by decide +kernel
theorem dX1_add_18 : decode cX1_add 18 = .ok (.lload_n 1, 1) := by decide +kernel
theorem dX1_add_19 : decode cX1_add 19 = .ok (.lastore, 1) := by decide +kernel
theorem dX1_add_20 : decode cX1_add 20 = .ok (.aload_n 0, 1) := by decide +kernel
theorem dX1_add_21 : decode cX1_add 21 = .ok (.getfield 15, 3) := by decide +kernel
theorem dX1_add_24 : decode cX1_add 24 = .ok (.aload_n 0, 1) := by decide +kernel
theorem dX1_add_25 : decode cX1_add 25 = .ok (.getfield 28, 3) := by decide +kernel
theorem dX1_add_28 : decode cX1_add 28 = .ok (.iload_n 3, 1) := by decide +kernel
theorem dX1_add_29 : decode cX1_add 29 = .ok (.iastore, 1) := by decide +kernel
theorem dX1_add_30 : decode cX1_add 30 = .ok (.aload_n 0, 1) := by decide +kernel
theorem dX1_add_31 : decode cX1_add 31 = .ok (.getfield 19, 3) := by decide +kernel
theorem dX1_add_34 : decode cX1_add 34 = .ok (.aload_n 0, 1) := by decide +kernel
theorem dX1_add_35 : decode cX1_add 35 = .ok (.getfield 28, 3) := by decide +kernel
theorem dX1_add_38 : decode cX1_add 38 = .ok (.iload 4, 2) := by decide +kernel
theorem dX1_add_40 : decode cX1_add 40 = .ok (.iastore, 1) := by decide +kernel
theorem dX1_add_41 : decode cX1_add 41 = .ok (.aload_n 0, 1) := by decide +kernel
theorem dX1_add_42 : decode cX1_add 42 = .ok (.getfield 22, 3) := by decide +kernel
theorem dX1_add_45 : decode cX1_add 45 = .ok (.aload_n 0, 1) := by decide +kernel
theorem dX1_add_46 : decode cX1_add 46 = .ok (.getfield 28, 3) := by decide +kernel
theorem dX1_add_49 : decode cX1_add 49 = .ok (.iload 5, 2) := by decide +kernel
theorem dX1_add_51 : decode cX1_add 51 = .ok (.iastore, 1) := by decide +kernel
theorem dX1_add_52 : decode cX1_add 52 = .ok (.aload_n 0, 1) := by decide +kernel
theorem dX1_add_53 : decode cX1_add 53 = .ok (.getfield 25, 3) := by decide +kernel
theorem dX1_add_56 : decode cX1_add 56 = .ok (.aload_n 0, 1) := by decide +kernel
theorem dX1_add_57 : decode cX1_add 57 = .ok (.getfield 28, 3) := by decide +kernel
theorem dX1_add_60 : decode cX1_add 60 = .ok (.iload 6, 2) := by decide +kernel
theorem dX1_add_62 : decode cX1_add 62 = .ok (.iastore, 1) := by decide +kernel
theorem dX1_add_63 : decode cX1_add 63 = .ok (.aload_n 0, 1) := by decide +kernel
theorem dX1_add_64 : decode cX1_add 64 = .ok (.dup, 1) := by decide +kernel
theorem dX1_add_65 : decode cX1_add 65 = .ok (.getfield 28, 3) := by decide +kernel
theorem dX1_add_68 : decode cX1_add 68 = .ok (.iconst 1, 1) := by decide +kernel
theorem dX1_add_69 : decode cX1_add 69 = .ok (.iadd, 1) := by decide +kernel
theorem dX1_add_70 : decode cX1_add 70 = .ok (.putfield 28, 3) := by decide +kernel
theorem dX1_add_73 : decode cX1_add 73 = .ok (.return_, 1) := by decide +kernel
theorem dX1_drop_0 : decode cX1_drop 0 = .ok (.iload_n 1, 1) := by decide +kernel
theorem dX1_drop_1 : decode cX1_drop 1 = .ok (.ifCond .lt 11, 3) := by decide +kernel
theorem dX1_drop_4 : decode cX1_drop 4 = .ok (.iload_n 1, 1) := by decide +kernel
theorem dX1_drop_5 : decode cX1_drop 5 = .ok (.aload_n 0, 1) := by decide +kernel
theorem dX1_drop_6 : decode cX1_drop 6 = .ok (.getfield 28, 3) := by decide +kernel
theorem dX1_drop_9 : decode cX1_drop 9 = .ok (.if_icmp .lt 4, 3) := by decide +kernel
theorem dX1_drop_12 : decode cX1_drop 12 = .ok (.return_, 1) := by decide +kernel
theorem dX1_drop_13 : decode cX1_drop 13 = .ok (.aload_n 0, 1) := by decide +kernel
theorem dX1_drop_14 : decode cX1_drop 14 = .ok (.dup, 1) := by decide +kernel
theorem dX1_drop_15 : decode cX1_drop 15 = .ok (.getfield 28, 3) := by decide +kernel
theorem dX1_drop_18 : decode cX1_drop 18 = .ok (.iconst 1, 1) := by decide +kernel
theorem dX1_drop_19 : decode cX1_drop 19 = .ok (.isub, 1) := by decide +kernel
theorem dX1_drop_20 : decode cX1_drop 20 = .ok (.putfield 28, 3) := by decide +kernel
theorem dX1_drop_23 : decode cX1_drop 23 = .ok (.aload_n 0, 1) := by decide +kernel
theorem dX1_drop_24 : decode cX1_drop 24 = .ok (.getfield 9, 3) := by decide +kernel
theorem dX1_drop_27 : decode cX1_drop 27 = .ok (.iload_n 1, 1) := by decide +kernel
theorem dX1_drop_28 : decode cX1_drop 28 = .ok (.aload_n 0, 1) := by decide +kernel
theorem dX1_drop_29 : decode cX1_drop 29 = .ok (.getfield 9, 3) := by decide +kernel
theorem dX1_drop_32 : decode cX1_drop 32 = .ok (.aload_n 0, 1) := by decide +kernel
theorem dX1_drop_33 : decode cX1_drop 33 = .ok (.getfield 28, 3) := by decide +kernel
theorem dX1_drop_36 : decode cX1_drop 36 = .ok (.laload, 1) := by decide +kernel
theorem dX1_drop_37 : decode cX1_drop 37 = .ok (.lastore, 1) := by decide +kernel
theorem dX1_drop_38 : decode cX1_drop 38 = .ok (.aload_n 0, 1) := by decide +kernel
theorem dX1_drop_39 : decode cX1_drop 39 = .ok (.getfield 15, 3) := by decide +kernel
theorem dX1_drop_42 : decode cX1_drop 42 = .ok (.iload_n 1, 1) := by decide +kernel
theorem dX1_drop_43 : decode cX1_drop 43 = .ok (.aload_n 0, 1) := by decide +kernel
theorem dX1_drop_44 : decode cX1_drop 44 = .ok (.getfield 15, 3) := by decide +kernel
theorem dX1_drop_47 : decode cX1_drop 47 = .ok (.aload_n 0, 1) := by decide +kernel
theorem dX1_drop_48 : decode cX1_drop 48 = .ok (.getfield 28, 3) := by decide +kernel
theorem dX1_drop_51 : decode cX1_drop 51 = .ok (.iaload, 1) := by decide +kernel
theorem dX1_drop_52 : decode cX1_drop 52 = .ok (.iastore, 1) := by decide +kernel
theorem dX1_drop_53 : decode cX1_drop 53 = .ok (.aload_n 0, 1) := by decide +kernel
theorem dX1_drop_54 : decode cX1_drop 54 = .ok (.getfield 19, 3) := by decide +kernel
theorem dX1_drop_57 : decode cX1_drop 57 = .ok (.iload_n 1, 1) := by decide +kernel
theorem dX1_drop_58 : decode cX1_drop 58 = .ok (.aload_n 0, 1) := by decide +kernel
theorem dX1_drop_59 : decode cX1_drop 59 = .ok (.getfield 19, 3) := by decide +kernel
theorem dX1_drop_62 : decode cX1_drop 62 = .ok (.aload_n 0, 1) := by decide +kernel
theorem dX1_drop_63 : decode cX1_drop 63 = .ok (.getfield 28, 3) := by decide +kernel
theorem dX1_drop_66 : decode cX1_drop 66 = .ok (.iaload, 1) := by decide +kernel
theorem dX1_drop_67 : decode cX1_drop 67 = .ok (.iastore, 1) := by decide +kernel
theorem dX1_drop_68 : decode cX1_drop 68 = .ok (.aload_n 0, 1) := by decide +kernel
theorem dX1_drop_69 : decode cX1_drop 69 = .ok (.getfield 22, 3) := by decide +kernel
theorem dX1_drop_72 : decode cX1_drop 72 = .ok (.iload_n 1, 1) := by decide +kernel
theorem dX1_drop_73 : decode cX1_drop 73 = .ok (.aload_n 0, 1) := by decide +kernel
theorem dX1_drop_74 : decode cX1_drop 74 = .ok (.getfield 22, 3) := by decide +kernel
theorem dX1_drop_77 : decode cX1_drop 77 = .ok (.aload_n 0, 1) := by decide +kernel
theorem dX1_drop_78 : decode cX1_drop 78 = .ok (.getfield 28, 3) := by decide +kernel
theorem dX1_drop_81 : decode cX1_drop 81 = .ok (.iaload, 1) := by decide +kernel
theorem dX1_drop_82 : decode cX1_drop 82 = .ok (.iastore, 1) := by decide +kernel
theorem dX1_drop_83 : decode cX1_drop 83 = .ok (.aload_n 0, 1) := by decide +kernel
theorem dX1_drop_84 : decode cX1_drop 84 = .ok (.getfield 25, 3) := by decide +kernel
theorem dX1_drop_87 : decode cX1_drop 87 = .ok (.iload_n 1, 1) := by decide +kernel
theorem dX1_drop_88 : decode cX1_drop 88 = .ok (.aload_n 0, 1) := by decide +kernel
theorem dX1_drop_89 : decode cX1_drop 89 = .ok (.getfield 25, 3) := by decide +kernel
theorem dX1_drop_92 : decode cX1_drop 92 = .ok (.aload_n 0, 1) := by decide +kernel
theorem dX1_drop_93 : decode cX1_drop 93 = .ok (.getfield 28, 3) := by decide +kernel
theorem dX1_drop_96 : decode cX1_drop 96 = .ok (.iaload, 1) := by decide +kernel
theorem dX1_drop_97 : decode cX1_drop 97 = .ok (.iastore, 1) := by decide +kernel
theorem dX1_drop_98 : decode cX1_drop 98 = .ok (.return_, 1) := by decide +kernel
set_option maxRecDepth 20000 in
theorem ggX1_dropOld_X1_drop : GoodIn wsX1_dropOld wsX1_drop := goodIn_r _ [7, 1, 8, 9, 10, 11, 2, 12, 13, 14, 15, 16, 17] (by decide +kernel) (by decide +kernel)
set_option maxRecDepth 20000 in
theorem gX1_dropOld_X1_drop : GoodIn wsX1_dropOld (wsV RX1 32 RX1 yX1_drop wsX1_drop) := goodIn_app (goodIn_of _ (by decide +kernel)) ggX1_dropOld_X1_drop
theorem dX1_dropOld_0 : decode cX1_dropOld 0 = .ok (.aload_n 0, 1) := by decide +kernel
theorem dX1_dropOld_1 : decode cX1_dropOld 1 = .ok (.getfield 28, 3) := by decide +kernel
theorem dX1_dropOld_4 : decode cX1_dropOld 4 = .ok (.iconst 1, 1) := by decide +kernel
theorem dX1_dropOld_5 : decode cX1_dropOld 5 = .ok (.isub, 1) := by decide +kernel
theorem dX1_dropOld_6 : decode cX1_dropOld 6 = .ok (.istore_n 2, 1) := by decide +kernel
theorem dX1_dropOld_7 : decode cX1_dropOld 7 = .ok (.iload_n 2, 1) := by decide +kernel
theorem dX1_dropOld_8 : decode cX1_dropOld 8 = .ok (.ifCond .lt 27, 3) := by decide +kernel
theorem dX1_dropOld_11 : decode cX1_dropOld 11 = .ok (.iload_n 1, 1) := by decide +kernel
theorem dX1_dropOld_12 : decode cX1_dropOld 12 = .ok (.aload_n 0, 1) := by decide +kernel
theorem dX1_dropOld_13 : decode cX1_dropOld 13 = .ok (.getfield 25, 3) := by decide +kernel
theorem dX1_dropOld_16 : decode cX1_dropOld 16 = .ok (.iload_n 2, 1) := by decide +kernel
theorem dX1_dropOld_17 : decode cX1_dropOld 17 = .ok (.iaload, 1) := by decide +kernel
theorem dX1_dropOld_18 : decode cX1_dropOld 18 = .ok (.isub, 1) := by decide +kernel
theorem dX1_dropOld_19 : decode cX1_dropOld 19 = .ok (.bipush 60, 2) := by decide +kernel
theorem dX1_dropOld_21 : decode cX1_dropOld 21 = .ok (.if_icmp .lt 8, 3) := by decide +kernel
theorem dX1_dropOld_24 : decode cX1_dropOld 24 = .ok (.aload_n 0, 1) := by decide +kernel
theorem dX1_dropOld_25 : decode cX1_dropOld 25 = .ok (.iload_n 2, 1) := by decide +kernel
theorem dX1_dropOld_26 : decode cX1_dropOld 26 = .ok (.invokevirtual 32, 3) := by decide +kernel
theorem dX1_dropOld_29 : decode cX1_dropOld 29 = .ok (.iinc 2 (-1), 3) := by decide +kernel
theorem dX1_dropOld_32 : decode cX1_dropOld 32 = .ok (.goto (-25), 3) := by decide +kernel
theorem dX1_dropOld_35 : decode cX1_dropOld 35 = .ok (.return_, 1) := by decide +kernel
theorem dX2_init_0 : decode cX2_init 0 = .ok (.aload_n 0, 1) := by decide +kernel
theorem dX2_init_1 : decode cX2_init 1 = .ok (.invokespecial 1, 3) := by decide +kernel
theorem dX2_init_4 : decode cX2_init 4 = .ok (.aload_n 0, 1) := by decide +kernel
theorem dX2_init_5 : decode cX2_init 5 = .ok (.lconst 0, 1) := by decide +kernel
theorem dX2_init_6 : decode cX2_init 6 = .ok (.putfield 7, 3) := by decide +kernel
theorem dX2_init_9 : decode cX2_init 9 = .ok (.aload_n 0, 1) := by decide +kernel
theorem dX2_init_10 : decode cX2_init 10 = .ok (.lconst 0, 1) := by decide +kernel
theorem dX2_init_11 : decode cX2_init 11 = .ok (.putfield 13, 3) := by decide +kernel
theorem dX2_init_14 : decode cX2_init 14 = .ok (.aload_n 0, 1) := by decide +kernel
theorem dX2_init_15 : decode cX2_init 15 = .ok (.lconst 0, 1) := by decide +kernel
theorem dX2_init_16 : decode cX2_init 16 = .ok (.putfield 16, 3) := by decide +kernel
theorem dX2_init_19 : decode cX2_init 19 = .ok (.aload_n 0, 1) := by decide +kernel
theorem dX2_init_20 : decode cX2_init 20 = .ok (.lconst 0, 1) := by decide +kernel
theorem dX2_init_21 : decode cX2_init 21 = .ok (.putfield 19, 3) := by decide +kernel
theorem dX2_init_24 : decode cX2_init 24 = .ok (.aload_n 0, 1) := by decide +kernel
theorem dX2_init_25 : decode cX2_init 25 = .ok (.lconst 0, 1) := by decide +kernel
theorem dX2_init_26 : decode cX2_init 26 = .ok (.putfield 22, 3) := by decide +kernel
theorem dX2_init_29 : decode cX2_init 29 = .ok (.aload_n 0, 1) := by decide +kernel
theorem dX2_init_30 : decode cX2_init 30 = .ok (.lconst 0, 1) := by decide +kernel
theorem dX2_init_31 : decode cX2_init 31 = .ok (.putfield 25, 3) := by decide +kernel
theorem dX2_init_34 : decode cX2_init 34 = .ok (.return_, 1) := by decide +kernel
theorem dX2_useKey_0 : decode cX2_useKey 0 = .ok (.aload_n 0, 1) := by decide +kernel
theorem dX2_useKey_1 : decode cX2_useKey 1 = .ok (.lload_n 1, 1) := by decide +kernel
theorem dX2_useKey_2 : decode cX2_useKey 2 = .ok (.putfield 7, 3) := by decide +kernel
theorem dX2_useKey_5 : decode cX2_useKey 5 = .ok (.aload_n 0, 1) := by decide +kernel
theorem dX2_useKey_6 : decode cX2_useKey 6 = .ok (.lload_n 3, 1) := by decide +kernel
theorem dX2_useKey_7 : decode cX2_useKey 7 = .ok (.putfield 13, 3) := by decide +kernel
theorem dX2_useKey_10 : decode cX2_useKey 10 = .ok (.return_, 1) := by decide +kernel
set_option maxRecDepth 20000 in
theorem ggX2_digest_X2_absorb : GoodIn wsX2_digest wsX2_absorb := goodIn_r _ [17, 10, 3, 18, 19, 20, 16, 21, 6, 8, 22, 23, 24, 25, 26, 27, 28, 29, 30] (by decide +kernel) (by decide +kernel)
set_option maxRecDepth 20000 in
theorem gX2_digest_X2_absorb : GoodIn wsX2_digest (wsV RX2 36 RX2 yX2_absorb wsX2_absorb) := goodIn_app (goodIn_of _ (by decide +kernel)) ggX2_digest_X2_absorb
set_option maxRecDepth 20000 in
theorem ggX2_digest_X2_mix : GoodIn wsX2_digest wsX2_mix := goodIn_r _ [21, 3, 6, 8, 10, 22, 23, 16, 24, 25, 26, 27, 28, 29, 30] (by decide +kernel) (by decide +kernel)
set_option maxRecDepth 20000 in
theorem gX2_digest_X2_mix : GoodIn wsX2_digest (wsV RX2 44 RX2 yX2_mix wsX2_mix) := goodIn_app (goodIn_of _ (by decide +kernel)) ggX2_digest_X2_mix
theorem dX2_digest_0 : decode cX2_digest 0 = .ok (.aload_n 0, 1) := by decide +kernel
theorem dX2_digest_1 : decode cX2_digest 1 = .ok (.aload_n 0, 1) := by decide +kernel
theorem dX2_digest_2 : decode cX2_digest 2 = .ok (.getfield 7, 3) := by decide +kernel
theorem dX2_digest_5 : decode cX2_digest 5 = .ok (.ldc2_w 28, 3) := by decide +kernel
theorem dX2_digest_8 : decode cX2_digest 8 = .ok (.lxor, 1) := by decide +kernel
theorem dX2_digest_9 : decode cX2_digest 9 = .ok (.putfield 16, 3) := by decide +kernel
theorem dX2_digest_12 : decode cX2_digest 12 = .ok (.aload_n 0, 1) := by decide +kernel
theorem dX2_digest_13 : decode cX2_digest 13 = .ok (.aload_n 0, 1) := by decide +kernel
theorem dX2_digest_14 : decode cX2_digest 14 = .ok (.getfield 13, 3) := by decide +kernel
theorem dX2_digest_17 : decode cX2_digest 17 = .ok (.ldc2_w 30, 3) := by decide +kernel
theorem dX2_digest_20 : decode cX2_digest 20 = .ok (.lxor, 1) := by decide +kernel
theorem dX2_digest_21 : decode cX2_digest 21 = .ok (.putfield 19, 3) := by decide +kernel
theorem dX2_digest_24 : decode cX2_digest 24 = .ok (.aload_n 0, 1) := by decide +kernel
theorem dX2_digest_25 : decode cX2_digest 25 = .ok (.aload_n 0, 1) := by decide +kernel
theorem dX2_digest_26 : decode cX2_digest 26 = .ok (.getfield 7, 3) := by decide +kernel
theorem dX2_digest_29 : decode cX2_digest 29 = .ok (.ldc2_w 32, 3) := by decide +kernel
theorem dX2_digest_32 : decode cX2_digest 32 = .ok (.lxor, 1) := by decide +kernel
theorem dX2_digest_33 : decode cX2_digest 33 = .ok (.putfield 22, 3) := by decide +kernel
theorem dX2_digest_36 : decode cX2_digest 36 = .ok (.aload_n 0, 1) := by decide +kernel
theorem dX2_digest_37 : decode cX2_digest 37 = .ok (.aload_n 0, 1) := by decide +kernel
theorem dX2_digest_38 : decode cX2_digest 38 = .ok (.getfield 13, 3) := by decide +kernel
theorem dX2_digest_41 : decode cX2_digest 41 = .ok (.ldc2_w 34, 3) := by decide +kernel
theorem dX2_digest_44 : decode cX2_digest 44 = .ok (.lxor, 1) := by decide +kernel
theorem dX2_digest_45 : decode cX2_digest 45 = .ok (.putfield 25, 3) := by decide +kernel
theorem dX2_digest_48 : decode cX2_digest 48 = .ok (.aload_n 0, 1) := by decide +kernel
theorem dX2_digest_49 : decode cX2_digest 49 = .ok (.lload_n 1, 1) := by decide +kernel
theorem dX2_digest_50 : decode cX2_digest 50 = .ok (.invokevirtual 36, 3) := by decide +kernel
theorem dX2_digest_53 : decode cX2_digest 53 = .ok (.aload_n 0, 1) := by decide +kernel
theorem dX2_digest_54 : decode cX2_digest 54 = .ok (.lload_n 3, 1) := by decide +kernel
theorem dX2_digest_55 : decode cX2_digest 55 = .ok (.invokevirtual 36, 3) := by decide +kernel
theorem dX2_digest_58 : decode cX2_digest 58 = .ok (.aload_n 0, 1) := by decide +kernel
theorem dX2_digest_59 : decode cX2_digest 59 = .ok (.ldc2_w 40, 3) := by decide +kernel
theorem dX2_digest_62 : decode cX2_digest 62 = .ok (.invokevirtual 36, 3) := by decide +kernel
theorem dX2_digest_65 : decode cX2_digest 65 = .ok (.aload_n 0, 1) := by decide +kernel
theorem dX2_digest_66 : decode cX2_digest 66 = .ok (.dup, 1) := by decide +kernel
theorem dX2_digest_67 : decode cX2_digest 67 = .ok (.getfield 22, 3) := by decide +kernel
theorem dX2_digest_70 : decode cX2_digest 70 = .ok (.ldc2_w 42, 3) := by decide +kernel
theorem dX2_digest_73 : decode cX2_digest 73 = .ok (.lxor, 1) := by decide +kernel
theorem dX2_digest_74 : decode cX2_digest 74 = .ok (.putfield 22, 3) := by decide +kernel
theorem dX2_digest_77 : decode cX2_digest 77 = .ok (.aload_n 0, 1) := by decide +kernel
theorem dX2_digest_78 : decode cX2_digest 78 = .ok (.iconst 4, 1) := by decide +kernel
theorem dX2_digest_79 : decode cX2_digest 79 = .ok (.invokevirtual 44, 3) := by decide +kernel
theorem dX2_digest_82 : decode cX2_digest 82 = .ok (.aload_n 0, 1) := by decide +kernel
theorem dX2_digest_83 : decode cX2_digest 83 = .ok (.getfield 16, 3) := by decide +kernel
theorem dX2_digest_86 : decode cX2_digest 86 = .ok (.aload_n 0, 1) := by decide +kernel
theorem dX2_digest_87 : decode cX2_digest 87 = .ok (.getfield 19, 3) := by decide +kernel
theorem dX2_digest_90 : decode cX2_digest 90 = .ok (.lxor, 1) := by decide +kernel
theorem dX2_digest_91 : decode cX2_digest 91 = .ok (.aload_n 0, 1) := by decide +kernel
theorem dX2_digest_92 : decode cX2_digest 92 = .ok (.getfield 22, 3) := by decide +kernel
theorem dX2_digest_95 : decode cX2_digest 95 = .ok (.lxor, 1) := by decide +kernel
theorem dX2_digest_96 : decode cX2_digest 96 = .ok (.aload_n 0, 1) := by decide +kernel
theorem dX2_digest_97 : decode cX2_digest 97 = .ok (.getfield 25, 3) := by decide +kernel
theorem dX2_digest_100 : decode cX2_digest 100 = .ok (.lxor, 1) := by decide +kernel
theorem dX2_digest_101 : decode cX2_digest 101 = .ok (.lreturn, 1) := by decide +kernel
set_option maxRecDepth 20000 in
theorem ggX2_absorb_X2_mix : GoodIn wsX2_absorb wsX2_mix := goodIn_r _ [7, 2, 8, 9, 1, 10, 11, 6, 12, 13, 14, 15, 16, 17, 18] (by decide +kernel) (by decide +kernel)
set_option maxRecDepth 20000 in
theorem gX2_absorb_X2_mix : GoodIn wsX2_absorb (wsV RX2 44 RX2 yX2_mix wsX2_mix) := goodIn_app (goodIn_of _ (by decide +kernel)) ggX2_absorb_X2_mix
theorem dX2_absorb_0 : decode cX2_absorb 0 = .ok (.aload_n 0, 1) := by decide +kernel
theorem dX2_absorb_1 : decode cX2_absorb 1 = .ok (.dup, 1) := by decide +kernel
theorem dX2_absorb_2 : decode cX2_absorb 2 = .ok (.getfield 25, 3) := by decide +kernel
theorem dX2_absorb_5 : decode cX2_absorb 5 = .ok (.lload_n 1, 1) := by decide +kernel
theorem dX2_absorb_6 : decode cX2_absorb 6 = .ok (.lxor, 1) := by decide +kernel
theorem dX2_absorb_7 : decode cX2_absorb 7 = .ok (.putfield 25, 3) := by decide +kernel
theorem dX2_absorb_10 : decode cX2_absorb 10 = .ok (.aload_n 0, 1) := by decide +kernel
theorem dX2_absorb_11 : decode cX2_absorb 11 = .ok (.iconst 2, 1) := by decide +kernel
theorem dX2_absorb_12 : decode cX2_absorb 12 = .ok (.invokevirtual 44, 3) := by decide +kernel
theorem dX2_absorb_15 : decode cX2_absorb 15 = .ok (.aload_n 0, 1) := by decide +kernel
theorem dX2_absorb_16 : decode cX2_absorb 16 = .ok (.dup, 1) := by decide +kernel
theorem dX2_absorb_17 : decode cX2_absorb 17 = .ok (.getfield 16, 3) := by decide +kernel
theorem dX2_absorb_20 : decode cX2_absorb 20 = .ok (.lload_n 1, 1) := by decide +kernel
theorem dX2_absorb_21 : decode cX2_absorb 21 = .ok (.lxor, 1) := by decide +kernel
theorem dX2_absorb_22 : decode cX2_absorb 22 = .ok (.putfield 16, 3) := by decide +kernel
theorem dX2_absorb_25 : decode cX2_absorb 25 = .ok (.return_, 1) := by decide +kernel
set_option maxRecDepth 20000 in
theorem ggX2_mix_X2_turnLeft : GoodIn wsX2_mix wsX2_turnLeft := goodIn_r _ [8] (by decide +kernel) (by decide +kernel)
set_option maxRecDepth 20000 in
theorem gX2_mix_X2_turnLeft : GoodIn wsX2_mix (va_wsS RX2 48 yX2_turnLeft wsX2_turnLeft) := goodIn_app (goodIn_of _ (by decide +kernel)) ggX2_mix_X2_turnLeft
theorem dX2_mix_0 : decode cX2_mix 0 = .ok (.iconst 0, 1) := by decide +kernel
theorem dX2_mix_1 : decode cX2_mix 1 = .ok (.istore_n 2, 1) := by decide +kernel
theorem dX2_mix_2 : decode cX2_mix 2 = .ok (.iload_n 2, 1) := by decide +kernel
theorem dX2_mix_3 : decode cX2_mix 3 = .ok (.iload_n 1, 1) := by decide +kernel
theorem dX2_mix_4 : decode cX2_mix 4 = .ok (.if_icmp .ge 159, 3) := by decide +kernel
theorem dX2_mix_7 : decode cX2_mix 7 = .ok (.aload_n 0, 1) := by decide +kernel
theorem dX2_mix_8 : decode cX2_mix 8 = .ok (.dup, 1) := by decide +kernel
theorem dX2_mix_9 : decode cX2_mix 9 = .ok (.getfield 16, 3) := by decide +kernel
theorem dX2_mix_12 : decode cX2_mix 12 = .ok (.aload_n 0, 1) := by decide +kernel
theorem dX2_mix_13 : decode cX2_mix 13 = .ok (.getfield 19, 3) := by decide +kernel
theorem dX2_mix_16 : decode cX2_mix 16 = .ok (.ladd, 1) := by decide +kernel
theorem dX2_mix_17 : decode cX2_mix 17 = .ok (.putfield 16, 3) := by decide +kernel
theorem dX2_mix_20 : decode cX2_mix 20 = .ok (.aload_n 0, 1) := by decide +kernel
theorem dX2_mix_21 : decode cX2_mix 21 = .ok (.aload_n 0, 1) := by decide +kernel
theorem dX2_mix_22 : decode cX2_mix 22 = .ok (.getfield 19, 3) := by decide +kernel
theorem dX2_mix_25 : decode cX2_mix 25 = .ok (.bipush 13, 2) := by decide +kernel
theorem dX2_mix_27 : decode cX2_mix 27 = .ok (.invokestatic 48, 3) := by decide +kernel
theorem dX2_mix_30 : decode cX2_mix 30 = .ok (.aload_n 0, 1) := by decide +kernel
theorem dX2_mix_31 : decode cX2_mix 31 = .ok (.getfield 16, 3) := by decide +kernel
theorem dX2_mix_34 : decode cX2_mix 34 = .ok (.lxor, 1) := by decide +kernel
theorem dX2_mix_35 : decode cX2_mix 35 = .ok (.putfield 19, 3) := by decide +kernel
theorem dX2_mix_38 : decode cX2_mix 38 = .ok (.aload_n 0, 1) := by decide +kernel
theorem dX2_mix_39 : decode cX2_mix 39 = .ok (.aload_n 0, 1) := by decide +kernel
theorem dX2_mix_40 : decode cX2_mix 40 = .ok (.getfield 16, 3) := by decide +kernel
theorem dX2_mix_43 : decode cX2_mix 43 = .ok (.bipush 32, 2) := by decide +kernel
theorem dX2_mix_45 : decode cX2_mix 45 = .ok (.invokestatic 48, 3) := by decide +kernel
theorem dX2_mix_48 : decode cX2_mix 48 = .ok (.putfield 16, 3) := by decide +kernel
theorem dX2_mix_51 : decode cX2_mix 51 = .ok (.aload_n 0, 1) := by decide +kernel
theorem dX2_mix_52 : decode cX2_mix 52 = .ok (.dup, 1) := by decide +kernel
theorem dX2_mix_53 : decode cX2_mix 53 = .ok (.getfield 22, 3) := by decide +kernel
theorem dX2_mix_56 : decode cX2_mix 56 = .ok (.aload_n 0, 1) := by decide +kernel
theorem dX2_mix_57 : decode cX2_mix 57 = .ok (.getfield 25, 3) := by decide +kernel
theorem dX2_mix_60 : decode cX2_mix 60 = .ok (.ladd, 1) := by decide +kernel
theorem dX2_mix_61 : decode cX2_mix 61 = .ok (.putfield 22, 3) := by decide +kernel
theorem dX2_mix_64 : decode cX2_mix 64 = .ok (.aload_n 0, 1) := by decide +kernel
theorem dX2_mix_65 : decode cX2_mix 65 = .ok (.aload_n 0, 1) := by decide +kernel
theorem dX2_mix_66 : decode cX2_mix 66 = .ok (.getfield 25, 3) := by decide +kernel
theorem dX2_mix_69 : decode cX2_mix 69 = .ok (.bipush 16, 2) := by decide +kernel
theorem dX2_mix_71 : decode cX2_mix 71 = .ok (.invokestatic 48, 3) := by decide +kernel
theorem dX2_mix_74 : decode cX2_mix 74 = .ok (.aload_n 0, 1) := by decide +kernel
theorem dX2_mix_75 : decode cX2_mix 75 = .ok (.getfield 22, 3) := by decide +kernel
theorem dX2_mix_78 : decode cX2_mix 78 = .ok (.lxor, 1) := by decide +kernel
theorem dX2_mix_79 : decode cX2_mix 79 = .ok (.putfield 25, 3) := by decide +kernel
theorem dX2_mix_82 : decode cX2_mix 82 = .ok (.aload_n 0, 1) := by decide +kernel
theorem dX2_mix_83 : decode cX2_mix 83 = .ok (.dup, 1) := by decide +kernel
theorem dX2_mix_84 : decode cX2_mix 84 = .ok (.getfield 16, 3) := by decide +kernel
theorem dX2_mix_87 : decode cX2_mix 87 = .ok (.aload_n 0, 1) := by decide +kernel
theorem dX2_mix_88 : decode cX2_mix 88 = .ok (.getfield 25, 3) := by decide +kernel
theorem dX2_mix_91 : decode cX2_mix 91 = .ok (.ladd, 1) := by decide +kernel
theorem dX2_mix_92 : decode cX2_mix 92 = .ok (.putfield 16, 3) := by decide +kernel
theorem dX2_mix_95 : decode cX2_mix 95 = .ok (.aload_n 0, 1) := by decide +kernel
theorem dX2_mix_96 : decode cX2_mix 96 = .ok (.aload_n 0, 1) := by decide +kernel
theorem dX2_mix_97 : decode cX2_mix 97 = .ok (.getfield 25, 3) := by decide +kernel
theorem dX2_mix_100 : decode cX2_mix 100 = .ok (.bipush 21, 2) := by decide +kernel
theorem dX2_mix_102 : decode cX2_mix 102 = .ok (.invokestatic 48, 3) := by decide +kernel
theorem dX2_mix_105 : decode cX2_mix 105 = .ok (.aload_n 0, 1) := by decide +kernel
theorem dX2_mix_106 : decode cX2_mix 106 = .ok (.getfield 16, 3) := by decide +kernel
theorem dX2_mix_109 : decode cX2_mix 109 = .ok (.lxor, 1) := by decide +kernel
theorem dX2_mix_110 : decode cX2_mix 110 = .ok (.putfield 25, 3) := by decide +kernel
theorem dX2_mix_113 : decode cX2_mix 113 = .ok (.aload_n 0, 1) := by decide +kernel
theorem dX2_mix_114 : decode cX2_mix 114 = .ok (.dup, 1) := by decide +kernel
theorem dX2_mix_115 : decode cX2_mix 115 = .ok (.getfield 22, 3) := by decide +kernel
theorem dX2_mix_118 : decode cX2_mix 118 = .ok (.aload_n 0, 1) := by decide +kernel
theorem dX2_mix_119 : decode cX2_mix 119 = .ok (.getfield 19, 3) := by decide +kernel
theorem dX2_mix_122 : decode cX2_mix 122 = .ok (.ladd, 1) := by decide +kernel
theorem dX2_mix_123 : decode cX2_mix 123 = .ok (.putfield 22, 3) := by decide +kernel
theorem dX2_mix_126 : decode cX2_mix 126 = .ok (.aload_n 0, 1) := by decide +kernel
theorem dX2_mix_127 : decode cX2_mix 127 = .ok (.aload_n 0, 1) := by decide +kernel
theorem dX2_mix_128 : decode cX2_mix 128 = .ok (.getfield 19, 3) := by decide +kernel
theorem dX2_mix_131 : decode cX2_mix 131 = .ok (.bipush 17, 2) := by decide +kernel
theorem dX2_mix_133 : decode cX2_mix 133 = .ok (.invokestatic 48, 3) := by decide +kernel
theorem dX2_mix_136 : decode cX2_mix 136 = .ok (.aload_n 0, 1) := by decide +kernel
theorem dX2_mix_137 : decode cX2_mix 137 = .ok (.getfield 22, 3) := by decide +kernel
theorem dX2_mix_140 : decode cX2_mix 140 = .ok (.lxor, 1) := by decide +kernel
theorem dX2_mix_141 : decode cX2_mix 141 = .ok (.putfield 19, 3) := by decide +kernel
theorem dX2_mix_144 : decode cX2_mix 144 = .ok (.aload_n 0, 1) := by decide +kernel
theorem dX2_mix_145 : decode cX2_mix 145 = .ok (.aload_n 0, 1) := by decide +kernel
theorem dX2_mix_146 : decode cX2_mix 146 = .ok (.getfield 22, 3) := by decide +kernel
theorem dX2_mix_149 : decode cX2_mix 149 = .ok (.bipush 32, 2) := by decide +kernel
theorem dX2_mix_151 : decode cX2_mix 151 = .ok (.invokestatic 48, 3) := by decide +kernel
theorem dX2_mix_154 : decode cX2_mix 154 = .ok (.putfield 22, 3) := by decide +kernel
theorem dX2_mix_157 : decode cX2_mix 157 = .ok (.iinc 2 1, 3) := by decide +kernel
theorem dX2_mix_160 : decode cX2_mix 160 = .ok (.goto (-158), 3) := by decide +kernel
theorem dX2_mix_163 : decode cX2_mix 163 = .ok (.return_, 1) := by decide +kernel
theorem dX2_turnLeft_0 : decode cX2_turnLeft 0 = .ok (.lload_n 0, 1) := by decide +kernel
theorem dX2_turnLeft_1 : decode cX2_turnLeft 1 = .ok (.iload_n 2, 1) := by decide +kernel
theorem dX2_turnLeft_2 : decode cX2_turnLeft 2 = .ok (.lshl, 1) := by decide +kernel
theorem dX2_turnLeft_3 : decode cX2_turnLeft 3 = .ok (.lload_n 0, 1) := by decide +kernel
theorem dX2_turnLeft_4 : decode cX2_turnLeft 4 = .ok (.bipush 64, 2) := by decide +kernel
theorem dX2_turnLeft_6 : decode cX2_turnLeft 6 = .ok (.iload_n 2, 1) := by decide +kernel
theorem dX2_turnLeft_7 : decode cX2_turnLeft 7 = .ok (.isub, 1) := by decide +kernel
theorem dX2_turnLeft_8 : decode cX2_turnLeft 8 = .ok (.lushr, 1) := by decide +kernel
theorem dX2_turnLeft_9 : decode cX2_turnLeft 9 = .ok (.lor, 1) := by decide +kernel
theorem dX2_turnLeft_10 : decode cX2_turnLeft 10 = .ok (.lreturn, 1) := by decide +kernel
set_option maxRecDepth 20000 in
theorem ggX3_init_X2_init : GoodIn wsX3_init wsX2_init := goodIn_r _ [25, 26, 2, 3, 27, 28, 29, 30, 31, 32, 51, 52, 53, 54, 55, 56] (by decide +kernel) (by decide +kernel)
set_option maxRecDepth 20000 in
theorem gX3_init_X2_init_n9 : GoodIn wsX3_init (wsX2_init) := ggX3_init_X2_init
set_option maxRecDepth 20000 in
theorem ggX3_init_X1_init : GoodIn wsX3_init wsX1_init := goodIn_r _ [34, 35, 2, 3, 36, 37, 38, 39, 40, 41, 42, 43, 68, 69, 70, 71, 72, 73] (by decide +kernel) (by decide +kernel)
set_option maxRecDepth 20000 in
theorem gX3_init_X1_init_n18 : GoodIn wsX3_init (wsX1_init) := ggX3_init_X1_init
set_option maxRecDepth 20000 in
theorem ggX3_init_X0_init : GoodIn wsX3_init wsX0_init := goodIn_r _ [45, 46, 2, 3, 36, 47, 38, 48, 49, 50, 74, 75, 76, 77] (by decide +kernel) (by decide +kernel)
set_option maxRecDepth 20000 in
theorem gX3_init_X0_init_n25 : GoodIn wsX3_init (wsX0_init) := ggX3_init_X0_init
theorem dX3_init_0 : decode cX3_init 0 = .ok (.aload_n 0, 1) := by decide +kernel
theorem dX3_init_1 : decode cX3_init 1 = .ok (.invokespecial 1, 3) := by decide +kernel
theorem dX3_init_4 : decode cX3_init 4 = .ok (.aload_n 0, 1) := by decide +kernel
theorem dX3_init_5 : decode cX3_init 5 = .ok (.new 7, 3) := by decide +kernel
theorem dX3_init_8 : decode cX3_init 8 = .ok (.dup, 1) := by decide +kernel
theorem dX3_init_9 : decode cX3_init 9 = .ok (.invokespecial 9, 3) := by decide +kernel
theorem dX3_init_12 : decode cX3_init 12 = .ok (.putfield 10, 3) := by decide +kernel
theorem dX3_init_15 : decode cX3_init 15 = .ok (.aload_n 0, 1) := by decide +kernel
theorem dX3_init_16 : decode cX3_init 16 = .ok (.new 16, 3) := by decide +kernel
theorem dX3_init_19 : decode cX3_init 19 = .ok (.dup, 1) := by decide +kernel
theorem dX3_init_20 : decode cX3_init 20 = .ok (.invokespecial 18, 3) := by decide +kernel
theorem dX3_init_23 : decode cX3_init 23 = .ok (.putfield 19, 3) := by decide +kernel
theorem dX3_init_26 : decode cX3_init 26 = .ok (.aload_n 0, 1) := by decide +kernel
theorem dX3_init_27 : decode cX3_init 27 = .ok (.new 23, 3) := by decide +kernel
theorem dX3_init_30 : decode cX3_init 30 = .ok (.dup, 1) := by decide +kernel
theorem dX3_init_31 : decode cX3_init 31 = .ok (.invokespecial 25, 3) := by decide +kernel
theorem dX3_init_34 : decode cX3_init 34 = .ok (.putfield 26, 3) := by decide +kernel
theorem dX3_init_37 : decode cX3_init 37 = .ok (.aload_n 0, 1) := by decide +kernel
theorem dX3_init_38 : decode cX3_init 38 = .ok (.iconst 4, 1) := by decide +kernel
theorem dX3_init_39 : decode cX3_init 39 = .ok (.putfield 30, 3) := by decide +kernel
theorem dX3_init_42 : decode cX3_init 42 = .ok (.aload_n 0, 1) := by decide +kernel
theorem dX3_init_43 : decode cX3_init 43 = .ok (.iconst 2, 1) := by decide +kernel
theorem dX3_init_44 : decode cX3_init 44 = .ok (.putfield 34, 3) := by decide +kernel
theorem dX3_init_47 : decode cX3_init 47 = .ok (.aload_n 0, 1) := by decide +kernel
theorem dX3_init_48 : decode cX3_init 48 = .ok (.iconst 0, 1) := by decide +kernel
theorem dX3_init_49 : decode cX3_init 49 = .ok (.putfield 37, 3) := by decide +kernel
theorem dX3_init_52 : decode cX3_init 52 = .ok (.aload_n 0, 1) := by decide +kernel
theorem dX3_init_53 : decode cX3_init 53 = .ok (.iconst 0, 1) := by decide +kernel
theorem dX3_init_54 : decode cX3_init 54 = .ok (.putfield 40, 3) := by decide +kernel
theorem dX3_init_57 : decode cX3_init 57 = .ok (.aload_n 0, 1) := by decide +kernel
theorem dX3_init_58 : decode cX3_init 58 = .ok (.iconst 0, 1) := by decide +kernel
theorem dX3_init_59 : decode cX3_init 59 = .ok (.putfield 43, 3) := by decide +kernel
theorem dX3_init_62 : decode cX3_init 62 = .ok (.aload_n 0, 1) := by decide +kernel
theorem dX3_init_63 : decode cX3_init 63 = .ok (.iconst 0, 1) := by decide +kernel
theorem dX3_init_64 : decode cX3_init 64 = .ok (.putfield 46, 3) := by decide +kernel
theorem dX3_init_67 : decode cX3_init 67 = .ok (.aload_n 0, 1) := by decide +kernel
theorem dX3_init_68 : decode cX3_init 68 = .ok (.iconst 0, 1) := by decide +kernel
theorem dX3_init_69 : decode cX3_init 69 = .ok (.putfield 49, 3) := by decide +kernel
theorem dX3_init_72 : decode cX3_init 72 = .ok (.aload_n 0, 1) := by decide +kernel
theorem dX3_init_73 : decode cX3_init 73 = .ok (.iconst 0, 1) := by decide +kernel
theorem dX3_init_74 : decode cX3_init 74 = .ok (.putfield 52, 3) := by decide +kernel
theorem dX3_init_77 : decode cX3_init 77 = .ok (.return_, 1) := by decide +kernel
set_option maxRecDepth 20000 in
theorem ggX3_rooms_X3_requireWithin : GoodIn wsX3_rooms wsX3_requireWithin := goodIn_ca (goodIn_r _ [6, 7, 8] (by decide +kernel) (by decide +kernel)) (goodIn_sub (fun _ h => List.mem_cons_of_mem _ (List.mem_append_right _ h)) (by decide +kernel))
set_option maxRecDepth 20000 in
theorem gX3_rooms_X3_requireWithin : GoodIn wsX3_rooms (va_wsS RX3 55 yX3_requireWithin wsX3_requireWithin) := goodIn_app (goodIn_of _ (by decide +kernel)) ggX3_rooms_X3_requireWithin
theorem dX3_rooms_0 : decode cX3_rooms 0 = .ok (.iload_n 1, 1) := by decide +kernel
theorem dX3_rooms_1 : decode cX3_rooms 1 = .ok (.iconst 0, 1) := by decide +kernel
theorem dX3_rooms_2 : decode cX3_rooms 2 = .ok (.bipush 32, 2) := by decide +kernel
theorem dX3_rooms_4 : decode cX3_rooms 4 = .ok (.invokestatic 55, 3) := by decide +kernel
theorem dX3_rooms_7 : decode cX3_rooms 7 = .ok (.iload_n 2, 1) := by decide +kernel
theorem dX3_rooms_8 : decode cX3_rooms 8 = .ok (.iconst 1, 1) := by decide +kernel
theorem dX3_rooms_9 : decode cX3_rooms 9 = .ok (.bipush 16, 2) := by decide +kernel
theorem dX3_rooms_11 : decode cX3_rooms 11 = .ok (.invokestatic 55, 3) := by decide +kernel
theorem dX3_rooms_14 : decode cX3_rooms 14 = .ok (.aload_n 0, 1) := by decide +kernel
theorem dX3_rooms_15 : decode cX3_rooms 15 = .ok (.iload_n 1, 1) := by decide +kernel
theorem dX3_rooms_16 : decode cX3_rooms 16 = .ok (.putfield 30, 3) := by decide +kernel
theorem dX3_rooms_19 : decode cX3_rooms 19 = .ok (.aload_n 0, 1) := by decide +kernel
theorem dX3_rooms_20 : decode cX3_rooms 20 = .ok (.iload_n 2, 1) := by decide +kernel
theorem dX3_rooms_21 : decode cX3_rooms 21 = .ok (.putfield 34, 3) := by decide +kernel
theorem dX3_rooms_24 : decode cX3_rooms 24 = .ok (.return_, 1) := by decide +kernel
set_option maxRecDepth 20000 in
theorem ggX3_key_X2_useKey : GoodIn wsX3_key wsX2_useKey := goodIn_r _ [6, 7, 8, 20, 21, 22, 23, 24, 25] (by decide +kernel) (by decide +kernel)
set_option maxRecDepth 20000 in
theorem gX3_key_X2_useKey : GoodIn wsX3_key (wsV RX3 59 RX2 yX2_useKey wsX2_useKey) := goodIn_app (goodIn_of _ (by decide +kernel)) ggX3_key_X2_useKey
theorem dX3_key_0 : decode cX3_key 0 = .ok (.aload_n 0, 1) := by decide +kernel
theorem dX3_key_1 : decode cX3_key 1 = .ok (.getfield 10, 3) := by decide +kernel
theorem dX3_key_4 : decode cX3_key 4 = .ok (.lload_n 1, 1) := by decide +kernel
theorem dX3_key_5 : decode cX3_key 5 = .ok (.lload_n 3, 1) := by decide +kernel
theorem dX3_key_6 : decode cX3_key 6 = .ok (.invokevirtual 59, 3) := by decide +kernel
theorem dX3_key_9 : decode cX3_key 9 = .ok (.return_, 1) := by decide +kernel
set_option maxRecDepth 20000 in
theorem ggX3_pass_X3_requireWithin : GoodIn wsX3_pass wsX3_requireWithin := goodIn_ca (goodIn_r _ [6, 7, 8] (by decide +kernel) (by decide +kernel)) (goodIn_sub (fun _ h => List.mem_cons_of_mem _ (List.mem_append_right _ h)) (by decide +kernel))
set_option maxRecDepth 20000 in
theorem gX3_pass_X3_requireWithin : GoodIn wsX3_pass (va_wsS RX3 55 yX3_requireWithin wsX3_requireWithin) := goodIn_app (goodIn_of _ (by decide +kernel)) ggX3_pass_X3_requireWithin
set_option maxRecDepth 20000 in
theorem ggX3_pass_X1_dropOld : GoodIn wsX3_pass wsX1_dropOld := goodIn_r _ [13, 14, 15, 16, 17, 18, 12, 19, 20, 21, 22, 23, 35, 36, 37, 38, 39, 40] (by decide +kernel) (by decide +kernel)
set_option maxRecDepth 20000 in
theorem gX3_pass_X1_dropOld : GoodIn wsX3_pass (wsV RX3 63 RX1 yX1_dropOld wsX1_dropOld) := goodIn_app (goodIn_of _ (by decide +kernel)) ggX3_pass_X1_dropOld
theorem dX3_pass_0 : decode cX3_pass 0 = .ok (.iload_n 1, 1) := by decide +kernel
theorem dX3_pass_1 : decode cX3_pass 1 = .ok (.iconst 0, 1) := by decide +kernel
theorem dX3_pass_2 : decode cX3_pass 2 = .ok (.sipush 10000, 3) := by decide +kernel
theorem dX3_pass_5 : decode cX3_pass 5 = .ok (.invokestatic 55, 3) := by decide +kernel
theorem dX3_pass_8 : decode cX3_pass 8 = .ok (.aload_n 0, 1) := by decide +kernel
theorem dX3_pass_9 : decode cX3_pass 9 = .ok (.dup, 1) := by decide +kernel
theorem dX3_pass_10 : decode cX3_pass 10 = .ok (.getfield 37, 3) := by decide +kernel
theorem dX3_pass_13 : decode cX3_pass 13 = .ok (.iload_n 1, 1) := by decide +kernel
theorem dX3_pass_14 : decode cX3_pass 14 = .ok (.iadd, 1) := by decide +kernel
theorem dX3_pass_15 : decode cX3_pass 15 = .ok (.putfield 37, 3) := by decide +kernel
theorem dX3_pass_18 : decode cX3_pass 18 = .ok (.aload_n 0, 1) := by decide +kernel
theorem dX3_pass_19 : decode cX3_pass 19 = .ok (.getfield 19, 3) := by decide +kernel
theorem dX3_pass_22 : decode cX3_pass 22 = .ok (.aload_n 0, 1) := by decide +kernel
theorem dX3_pass_23 : decode cX3_pass 23 = .ok (.getfield 37, 3) := by decide +kernel
theorem dX3_pass_26 : decode cX3_pass 26 = .ok (.invokevirtual 63, 3) := by decide +kernel
theorem dX3_pass_29 : decode cX3_pass 29 = .ok (.aload_n 0, 1) := by decide +kernel
theorem dX3_pass_30 : decode cX3_pass 30 = .ok (.getfield 37, 3) := by decide +kernel
theorem dX3_pass_33 : decode cX3_pass 33 = .ok (.ireturn, 1) := by decide +kernel
set_option maxRecDepth 20000 in
theorem ggX3_syn_X3_requireWithin : GoodIn wsX3_syn wsX3_requireWithin := goodIn_ca (goodIn_r _ [8, 9, 10] (by decide +kernel) (by decide +kernel)) (goodIn_sub (fun _ h => List.mem_cons_of_mem _ (List.mem_append_right _ h)) (by decide +kernel))
set_option maxRecDepth 20000 in
theorem gX3_syn_X3_requireWithin : GoodIn wsX3_syn (va_wsS RX3 55 yX3_requireWithin wsX3_requireWithin) := goodIn_app (goodIn_of _ (by decide +kernel)) ggX3_syn_X3_requireWithin
set_option maxRecDepth 20000 in
theorem ggX3_syn_X3_callerOf : GoodIn wsX3_syn wsX3_callerOf := goodIn_r _ [13] (by decide +kernel) (by decide +kernel)
set_option maxRecDepth 20000 in
theorem gX3_syn_X3_callerOf : GoodIn wsX3_syn (va_wsS RX3 68 yX3_callerOf wsX3_callerOf) := goodIn_app (goodIn_of _ (by decide +kernel)) ggX3_syn_X3_callerOf
set_option maxRecDepth 20000 in
theorem ggX3_syn_X0_find : GoodIn wsX3_syn wsX0_find := goodIn_r _ [18, 19, 20, 116, 117, 118, 119] (by decide +kernel) (by decide +kernel)
set_option maxRecDepth 20000 in
theorem gX3_syn_X0_find : GoodIn wsX3_syn (wsV RX3 72 RX0 yX0_find wsX0_find) := goodIn_app (goodIn_of _ (by decide +kernel)) ggX3_syn_X0_find
set_option maxRecDepth 20000 in
theorem ggX3_syn_X1_find : GoodIn wsX3_syn wsX1_find := goodIn_r _ [25, 26, 27, 110, 111, 112, 113, 114, 115] (by decide +kernel) (by decide +kernel)
set_option maxRecDepth 20000 in
theorem gX3_syn_X1_find : GoodIn wsX3_syn (wsV RX3 78 RX1 yX1_find wsX1_find) := goodIn_app (goodIn_of _ (by decide +kernel)) ggX3_syn_X1_find
set_option maxRecDepth 20000 in
theorem ggX3_syn_X3_withoutSign : GoodIn wsX3_syn wsX3_withoutSign := goodIn_r _ [30, 31] (by decide +kernel) (by decide +kernel)
set_option maxRecDepth 20000 in
theorem gX3_syn_X3_withoutSign : GoodIn wsX3_syn (va_wsS RX3 86 yX3_withoutSign wsX3_withoutSign) := goodIn_app (goodIn_of _ (by decide +kernel)) ggX3_syn_X3_withoutSign
set_option maxRecDepth 20000 in
theorem ggX3_syn_X1_drop : GoodIn wsX3_syn wsX1_drop := goodIn_r _ [35, 26, 27, 36, 37, 38, 39, 110, 111, 112, 113, 114, 115] (by decide +kernel) (by decide +kernel)
set_option maxRecDepth 20000 in
theorem gX3_syn_X1_drop : GoodIn wsX3_syn (wsV RX3 90 RX1 yX1_drop wsX1_drop) := goodIn_app (goodIn_of _ (by decide +kernel)) ggX3_syn_X1_drop
set_option maxRecDepth 20000 in
theorem ggX3_syn_X3_kindOf : GoodIn wsX3_syn wsX3_kindOf := goodIn_r _ [42, 43] (by decide +kernel) (by decide +kernel)
set_option maxRecDepth 20000 in
theorem gX3_syn_X3_kindOf : GoodIn wsX3_syn (va_wsS RX3 93 yX3_kindOf wsX3_kindOf) := goodIn_app (goodIn_of _ (by decide +kernel)) ggX3_syn_X3_kindOf
set_option maxRecDepth 20000 in
theorem ggX3_syn_X3_answerNewSyn : GoodIn wsX3_syn wsX3_answerNewSyn := goodIn_r _ [47, 4, 48, 49, 50, 51, 52, 53, 54, 55, 7, 56, 57, 58, 59, 60, 61, 62, 63, 28, 29, 30, 31, 64, 65, 66, 1, 67, 68, 69, 70, 71, 72, 73, 74, 75, 76, 77, 78, 79, 80, 81, 82, 83, 84, 85, 86, 87, 88, 89, 90, 91, 92, 93, 94, 95, 96, 97, 24, 98, 26, 27, 36, 37, 38, 39, 99, 100, 101, 102, 103, 104, 105, 106, 107, 108, 109, 110, 111, 112, 113, 114, 115, 120, 121, 122, 123, 124, 125] (by decide +kernel) (by decide +kernel)
set_option maxRecDepth 20000 in
theorem gX3_syn_X3_answerNewSyn : GoodIn wsX3_syn (wsV RX3 97 RX3 yX3_answerNewSyn wsX3_answerNewSyn) := goodIn_app (goodIn_of _ (by decide +kernel)) ggX3_syn_X3_answerNewSyn
theorem dX3_syn_0 : decode cX3_syn 0 = .ok (.iload_n 2, 1) := by decide +kernel
theorem dX3_syn_1 : decode cX3_syn 1 = .ok (.iconst 0, 1) := by decide +kernel
theorem dX3_syn_2 : decode cX3_syn 2 = .ok (.ldc 67, 2) := by decide +kernel
theorem dX3_syn_4 : decode cX3_syn 4 = .ok (.invokestatic 55, 3) := by decide +kernel
theorem dX3_syn_7 : decode cX3_syn 7 = .ok (.iload 4, 2) := by decide +kernel
theorem dX3_syn_9 : decode cX3_syn 9 = .ok (.iconst 0, 1) := by decide +kernel
theorem dX3_syn_10 : decode cX3_syn 10 = .ok (.ldc 67, 2) := by decide +kernel
theorem dX3_syn_12 : decode cX3_syn 12 = .ok (.invokestatic 55, 3) := by decide +kernel
theorem dX3_syn_15 : decode cX3_syn 15 = .ok (.iload_n 1, 1) := by decide +kernel
theorem dX3_syn_16 : decode cX3_syn 16 = .ok (.iload_n 2, 1) := by decide +kernel
theorem dX3_syn_17 : decode cX3_syn 17 = .ok (.invokestatic 68, 3) := by decide +kernel
theorem dX3_syn_20 : decode cX3_syn 20 = .ok (.lstore 5, 2) := by decide +kernel
theorem dX3_syn_22 : decode cX3_syn 22 = .ok (.aload_n 0, 1) := by decide +kernel
theorem dX3_syn_23 : decode cX3_syn 23 = .ok (.getfield 26, 3) := by decide +kernel
theorem dX3_syn_26 : decode cX3_syn 26 = .ok (.lload 5, 2) := by decide +kernel
theorem dX3_syn_28 : decode cX3_syn 28 = .ok (.invokevirtual 72, 3) := by decide +kernel
theorem dX3_syn_31 : decode cX3_syn 31 = .ok (.iconst (-1), 1) := by decide +kernel
theorem dX3_syn_32 : decode cX3_syn 32 = .ok (.if_icmp .eq 7, 3) := by decide +kernel
theorem dX3_syn_35 : decode cX3_syn 35 = .ok (.ldc2_w 76, 3) := by decide +kernel
theorem dX3_syn_38 : decode cX3_syn 38 = .ok (.lreturn, 1) := by decide +kernel
theorem dX3_syn_39 : decode cX3_syn 39 = .ok (.aload_n 0, 1) := by decide +kernel
theorem dX3_syn_40 : decode cX3_syn 40 = .ok (.getfield 19, 3) := by decide +kernel
theorem dX3_syn_43 : decode cX3_syn 43 = .ok (.lload 5, 2) := by decide +kernel
theorem dX3_syn_45 : decode cX3_syn 45 = .ok (.invokevirtual 78, 3) := by decide +kernel
theorem dX3_syn_48 : decode cX3_syn 48 = .ok (.istore 7, 2) := by decide +kernel
theorem dX3_syn_50 : decode cX3_syn 50 = .ok (.iload 7, 2) := by decide +kernel
theorem dX3_syn_52 : decode cX3_syn 52 = .ok (.iconst (-1), 1) := by decide +kernel
theorem dX3_syn_53 : decode cX3_syn 53 = .ok (.if_icmp .eq 31, 3) := by decide +kernel
theorem dX3_syn_56 : decode cX3_syn 56 = .ok (.aload_n 0, 1) := by decide +kernel
theorem dX3_syn_57 : decode cX3_syn 57 = .ok (.getfield 19, 3) := by decide +kernel
theorem dX3_syn_60 : decode cX3_syn 60 = .ok (.getfield 79, 3) := by decide +kernel
theorem dX3_syn_63 : decode cX3_syn 63 = .ok (.iload 7, 2) := by decide +kernel
theorem dX3_syn_65 : decode cX3_syn 65 = .ok (.iaload, 1) := by decide +kernel
theorem dX3_syn_66 : decode cX3_syn 66 = .ok (.iload_n 3, 1) := by decide +kernel
theorem dX3_syn_67 : decode cX3_syn 67 = .ok (.if_icmp .ne 17, 3) := by decide +kernel
theorem dX3_syn_70 : decode cX3_syn 70 = .ok (.aload_n 0, 1) := by decide +kernel
theorem dX3_syn_71 : decode cX3_syn 71 = .ok (.getfield 19, 3) := by decide +kernel
theorem dX3_syn_74 : decode cX3_syn 74 = .ok (.getfield 83, 3) := by decide +kernel
theorem dX3_syn_77 : decode cX3_syn 77 = .ok (.iload 7, 2) := by decide +kernel
theorem dX3_syn_79 : decode cX3_syn 79 = .ok (.iaload, 1) := by decide +kernel
theorem dX3_syn_80 : decode cX3_syn 80 = .ok (.invokestatic 86, 3) := by decide +kernel
theorem dX3_syn_83 : decode cX3_syn 83 = .ok (.lreturn, 1) := by decide +kernel
theorem dX3_syn_84 : decode cX3_syn 84 = .ok (.iload 7, 2) := by decide +kernel
theorem dX3_syn_86 : decode cX3_syn 86 = .ok (.iconst (-1), 1) := by decide +kernel
theorem dX3_syn_87 : decode cX3_syn 87 = .ok (.if_icmp .eq 12, 3) := by decide +kernel
theorem dX3_syn_90 : decode cX3_syn 90 = .ok (.aload_n 0, 1) := by decide +kernel
theorem dX3_syn_91 : decode cX3_syn 91 = .ok (.getfield 19, 3) := by decide +kernel
theorem dX3_syn_94 : decode cX3_syn 94 = .ok (.iload 7, 2) := by decide +kernel
theorem dX3_syn_96 : decode cX3_syn 96 = .ok (.invokevirtual 90, 3) := by decide +kernel
theorem dX3_syn_99 : decode cX3_syn 99 = .ok (.aload_n 0, 1) := by decide +kernel
theorem dX3_syn_100 : decode cX3_syn 100 = .ok (.lload 5, 2) := by decide +kernel
theorem dX3_syn_102 : decode cX3_syn 102 = .ok (.iload_n 3, 1) := by decide +kernel
theorem dX3_syn_103 : decode cX3_syn 103 = .ok (.iload 4, 2) := by decide +kernel
theorem dX3_syn_105 : decode cX3_syn 105 = .ok (.invokestatic 93, 3) := by decide +kernel
theorem dX3_syn_108 : decode cX3_syn 108 = .ok (.invokevirtual 97, 3) := by decide +kernel
theorem dX3_syn_111 : decode cX3_syn 111 = .ok (.invokestatic 86, 3) := by decide +kernel
theorem dX3_syn_114 : decode cX3_syn 114 = .ok (.lreturn, 1) := by decide +kernel
set_option maxRecDepth 20000 in
theorem ggX3_ack_X3_requireWithin : GoodIn wsX3_ack wsX3_requireWithin := goodIn_ca (goodIn_r _ [8, 9, 10] (by decide +kernel) (by decide +kernel)) (goodIn_sub (fun _ h => List.mem_cons_of_mem _ (List.mem_append_right _ h)) (by decide +kernel))
set_option maxRecDepth 20000 in
theorem gX3_ack_X3_requireWithin : GoodIn wsX3_ack (va_wsS RX3 55 yX3_requireWithin wsX3_requireWithin) := goodIn_app (goodIn_of _ (by decide +kernel)) ggX3_ack_X3_requireWithin
set_option maxRecDepth 20000 in
theorem ggX3_ack_X3_callerOf : GoodIn wsX3_ack wsX3_callerOf := goodIn_r _ [13] (by decide +kernel) (by decide +kernel)
set_option maxRecDepth 20000 in
theorem gX3_ack_X3_callerOf : GoodIn wsX3_ack (va_wsS RX3 68 yX3_callerOf wsX3_callerOf) := goodIn_app (goodIn_of _ (by decide +kernel)) ggX3_ack_X3_callerOf
set_option maxRecDepth 20000 in
theorem ggX3_ack_X0_find : GoodIn wsX3_ack wsX0_find := goodIn_r _ [18, 19, 20, 129, 130, 131, 132] (by decide +kernel) (by decide +kernel)
set_option maxRecDepth 20000 in
theorem gX3_ack_X0_find : GoodIn wsX3_ack (wsV RX3 72 RX0 yX0_find wsX0_find) := goodIn_app (goodIn_of _ (by decide +kernel)) ggX3_ack_X0_find
set_option maxRecDepth 20000 in
theorem ggX3_ack_X1_find : GoodIn wsX3_ack wsX1_find := goodIn_r _ [25, 26, 27, 133, 134, 135, 136, 137, 138] (by decide +kernel) (by decide +kernel)
set_option maxRecDepth 20000 in
theorem gX3_ack_X1_find : GoodIn wsX3_ack (wsV RX3 78 RX1 yX1_find wsX1_find) := goodIn_app (goodIn_of _ (by decide +kernel)) ggX3_ack_X1_find
set_option maxRecDepth 20000 in
theorem ggX3_ack_X3_ackOfHalf : GoodIn wsX3_ack wsX3_ackOfHalf := goodIn_r _ [31, 3, 2, 32, 33, 34, 35, 36, 17, 37, 19, 38, 39, 40, 41, 42, 43, 44, 45, 46, 20, 47, 48, 49, 50, 24, 51, 26, 27, 52, 53, 54, 55, 118, 119, 120, 121, 122, 123, 124, 125, 126, 127, 128, 133, 134, 135, 136, 137, 138, 129, 130, 131, 132] (by decide +kernel) (by decide +kernel)
set_option maxRecDepth 20000 in
theorem gX3_ack_X3_ackOfHalf : GoodIn wsX3_ack (wsV RX3 101 RX3 yX3_ackOfHalf wsX3_ackOfHalf) := goodIn_app (goodIn_of _ (by decide +kernel)) ggX3_ack_X3_ackOfHalf
set_option maxRecDepth 20000 in
theorem ggX3_ack_X3_ackWithoutHalf : GoodIn wsX3_ack wsX3_ackWithoutHalf := goodIn_r _ [59, 2, 32, 60, 61, 62, 63, 7, 64, 65, 66, 67, 68, 69, 70, 71, 72, 73, 74, 75, 76, 77, 78, 79, 80, 81, 82, 83, 84, 85, 86, 87, 88, 89, 1, 90, 91, 92, 93, 94, 95, 96, 97, 98, 99, 100, 101, 102, 103, 104, 105, 106, 107, 108, 109, 110, 111, 112, 113, 114, 115, 116, 117, 34, 35, 36, 17, 37, 19, 38, 39, 40, 41, 42, 43, 44, 45, 46, 20, 47, 118, 119, 120, 121, 122, 123, 124, 125, 126, 127, 128, 139, 140, 141, 142, 143, 144, 129, 130, 131, 132] (by decide +kernel) (by decide +kernel)
set_option maxRecDepth 20000 in
theorem gX3_ack_X3_ackWithoutHalf : GoodIn wsX3_ack (wsV RX3 105 RX3 yX3_ackWithoutHalf wsX3_ackWithoutHalf) := goodIn_app (goodIn_of _ (by decide +kernel)) ggX3_ack_X3_ackWithoutHalf
theorem dX3_ack_0 : decode cX3_ack 0 = .ok (.iload_n 2, 1) := by decide +kernel
theorem dX3_ack_1 : decode cX3_ack 1 = .ok (.iconst 0, 1) := by decide +kernel
theorem dX3_ack_2 : decode cX3_ack 2 = .ok (.ldc 67, 2) := by decide +kernel
theorem dX3_ack_4 : decode cX3_ack 4 = .ok (.invokestatic 55, 3) := by decide +kernel
theorem dX3_ack_7 : decode cX3_ack 7 = .ok (.iload_n 1, 1) := by decide +kernel
theorem dX3_ack_8 : decode cX3_ack 8 = .ok (.iload_n 2, 1) := by decide +kernel
theorem dX3_ack_9 : decode cX3_ack 9 = .ok (.invokestatic 68, 3) := by decide +kernel
theorem dX3_ack_12 : decode cX3_ack 12 = .ok (.lstore 5, 2) := by decide +kernel
theorem dX3_ack_14 : decode cX3_ack 14 = .ok (.aload_n 0, 1) := by decide +kernel
theorem dX3_ack_15 : decode cX3_ack 15 = .ok (.getfield 26, 3) := by decide +kernel
theorem dX3_ack_18 : decode cX3_ack 18 = .ok (.lload 5, 2) := by decide +kernel
theorem dX3_ack_20 : decode cX3_ack 20 = .ok (.invokevirtual 72, 3) := by decide +kernel
theorem dX3_ack_23 : decode cX3_ack 23 = .ok (.iconst (-1), 1) := by decide +kernel
theorem dX3_ack_24 : decode cX3_ack 24 = .ok (.if_icmp .eq 5, 3) := by decide +kernel
theorem dX3_ack_27 : decode cX3_ack 27 = .ok (.iconst 1, 1) := by decide +kernel
theorem dX3_ack_28 : decode cX3_ack 28 = .ok (.ireturn, 1) := by decide +kernel
theorem dX3_ack_29 : decode cX3_ack 29 = .ok (.aload_n 0, 1) := by decide +kernel
theorem dX3_ack_30 : decode cX3_ack 30 = .ok (.getfield 19, 3) := by decide +kernel
theorem dX3_ack_33 : decode cX3_ack 33 = .ok (.lload 5, 2) := by decide +kernel
theorem dX3_ack_35 : decode cX3_ack 35 = .ok (.invokevirtual 78, 3) := by decide +kernel
theorem dX3_ack_38 : decode cX3_ack 38 = .ok (.istore 7, 2) := by decide +kernel
theorem dX3_ack_40 : decode cX3_ack 40 = .ok (.iload 7, 2) := by decide +kernel
theorem dX3_ack_42 : decode cX3_ack 42 = .ok (.iconst (-1), 1) := by decide +kernel
theorem dX3_ack_43 : decode cX3_ack 43 = .ok (.if_icmp .eq 17, 3) := by decide +kernel
theorem dX3_ack_46 : decode cX3_ack 46 = .ok (.aload_n 0, 1) := by decide +kernel
theorem dX3_ack_47 : decode cX3_ack 47 = .ok (.iload 7, 2) := by decide +kernel
theorem dX3_ack_49 : decode cX3_ack 49 = .ok (.iload_n 3, 1) := by decide +kernel
theorem dX3_ack_50 : decode cX3_ack 50 = .ok (.iconst 1, 1) := by decide +kernel
theorem dX3_ack_51 : decode cX3_ack 51 = .ok (.isub, 1) := by decide +kernel
theorem dX3_ack_52 : decode cX3_ack 52 = .ok (.iload 4, 2) := by decide +kernel
theorem dX3_ack_54 : decode cX3_ack 54 = .ok (.iconst 1, 1) := by decide +kernel
theorem dX3_ack_55 : decode cX3_ack 55 = .ok (.isub, 1) := by decide +kernel
theorem dX3_ack_56 : decode cX3_ack 56 = .ok (.invokevirtual 101, 3) := by decide +kernel
theorem dX3_ack_59 : decode cX3_ack 59 = .ok (.ireturn, 1) := by decide +kernel
theorem dX3_ack_60 : decode cX3_ack 60 = .ok (.aload_n 0, 1) := by decide +kernel
theorem dX3_ack_61 : decode cX3_ack 61 = .ok (.lload 5, 2) := by decide +kernel
theorem dX3_ack_63 : decode cX3_ack 63 = .ok (.iload_n 3, 1) := by decide +kernel
theorem dX3_ack_64 : decode cX3_ack 64 = .ok (.iconst 1, 1) := by decide +kernel
theorem dX3_ack_65 : decode cX3_ack 65 = .ok (.isub, 1) := by decide +kernel
theorem dX3_ack_66 : decode cX3_ack 66 = .ok (.iload 4, 2) := by decide +kernel
theorem dX3_ack_68 : decode cX3_ack 68 = .ok (.iconst 1, 1) := by decide +kernel
theorem dX3_ack_69 : decode cX3_ack 69 = .ok (.isub, 1) := by decide +kernel
theorem dX3_ack_70 : decode cX3_ack 70 = .ok (.invokevirtual 105, 3) := by decide +kernel
theorem dX3_ack_73 : decode cX3_ack 73 = .ok (.istore 8, 2) := by decide +kernel
theorem dX3_ack_75 : decode cX3_ack 75 = .ok (.iload 8, 2) := by decide +kernel
theorem dX3_ack_77 : decode cX3_ack 77 = .ok (.bipush 7, 2) := by decide +kernel
theorem dX3_ack_79 : decode cX3_ack 79 = .ok (.if_icmp .eq 10, 3) := by decide +kernel
theorem dX3_ack_82 : decode cX3_ack 82 = .ok (.iload 8, 2) := by decide +kernel
theorem dX3_ack_84 : decode cX3_ack 84 = .ok (.bipush 8, 2) := by decide +kernel
theorem dX3_ack_86 : decode cX3_ack 86 = .ok (.if_icmp .ne 13, 3) := by decide +kernel
theorem dX3_ack_89 : decode cX3_ack 89 = .ok (.aload_n 0, 1) := by decide +kernel
theorem dX3_ack_90 : decode cX3_ack 90 = .ok (.dup, 1) := by decide +kernel
theorem dX3_ack_91 : decode cX3_ack 91 = .ok (.getfield 52, 3) := by decide +kernel
theorem dX3_ack_94 : decode cX3_ack 94 = .ok (.iconst 1, 1) := by decide +kernel
theorem dX3_ack_95 : decode cX3_ack 95 = .ok (.iadd, 1) := by decide +kernel
theorem dX3_ack_96 : decode cX3_ack 96 = .ok (.putfield 52, 3) := by decide +kernel
theorem dX3_ack_99 : decode cX3_ack 99 = .ok (.iload 8, 2) := by decide +kernel
theorem dX3_ack_101 : decode cX3_ack 101 = .ok (.ireturn, 1) := by decide +kernel
set_option maxRecDepth 20000 in
theorem ggX3_take_X0_takeFirst : GoodIn wsX3_take wsX0_takeFirst := goodIn_r _ [6, 7, 8, 25, 26, 27, 28] (by decide +kernel) (by decide +kernel)
set_option maxRecDepth 20000 in
theorem gX3_take_X0_takeFirst : GoodIn wsX3_take (wsV RX3 108 RX0 yX0_takeFirst wsX0_takeFirst) := goodIn_app (goodIn_of _ (by decide +kernel)) ggX3_take_X0_takeFirst
set_option maxRecDepth 20000 in
theorem ggX3_take_X3_portOf : GoodIn wsX3_take wsX3_portOf := goodIn_r _ [12, 13] (by decide +kernel) (by decide +kernel)
set_option maxRecDepth 20000 in
theorem gX3_take_X3_portOf : GoodIn wsX3_take (va_wsS RX3 116 yX3_portOf wsX3_portOf) := goodIn_app (goodIn_of _ (by decide +kernel)) ggX3_take_X3_portOf
theorem dX3_take_0 : decode cX3_take 0 = .ok (.aload_n 0, 1) := by decide +kernel
theorem dX3_take_1 : decode cX3_take 1 = .ok (.getfield 26, 3) := by decide +kernel
theorem dX3_take_4 : decode cX3_take 4 = .ok (.invokevirtual 108, 3) := by decide +kernel
theorem dX3_take_7 : decode cX3_take 7 = .ok (.istore_n 1, 1) := by decide +kernel
theorem dX3_take_8 : decode cX3_take 8 = .ok (.iload_n 1, 1) := by decide +kernel
theorem dX3_take_9 : decode cX3_take 9 = .ok (.iconst (-1), 1) := by decide +kernel
theorem dX3_take_10 : decode cX3_take 10 = .ok (.if_icmp .ne 5, 3) := by decide +kernel
theorem dX3_take_13 : decode cX3_take 13 = .ok (.iconst (-1), 1) := by decide +kernel
theorem dX3_take_14 : decode cX3_take 14 = .ok (.ireturn, 1) := by decide +kernel
theorem dX3_take_15 : decode cX3_take 15 = .ok (.aload_n 0, 1) := by decide +kernel
theorem dX3_take_16 : decode cX3_take 16 = .ok (.getfield 26, 3) := by decide +kernel
theorem dX3_take_19 : decode cX3_take 19 = .ok (.getfield 112, 3) := by decide +kernel
theorem dX3_take_22 : decode cX3_take 22 = .ok (.iload_n 1, 1) := by decide +kernel
theorem dX3_take_23 : decode cX3_take 23 = .ok (.laload, 1) := by decide +kernel
theorem dX3_take_24 : decode cX3_take 24 = .ok (.invokestatic 116, 3) := by decide +kernel
theorem dX3_take_27 : decode cX3_take 27 = .ok (.aload_n 0, 1) := by decide +kernel
theorem dX3_take_28 : decode cX3_take 28 = .ok (.getfield 26, 3) := by decide +kernel
theorem dX3_take_31 : decode cX3_take 31 = .ok (.getfield 119, 3) := by decide +kernel
theorem dX3_take_34 : decode cX3_take 34 = .ok (.iload_n 1, 1) := by decide +kernel
theorem dX3_take_35 : decode cX3_take 35 = .ok (.iaload, 1) := by decide +kernel
theorem dX3_take_36 : decode cX3_take 36 = .ok (.bipush 16, 2) := by decide +kernel
theorem dX3_take_38 : decode cX3_take 38 = .ok (.ishl, 1) := by decide +kernel
theorem dX3_take_39 : decode cX3_take 39 = .ok (.iadd, 1) := by decide +kernel
theorem dX3_take_40 : decode cX3_take 40 = .ok (.ireturn, 1) := by decide +kernel
set_option maxRecDepth 20000 in
theorem ggX3_close_X3_requireWithin : GoodIn wsX3_close wsX3_requireWithin := goodIn_ca (goodIn_r _ [7, 8, 9] (by decide +kernel) (by decide +kernel)) (goodIn_sub (fun _ h => List.mem_cons_of_mem _ (List.mem_append_right _ h)) (by decide +kernel))
set_option maxRecDepth 20000 in
theorem gX3_close_X3_requireWithin : GoodIn wsX3_close (va_wsS RX3 55 yX3_requireWithin wsX3_requireWithin) := goodIn_app (goodIn_of _ (by decide +kernel)) ggX3_close_X3_requireWithin
set_option maxRecDepth 20000 in
theorem ggX3_close_X3_callerOf : GoodIn wsX3_close wsX3_callerOf := goodIn_r _ [12] (by decide +kernel) (by decide +kernel)
set_option maxRecDepth 20000 in
theorem gX3_close_X3_callerOf : GoodIn wsX3_close (va_wsS RX3 68 yX3_callerOf wsX3_callerOf) := goodIn_app (goodIn_of _ (by decide +kernel)) ggX3_close_X3_callerOf
set_option maxRecDepth 20000 in
theorem ggX3_close_X3_stateOf : GoodIn wsX3_close wsX3_stateOf := goodIn_r _ [16, 3, 2, 17, 18, 19, 20, 21, 22, 23, 24, 25, 26, 27, 28, 29, 30, 31, 32, 33, 34, 35, 50, 51, 52, 53, 54, 55, 56, 57, 58, 59, 60, 61, 62, 63, 64, 65, 66, 67, 68, 69, 70] (by decide +kernel) (by decide +kernel)
set_option maxRecDepth 20000 in
theorem gX3_close_X3_stateOf : GoodIn wsX3_close (wsV RX3 122 RX3 yX3_stateOf wsX3_stateOf) := goodIn_app (goodIn_of _ (by decide +kernel)) ggX3_close_X3_stateOf
set_option maxRecDepth 20000 in
theorem ggX3_close_X1_find : GoodIn wsX3_close wsX1_find := goodIn_r _ [33, 34, 35, 65, 66, 67, 68, 69, 70] (by decide +kernel) (by decide +kernel)
set_option maxRecDepth 20000 in
theorem gX3_close_X1_find : GoodIn wsX3_close (wsV RX3 78 RX1 yX1_find wsX1_find) := goodIn_app (goodIn_of _ (by decide +kernel)) ggX3_close_X1_find
set_option maxRecDepth 20000 in
theorem ggX3_close_X1_drop : GoodIn wsX3_close wsX1_drop := goodIn_r _ [39, 34, 35, 40, 41, 42, 43, 65, 66, 67, 68, 69, 70] (by decide +kernel) (by decide +kernel)
set_option maxRecDepth 20000 in
theorem gX3_close_X1_drop : GoodIn wsX3_close (wsV RX3 90 RX1 yX1_drop wsX1_drop) := goodIn_app (goodIn_of _ (by decide +kernel)) ggX3_close_X1_drop
set_option maxRecDepth 20000 in
theorem ggX3_close_X0_find : GoodIn wsX3_close wsX0_find := goodIn_r _ [21, 22, 23, 61, 62, 63, 64] (by decide +kernel) (by decide +kernel)
set_option maxRecDepth 20000 in
theorem gX3_close_X0_find : GoodIn wsX3_close (wsV RX3 72 RX0 yX0_find wsX0_find) := goodIn_app (goodIn_of _ (by decide +kernel)) ggX3_close_X0_find
set_option maxRecDepth 20000 in
theorem ggX3_close_X0_drop : GoodIn wsX3_close wsX0_drop := goodIn_r _ [47, 22, 28, 23, 48, 49, 25, 26, 20, 27, 61, 62, 63, 64] (by decide +kernel) (by decide +kernel)
set_option maxRecDepth 20000 in
theorem gX3_close_X0_drop : GoodIn wsX3_close (wsV RX3 125 RX0 yX0_drop wsX0_drop) := goodIn_app (goodIn_of _ (by decide +kernel)) ggX3_close_X0_drop
theorem dX3_close_0 : decode cX3_close 0 = .ok (.iload_n 2, 1) := by decide +kernel
theorem dX3_close_1 : decode cX3_close 1 = .ok (.iconst 0, 1) := by decide +kernel
theorem dX3_close_2 : decode cX3_close 2 = .ok (.ldc 67, 2) := by decide +kernel
theorem dX3_close_4 : decode cX3_close 4 = .ok (.invokestatic 55, 3) := by decide +kernel
theorem dX3_close_7 : decode cX3_close 7 = .ok (.iload_n 1, 1) := by decide +kernel
theorem dX3_close_8 : decode cX3_close 8 = .ok (.iload_n 2, 1) := by decide +kernel
theorem dX3_close_9 : decode cX3_close 9 = .ok (.invokestatic 68, 3) := by decide +kernel
theorem dX3_close_12 : decode cX3_close 12 = .ok (.lstore_n 3, 1) := by decide +kernel
theorem dX3_close_13 : decode cX3_close 13 = .ok (.aload_n 0, 1) := by decide +kernel
theorem dX3_close_14 : decode cX3_close 14 = .ok (.lload_n 3, 1) := by decide +kernel
theorem dX3_close_15 : decode cX3_close 15 = .ok (.invokevirtual 122, 3) := by decide +kernel
theorem dX3_close_18 : decode cX3_close 18 = .ok (.istore 5, 2) := by decide +kernel
theorem dX3_close_20 : decode cX3_close 20 = .ok (.iload 5, 2) := by decide +kernel
theorem dX3_close_22 : decode cX3_close 22 = .ok (.iconst 1, 1) := by decide +kernel
theorem dX3_close_23 : decode cX3_close 23 = .ok (.if_icmp .ne 21, 3) := by decide +kernel
theorem dX3_close_26 : decode cX3_close 26 = .ok (.aload_n 0, 1) := by decide +kernel
theorem dX3_close_27 : decode cX3_close 27 = .ok (.getfield 19, 3) := by decide +kernel
theorem dX3_close_30 : decode cX3_close 30 = .ok (.aload_n 0, 1) := by decide +kernel
theorem dX3_close_31 : decode cX3_close 31 = .ok (.getfield 19, 3) := by decide +kernel
theorem dX3_close_34 : decode cX3_close 34 = .ok (.lload_n 3, 1) := by decide +kernel
theorem dX3_close_35 : decode cX3_close 35 = .ok (.invokevirtual 78, 3) := by decide +kernel
theorem dX3_close_38 : decode cX3_close 38 = .ok (.invokevirtual 90, 3) := by decide +kernel
theorem dX3_close_41 : decode cX3_close 41 = .ok (.goto 23, 3) := by decide +kernel
theorem dX3_close_44 : decode cX3_close 44 = .ok (.iload 5, 2) := by decide +kernel
theorem dX3_close_46 : decode cX3_close 46 = .ok (.ifCond .eq 18, 3) := by decide +kernel
theorem dX3_close_49 : decode cX3_close 49 = .ok (.aload_n 0, 1) := by decide +kernel
theorem dX3_close_50 : decode cX3_close 50 = .ok (.getfield 26, 3) := by decide +kernel
theorem dX3_close_53 : decode cX3_close 53 = .ok (.aload_n 0, 1) := by decide +kernel
theorem dX3_close_54 : decode cX3_close 54 = .ok (.getfield 26, 3) := by decide +kernel
theorem dX3_close_57 : decode cX3_close 57 = .ok (.lload_n 3, 1) := by decide +kernel
theorem dX3_close_58 : decode cX3_close 58 = .ok (.invokevirtual 72, 3) := by decide +kernel
theorem dX3_close_61 : decode cX3_close 61 = .ok (.invokevirtual 125, 3) := by decide +kernel
theorem dX3_close_64 : decode cX3_close 64 = .ok (.iload 5, 2) := by decide +kernel
theorem dX3_close_66 : decode cX3_close 66 = .ok (.ireturn, 1) := by decide +kernel
set_option maxRecDepth 20000 in
theorem ggX3_state_X3_requireWithin : GoodIn wsX3_state wsX3_requireWithin := goodIn_ca (goodIn_r _ [5, 6, 7] (by decide +kernel) (by decide +kernel)) (goodIn_sub (fun _ h => List.mem_cons_of_mem _ (List.mem_append_right _ h)) (by decide +kernel))
set_option maxRecDepth 20000 in
theorem gX3_state_X3_requireWithin : GoodIn wsX3_state (va_wsS RX3 55 yX3_requireWithin wsX3_requireWithin) := goodIn_app (goodIn_of _ (by decide +kernel)) ggX3_state_X3_requireWithin
set_option maxRecDepth 20000 in
theorem ggX3_state_X3_callerOf : GoodIn wsX3_state wsX3_callerOf := goodIn_r _ [10] (by decide +kernel) (by decide +kernel)
set_option maxRecDepth 20000 in
theorem gX3_state_X3_callerOf : GoodIn wsX3_state (va_wsS RX3 68 yX3_callerOf wsX3_callerOf) := goodIn_app (goodIn_of _ (by decide +kernel)) ggX3_state_X3_callerOf
set_option maxRecDepth 20000 in
theorem ggX3_state_X3_stateOf : GoodIn wsX3_state wsX3_stateOf := goodIn_r _ [14, 15, 16, 17, 18, 19, 20, 21, 22, 23, 24, 25, 26, 27, 28, 29, 30, 31, 32, 33, 34, 35, 36, 37, 38, 39, 40, 41, 42, 43, 44, 45, 46, 47, 48, 49, 50, 51, 52, 53, 54, 55, 56] (by decide +kernel) (by decide +kernel)
set_option maxRecDepth 20000 in
theorem gX3_state_X3_stateOf : GoodIn wsX3_state (wsV RX3 122 RX3 yX3_stateOf wsX3_stateOf) := goodIn_app (goodIn_of _ (by decide +kernel)) ggX3_state_X3_stateOf
theorem dX3_state_0 : decode cX3_state 0 = .ok (.iload_n 2, 1) := by decide +kernel
theorem dX3_state_1 : decode cX3_state 1 = .ok (.iconst 0, 1) := by decide +kernel
theorem dX3_state_2 : decode cX3_state 2 = .ok (.ldc 67, 2) := by decide +kernel
theorem dX3_state_4 : decode cX3_state 4 = .ok (.invokestatic 55, 3) := by decide +kernel
theorem dX3_state_7 : decode cX3_state 7 = .ok (.aload_n 0, 1) := by decide +kernel
theorem dX3_state_8 : decode cX3_state 8 = .ok (.iload_n 1, 1) := by decide +kernel
theorem dX3_state_9 : decode cX3_state 9 = .ok (.iload_n 2, 1) := by decide +kernel
theorem dX3_state_10 : decode cX3_state 10 = .ok (.invokestatic 68, 3) := by decide +kernel
theorem dX3_state_13 : decode cX3_state 13 = .ok (.invokevirtual 122, 3) := by decide +kernel
theorem dX3_state_16 : decode cX3_state 16 = .ok (.ireturn, 1) := by decide +kernel
set_option maxRecDepth 20000 in
theorem ggX3_cookie_X3_requireWithin : GoodIn wsX3_cookie wsX3_requireWithin := goodIn_ca (goodIn_r _ [6, 7, 8] (by decide +kernel) (by decide +kernel)) (goodIn_sub (fun _ h => List.mem_cons_of_mem _ (List.mem_append_right _ h)) (by decide +kernel))
set_option maxRecDepth 20000 in
theorem gX3_cookie_X3_requireWithin : GoodIn wsX3_cookie (va_wsS RX3 55 yX3_requireWithin wsX3_requireWithin) := goodIn_app (goodIn_of _ (by decide +kernel)) ggX3_cookie_X3_requireWithin
set_option maxRecDepth 20000 in
theorem ggX3_cookie_X3_callerOf : GoodIn wsX3_cookie wsX3_callerOf := goodIn_r _ [11] (by decide +kernel) (by decide +kernel)
set_option maxRecDepth 20000 in
theorem gX3_cookie_X3_callerOf : GoodIn wsX3_cookie (va_wsS RX3 68 yX3_callerOf wsX3_callerOf) := goodIn_app (goodIn_of _ (by decide +kernel)) ggX3_cookie_X3_callerOf
set_option maxRecDepth 20000 in
theorem ggX3_cookie_X3_cookieOf : GoodIn wsX3_cookie wsX3_cookieOf := goodIn_r _ [15, 16, 17, 18, 19, 20, 5, 21, 22, 23, 24, 25, 1, 26, 27, 28, 29, 30, 31, 32, 33, 34, 35, 36, 37, 38, 39, 40, 41, 42, 43, 44, 45, 46, 47, 48, 49, 50, 51, 52, 53, 54, 55, 56, 57, 58, 59, 60, 61, 62, 63, 64, 65, 66, 67, 68, 69, 70] (by decide +kernel) (by decide +kernel)
set_option maxRecDepth 20000 in
theorem gX3_cookie_X3_cookieOf : GoodIn wsX3_cookie (wsV RX3 129 RX3 yX3_cookieOf wsX3_cookieOf) := goodIn_app (goodIn_of _ (by decide +kernel)) ggX3_cookie_X3_cookieOf
set_option maxRecDepth 20000 in
theorem ggX3_cookie_X3_withoutSign : GoodIn wsX3_cookie wsX3_withoutSign := goodIn_r _ [21, 22] (by decide +kernel) (by decide +kernel)
set_option maxRecDepth 20000 in
theorem gX3_cookie_X3_withoutSign : GoodIn wsX3_cookie (va_wsS RX3 86 yX3_withoutSign wsX3_withoutSign) := goodIn_app (goodIn_of _ (by decide +kernel)) ggX3_cookie_X3_withoutSign
theorem dX3_cookie_0 : decode cX3_cookie 0 = .ok (.iload_n 2, 1) := by decide +kernel
theorem dX3_cookie_1 : decode cX3_cookie 1 = .ok (.iconst 0, 1) := by decide +kernel
theorem dX3_cookie_2 : decode cX3_cookie 2 = .ok (.ldc 67, 2) := by decide +kernel
theorem dX3_cookie_4 : decode cX3_cookie 4 = .ok (.invokestatic 55, 3) := by decide +kernel
theorem dX3_cookie_7 : decode cX3_cookie 7 = .ok (.iload 4, 2) := by decide +kernel
theorem dX3_cookie_9 : decode cX3_cookie 9 = .ok (.iconst 0, 1) := by decide +kernel
theorem dX3_cookie_10 : decode cX3_cookie 10 = .ok (.bipush 7, 2) := by decide +kernel
theorem dX3_cookie_12 : decode cX3_cookie 12 = .ok (.invokestatic 55, 3) := by decide +kernel
theorem dX3_cookie_15 : decode cX3_cookie 15 = .ok (.iload 5, 2) := by decide +kernel
theorem dX3_cookie_17 : decode cX3_cookie 17 = .ok (.iconst 0, 1) := by decide +kernel
theorem dX3_cookie_18 : decode cX3_cookie 18 = .ok (.ldc 128, 2) := by decide +kernel
theorem dX3_cookie_20 : decode cX3_cookie 20 = .ok (.invokestatic 55, 3) := by decide +kernel
theorem dX3_cookie_23 : decode cX3_cookie 23 = .ok (.aload_n 0, 1) := by decide +kernel
theorem dX3_cookie_24 : decode cX3_cookie 24 = .ok (.iload_n 1, 1) := by decide +kernel
theorem dX3_cookie_25 : decode cX3_cookie 25 = .ok (.iload_n 2, 1) := by decide +kernel
theorem dX3_cookie_26 : decode cX3_cookie 26 = .ok (.invokestatic 68, 3) := by decide +kernel
theorem dX3_cookie_29 : decode cX3_cookie 29 = .ok (.iload_n 3, 1) := by decide +kernel
theorem dX3_cookie_30 : decode cX3_cookie 30 = .ok (.iload 4, 2) := by decide +kernel
theorem dX3_cookie_32 : decode cX3_cookie 32 = .ok (.iload 5, 2) := by decide +kernel
theorem dX3_cookie_34 : decode cX3_cookie 34 = .ok (.invokevirtual 129, 3) := by decide +kernel
theorem dX3_cookie_37 : decode cX3_cookie 37 = .ok (.invokestatic 86, 3) := by decide +kernel
theorem dX3_cookie_40 : decode cX3_cookie 40 = .ok (.lreturn, 1) := by decide +kernel
set_option maxRecDepth 20000 in
theorem ggX3_hash_X2_digest : GoodIn wsX3_hash wsX2_digest := goodIn_r _ [6, 7, 8, 9, 10, 11, 12, 13, 14, 15, 16, 17, 18, 19, 20, 21, 5, 22, 23, 24, 25, 26, 27, 28, 29, 41, 42, 43, 44, 45, 46] (by decide +kernel) (by decide +kernel)
set_option maxRecDepth 20000 in
theorem gX3_hash_X2_digest : GoodIn wsX3_hash (wsV RX3 133 RX2 yX2_digest wsX2_digest) := goodIn_app (goodIn_of _ (by decide +kernel)) ggX3_hash_X2_digest
theorem dX3_hash_0 : decode cX3_hash 0 = .ok (.aload_n 0, 1) := by decide +kernel
theorem dX3_hash_1 : decode cX3_hash 1 = .ok (.getfield 10, 3) := by decide +kernel
theorem dX3_hash_4 : decode cX3_hash 4 = .ok (.lload_n 1, 1) := by decide +kernel
theorem dX3_hash_5 : decode cX3_hash 5 = .ok (.lload_n 3, 1) := by decide +kernel
theorem dX3_hash_6 : decode cX3_hash 6 = .ok (.invokevirtual 133, 3) := by decide +kernel
theorem dX3_hash_9 : decode cX3_hash 9 = .ok (.lreturn, 1) := by decide +kernel
set_option maxRecDepth 20000 in
theorem ggX3_told_X0_waiting : GoodIn wsX3_told wsX0_waiting := goodIn_r _ [14, 15, 16, 34, 35, 36, 37] (by decide +kernel) (by decide +kernel)
set_option maxRecDepth 20000 in
theorem gX3_told_X0_waiting : GoodIn wsX3_told (wsV RX3 140 RX0 yX0_waiting wsX0_waiting) := goodIn_app (goodIn_of _ (by decide +kernel)) ggX3_told_X0_waiting
theorem dX3_told_0 : decode cX3_told 0 = .ok (.iload_n 1, 1) := by decide +kernel
theorem dX3_told_1 : decode cX3_told 1 = .ok (.tableswitch 96 0 7 #[47, 55, 63, 71, 76, 81, 86, 91], 47) := by decide +kernel
theorem dX3_told_48 : decode cX3_told 48 = .ok (.aload_n 0, 1) := by decide +kernel
theorem dX3_told_49 : decode cX3_told 49 = .ok (.getfield 19, 3) := by decide +kernel
theorem dX3_told_52 : decode cX3_told 52 = .ok (.getfield 137, 3) := by decide +kernel
theorem dX3_told_55 : decode cX3_told 55 = .ok (.ireturn, 1) := by decide +kernel
theorem dX3_told_56 : decode cX3_told 56 = .ok (.aload_n 0, 1) := by decide +kernel
theorem dX3_told_57 : decode cX3_told 57 = .ok (.getfield 26, 3) := by decide +kernel
theorem dX3_told_60 : decode cX3_told 60 = .ok (.invokevirtual 140, 3) := by decide +kernel
theorem dX3_told_63 : decode cX3_told 63 = .ok (.ireturn, 1) := by decide +kernel
theorem dX3_told_64 : decode cX3_told 64 = .ok (.aload_n 0, 1) := by decide +kernel
theorem dX3_told_65 : decode cX3_told 65 = .ok (.getfield 26, 3) := by decide +kernel
theorem dX3_told_68 : decode cX3_told 68 = .ok (.getfield 143, 3) := by decide +kernel
theorem dX3_told_71 : decode cX3_told 71 = .ok (.ireturn, 1) := by decide +kernel
theorem dX3_told_72 : decode cX3_told 72 = .ok (.aload_n 0, 1) := by decide +kernel
theorem dX3_told_73 : decode cX3_told 73 = .ok (.getfield 43, 3) := by decide +kernel
theorem dX3_told_76 : decode cX3_told 76 = .ok (.ireturn, 1) := by decide +kernel
theorem dX3_told_77 : decode cX3_told 77 = .ok (.aload_n 0, 1) := by decide +kernel
theorem dX3_told_78 : decode cX3_told 78 = .ok (.getfield 46, 3) := by decide +kernel
theorem dX3_told_81 : decode cX3_told 81 = .ok (.ireturn, 1) := by decide +kernel
theorem dX3_told_82 : decode cX3_told 82 = .ok (.aload_n 0, 1) := by decide +kernel
theorem dX3_told_83 : decode cX3_told 83 = .ok (.getfield 49, 3) := by decide +kernel
theorem dX3_told_86 : decode cX3_told 86 = .ok (.ireturn, 1) := by decide +kernel
theorem dX3_told_87 : decode cX3_told 87 = .ok (.aload_n 0, 1) := by decide +kernel
theorem dX3_told_88 : decode cX3_told 88 = .ok (.getfield 52, 3) := by decide +kernel
theorem dX3_told_91 : decode cX3_told 91 = .ok (.ireturn, 1) := by decide +kernel
theorem dX3_told_92 : decode cX3_told 92 = .ok (.aload_n 0, 1) := by decide +kernel
theorem dX3_told_93 : decode cX3_told 93 = .ok (.getfield 37, 3) := by decide +kernel
theorem dX3_told_96 : decode cX3_told 96 = .ok (.ireturn, 1) := by decide +kernel
theorem dX3_told_97 : decode cX3_told 97 = .ok (.new 144, 3) := by decide +kernel
theorem dX3_told_100 : decode cX3_told 100 = .ok (.dup, 1) := by decide +kernel
theorem dX3_told_101 : decode cX3_told 101 = .ok (.ldc 146, 2) := by decide +kernel
theorem dX3_told_103 : decode cX3_told 103 = .ok (.invokespecial 148, 3) := by decide +kernel
theorem dX3_told_106 : decode cX3_told 106 = .ok (.athrow, 1) := by decide +kernel
theorem dX3_requireWithin_0 : decode cX3_requireWithin 0 = .ok (.iload_n 0, 1) := by decide +kernel
theorem dX3_requireWithin_1 : decode cX3_requireWithin 1 = .ok (.iload_n 1, 1) := by decide +kernel
theorem dX3_requireWithin_2 : decode cX3_requireWithin 2 = .ok (.if_icmp .lt 8, 3) := by decide +kernel
theorem dX3_requireWithin_5 : decode cX3_requireWithin 5 = .ok (.iload_n 0, 1) := by decide +kernel
theorem dX3_requireWithin_6 : decode cX3_requireWithin 6 = .ok (.iload_n 2, 1) := by decide +kernel
theorem dX3_requireWithin_7 : decode cX3_requireWithin 7 = .ok (.if_icmp .le 13, 3) := by decide +kernel
theorem dX3_requireWithin_10 : decode cX3_requireWithin 10 = .ok (.new 144, 3) := by decide +kernel
theorem dX3_requireWithin_13 : decode cX3_requireWithin 13 = .ok (.dup, 1) := by decide +kernel
theorem dX3_requireWithin_14 : decode cX3_requireWithin 14 = .ok (.ldc 151, 2) := by decide +kernel
theorem dX3_requireWithin_16 : decode cX3_requireWithin 16 = .ok (.invokespecial 148, 3) := by decide +kernel
theorem dX3_requireWithin_19 : decode cX3_requireWithin 19 = .ok (.athrow, 1) := by decide +kernel
theorem dX3_requireWithin_20 : decode cX3_requireWithin 20 = .ok (.return_, 1) := by decide +kernel
theorem dX3_callerOf_0 : decode cX3_callerOf 0 = .ok (.iload_n 0, 1) := by decide +kernel
theorem dX3_callerOf_1 : decode cX3_callerOf 1 = .ok (.i2l, 1) := by decide +kernel
theorem dX3_callerOf_2 : decode cX3_callerOf 2 = .ok (.bipush 32, 2) := by decide +kernel
theorem dX3_callerOf_4 : decode cX3_callerOf 4 = .ok (.lshl, 1) := by decide +kernel
theorem dX3_callerOf_5 : decode cX3_callerOf 5 = .ok (.iload_n 1, 1) := by decide +kernel
theorem dX3_callerOf_6 : decode cX3_callerOf 6 = .ok (.i2l, 1) := by decide +kernel
theorem dX3_callerOf_7 : decode cX3_callerOf 7 = .ok (.lor, 1) := by decide +kernel
theorem dX3_callerOf_8 : decode cX3_callerOf 8 = .ok (.lreturn, 1) := by decide +kernel
theorem dX3_portOf_0 : decode cX3_portOf 0 = .ok (.lload_n 0, 1) := by decide +kernel
theorem dX3_portOf_1 : decode cX3_portOf 1 = .ok (.l2i, 1) := by decide +kernel
theorem dX3_portOf_2 : decode cX3_portOf 2 = .ok (.ldc 67, 2) := by decide +kernel
theorem dX3_portOf_4 : decode cX3_portOf 4 = .ok (.iand, 1) := by decide +kernel
theorem dX3_portOf_5 : decode cX3_portOf 5 = .ok (.ireturn, 1) := by decide +kernel
theorem dX3_withoutSign_0 : decode cX3_withoutSign 0 = .ok (.iload_n 0, 1) := by decide +kernel
theorem dX3_withoutSign_1 : decode cX3_withoutSign 1 = .ok (.i2l, 1) := by decide +kernel
theorem dX3_withoutSign_2 : decode cX3_withoutSign 2 = .ok (.ldc2_w 153, 3) := by decide +kernel
theorem dX3_withoutSign_5 : decode cX3_withoutSign 5 = .ok (.land, 1) := by decide +kernel
theorem dX3_withoutSign_6 : decode cX3_withoutSign 6 = .ok (.lreturn, 1) := by decide +kernel
theorem dX3_kindOf_0 : decode cX3_kindOf 0 = .ok (.iconst 0, 1) := by decide +kernel
theorem dX3_kindOf_1 : decode cX3_kindOf 1 = .ok (.istore_n 1, 1) := by decide +kernel
theorem dX3_kindOf_2 : decode cX3_kindOf 2 = .ok (.iconst 0, 1) := by decide +kernel
theorem dX3_kindOf_3 : decode cX3_kindOf 3 = .ok (.istore_n 2, 1) := by decide +kernel
theorem dX3_kindOf_4 : decode cX3_kindOf 4 = .ok (.iload_n 2, 1) := by decide +kernel
theorem dX3_kindOf_5 : decode cX3_kindOf 5 = .ok (.getstatic 155, 3) := by decide +kernel
theorem dX3_kindOf_8 : decode cX3_kindOf 8 = .ok (.arraylength, 1) := by decide +kernel
theorem dX3_kindOf_9 : decode cX3_kindOf 9 = .ok (.if_icmp .ge 20, 3) := by decide +kernel
theorem dX3_kindOf_12 : decode cX3_kindOf 12 = .ok (.getstatic 155, 3) := by decide +kernel
theorem dX3_kindOf_15 : decode cX3_kindOf 15 = .ok (.iload_n 2, 1) := by decide +kernel
theorem dX3_kindOf_16 : decode cX3_kindOf 16 = .ok (.iaload, 1) := by decide +kernel
theorem dX3_kindOf_17 : decode cX3_kindOf 17 = .ok (.iload_n 0, 1) := by decide +kernel
theorem dX3_kindOf_18 : decode cX3_kindOf 18 = .ok (.if_icmp .gt 5, 3) := by decide +kernel
theorem dX3_kindOf_21 : decode cX3_kindOf 21 = .ok (.iload_n 2, 1) := by decide +kernel
theorem dX3_kindOf_22 : decode cX3_kindOf 22 = .ok (.istore_n 1, 1) := by decide +kernel
theorem dX3_kindOf_23 : decode cX3_kindOf 23 = .ok (.iinc 2 1, 3) := by decide +kernel
theorem dX3_kindOf_26 : decode cX3_kindOf 26 = .ok (.goto (-22), 3) := by decide +kernel
theorem dX3_kindOf_29 : decode cX3_kindOf 29 = .ok (.iload_n 1, 1) := by decide +kernel
theorem dX3_kindOf_30 : decode cX3_kindOf 30 = .ok (.ireturn, 1) := by decide +kernel
theorem dX3_slotNow_0 : decode cX3_slotNow 0 = .ok (.aload_n 0, 1) := by decide +kernel
theorem dX3_slotNow_1 : decode cX3_slotNow 1 = .ok (.getfield 37, 3) := by decide +kernel
theorem dX3_slotNow_4 : decode cX3_slotNow 4 = .ok (.bipush 64, 2) := by decide +kernel
theorem dX3_slotNow_6 : decode cX3_slotNow 6 = .ok (.idiv, 1) := by decide +kernel
theorem dX3_slotNow_7 : decode cX3_slotNow 7 = .ok (.ireturn, 1) := by decide +kernel
set_option maxRecDepth 20000 in
theorem ggX3_cookieOf_X3_withoutSign : GoodIn wsX3_cookieOf wsX3_withoutSign := goodIn_r _ [7, 8] (by decide +kernel) (by decide +kernel)
set_option maxRecDepth 20000 in
theorem gX3_cookieOf_X3_withoutSign : GoodIn wsX3_cookieOf (va_wsS RX3 86 yX3_withoutSign wsX3_withoutSign) := goodIn_app (goodIn_of _ (by decide +kernel)) ggX3_cookieOf_X3_withoutSign
set_option maxRecDepth 20000 in
theorem ggX3_cookieOf_X3_portOf : GoodIn wsX3_cookieOf wsX3_portOf := goodIn_r _ [11, 12] (by decide +kernel) (by decide +kernel)
set_option maxRecDepth 20000 in
theorem gX3_cookieOf_X3_portOf : GoodIn wsX3_cookieOf (va_wsS RX3 116 yX3_portOf wsX3_portOf) := goodIn_app (goodIn_of _ (by decide +kernel)) ggX3_cookieOf_X3_portOf
set_option maxRecDepth 20000 in
theorem ggX3_cookieOf_X2_digest : GoodIn wsX3_cookieOf wsX2_digest := goodIn_r _ [17, 18, 19, 20, 21, 22, 23, 24, 25, 26, 27, 28, 29, 30, 31, 32, 16, 33, 34, 35, 36, 37, 38, 39, 40, 52, 53, 54, 55, 56, 57] (by decide +kernel) (by decide +kernel)
set_option maxRecDepth 20000 in
theorem gX3_cookieOf_X2_digest : GoodIn wsX3_cookieOf (wsV RX3 133 RX2 yX2_digest wsX2_digest) := goodIn_app (goodIn_of _ (by decide +kernel)) ggX3_cookieOf_X2_digest
theorem dX3_cookieOf_0 : decode cX3_cookieOf 0 = .ok (.lload_n 1, 1) := by decide +kernel
theorem dX3_cookieOf_1 : decode cX3_cookieOf 1 = .ok (.ldc2_w 158, 3) := by decide +kernel
theorem dX3_cookieOf_4 : decode cX3_cookieOf 4 = .ok (.land, 1) := by decide +kernel
theorem dX3_cookieOf_5 : decode cX3_cookieOf 5 = .ok (.iload_n 3, 1) := by decide +kernel
theorem dX3_cookieOf_6 : decode cX3_cookieOf 6 = .ok (.invokestatic 86, 3) := by decide +kernel
theorem dX3_cookieOf_9 : decode cX3_cookieOf 9 = .ok (.lor, 1) := by decide +kernel
theorem dX3_cookieOf_10 : decode cX3_cookieOf 10 = .ok (.lstore 6, 2) := by decide +kernel
theorem dX3_cookieOf_12 : decode cX3_cookieOf 12 = .ok (.lload_n 1, 1) := by decide +kernel
theorem dX3_cookieOf_13 : decode cX3_cookieOf 13 = .ok (.invokestatic 116, 3) := by decide +kernel
theorem dX3_cookieOf_16 : decode cX3_cookieOf 16 = .ok (.i2l, 1) := by decide +kernel
theorem dX3_cookieOf_17 : decode cX3_cookieOf 17 = .ok (.iload 4, 2) := by decide +kernel
theorem dX3_cookieOf_19 : decode cX3_cookieOf 19 = .ok (.i2l, 1) := by decide +kernel
theorem dX3_cookieOf_20 : decode cX3_cookieOf 20 = .ok (.bipush 16, 2) := by decide +kernel
theorem dX3_cookieOf_22 : decode cX3_cookieOf 22 = .ok (.lshl, 1) := by decide +kernel
theorem dX3_cookieOf_23 : decode cX3_cookieOf 23 = .ok (.ladd, 1) := by decide +kernel
theorem dX3_cookieOf_24 : decode cX3_cookieOf 24 = .ok (.iload 5, 2) := by decide +kernel
theorem dX3_cookieOf_26 : decode cX3_cookieOf 26 = .ok (.i2l, 1) := by decide +kernel
theorem dX3_cookieOf_27 : decode cX3_cookieOf 27 = .ok (.bipush 20, 2) := by decide +kernel
theorem dX3_cookieOf_29 : decode cX3_cookieOf 29 = .ok (.lshl, 1) := by decide +kernel
theorem dX3_cookieOf_30 : decode cX3_cookieOf 30 = .ok (.ladd, 1) := by decide +kernel
theorem dX3_cookieOf_31 : decode cX3_cookieOf 31 = .ok (.lstore 8, 2) := by decide +kernel
theorem dX3_cookieOf_33 : decode cX3_cookieOf 33 = .ok (.aload_n 0, 1) := by decide +kernel
theorem dX3_cookieOf_34 : decode cX3_cookieOf 34 = .ok (.getfield 10, 3) := by decide +kernel
theorem dX3_cookieOf_37 : decode cX3_cookieOf 37 = .ok (.lload 6, 2) := by decide +kernel
theorem dX3_cookieOf_39 : decode cX3_cookieOf 39 = .ok (.lload 8, 2) := by decide +kernel
theorem dX3_cookieOf_41 : decode cX3_cookieOf 41 = .ok (.invokevirtual 133, 3) := by decide +kernel
theorem dX3_cookieOf_44 : decode cX3_cookieOf 44 = .ok (.l2i, 1) := by decide +kernel
theorem dX3_cookieOf_45 : decode cX3_cookieOf 45 = .ok (.ldc 160, 2) := by decide +kernel
theorem dX3_cookieOf_47 : decode cX3_cookieOf 47 = .ok (.iand, 1) := by decide +kernel
theorem dX3_cookieOf_48 : decode cX3_cookieOf 48 = .ok (.istore 10, 2) := by decide +kernel
theorem dX3_cookieOf_50 : decode cX3_cookieOf 50 = .ok (.iload 5, 2) := by decide +kernel
theorem dX3_cookieOf_52 : decode cX3_cookieOf 52 = .ok (.bipush 31, 2) := by decide +kernel
theorem dX3_cookieOf_54 : decode cX3_cookieOf 54 = .ok (.iand, 1) := by decide +kernel
theorem dX3_cookieOf_55 : decode cX3_cookieOf 55 = .ok (.bipush 27, 2) := by decide +kernel
theorem dX3_cookieOf_57 : decode cX3_cookieOf 57 = .ok (.ishl, 1) := by decide +kernel
theorem dX3_cookieOf_58 : decode cX3_cookieOf 58 = .ok (.iload 4, 2) := by decide +kernel
theorem dX3_cookieOf_60 : decode cX3_cookieOf 60 = .ok (.bipush 24, 2) := by decide +kernel
theorem dX3_cookieOf_62 : decode cX3_cookieOf 62 = .ok (.ishl, 1) := by decide +kernel
theorem dX3_cookieOf_63 : decode cX3_cookieOf 63 = .ok (.ior, 1) := by decide +kernel
theorem dX3_cookieOf_64 : decode cX3_cookieOf 64 = .ok (.iload 10, 2) := by decide +kernel
theorem dX3_cookieOf_66 : decode cX3_cookieOf 66 = .ok (.ior, 1) := by decide +kernel
theorem dX3_cookieOf_67 : decode cX3_cookieOf 67 = .ok (.ireturn, 1) := by decide +kernel
set_option maxRecDepth 20000 in
theorem ggX3_answerNewSyn_X3_slotNow : GoodIn wsX3_answerNewSyn wsX3_slotNow := goodIn_r _ [11, 4, 66, 67, 68, 69, 70, 71, 72, 73, 74, 75, 76] (by decide +kernel) (by decide +kernel)
set_option maxRecDepth 20000 in
theorem gX3_answerNewSyn_X3_slotNow : GoodIn wsX3_answerNewSyn (wsV RX3 161 RX3 yX3_slotNow wsX3_slotNow) := goodIn_app (goodIn_of _ (by decide +kernel)) ggX3_answerNewSyn_X3_slotNow
set_option maxRecDepth 20000 in
theorem ggX3_answerNewSyn_X3_cookieOf : GoodIn wsX3_answerNewSyn wsX3_cookieOf := goodIn_r _ [15, 16, 17, 18, 19, 20, 10, 21, 22, 23, 24, 25, 26, 27, 28, 29, 30, 31, 32, 33, 34, 35, 36, 37, 38, 39, 40, 41, 42, 43, 44, 45, 46, 47, 48, 49, 50, 51, 52, 53, 54, 66, 67, 68, 69, 70, 71, 72, 73, 74, 75, 76, 83, 84, 85, 86, 87, 88] (by decide +kernel) (by decide +kernel)
set_option maxRecDepth 20000 in
theorem gX3_answerNewSyn_X3_cookieOf : GoodIn wsX3_answerNewSyn (wsV RX3 129 RX3 yX3_cookieOf wsX3_cookieOf) := goodIn_app (goodIn_of _ (by decide +kernel)) ggX3_answerNewSyn_X3_cookieOf
set_option maxRecDepth 20000 in
theorem ggX3_answerNewSyn_X1_add : GoodIn wsX3_answerNewSyn wsX1_add := goodIn_r _ [59, 60, 61, 62, 63, 64, 65, 77, 78, 79, 80, 81, 82] (by decide +kernel) (by decide +kernel)
set_option maxRecDepth 20000 in
theorem gX3_answerNewSyn_X1_add : GoodIn wsX3_answerNewSyn (wsV RX3 165 RX1 yX1_add wsX1_add) := goodIn_app (goodIn_of _ (by decide +kernel)) ggX3_answerNewSyn_X1_add
theorem dX3_answerNewSyn_0 : decode cX3_answerNewSyn 0 = .ok (.aload_n 0, 1) := by decide +kernel
theorem dX3_answerNewSyn_1 : decode cX3_answerNewSyn 1 = .ok (.lload_n 1, 1) := by decide +kernel
theorem dX3_answerNewSyn_2 : decode cX3_answerNewSyn 2 = .ok (.iload_n 3, 1) := by decide +kernel
theorem dX3_answerNewSyn_3 : decode cX3_answerNewSyn 3 = .ok (.iload 4, 2) := by decide +kernel
theorem dX3_answerNewSyn_5 : decode cX3_answerNewSyn 5 = .ok (.aload_n 0, 1) := by decide +kernel
theorem dX3_answerNewSyn_6 : decode cX3_answerNewSyn 6 = .ok (.invokevirtual 161, 3) := by decide +kernel
theorem dX3_answerNewSyn_9 : decode cX3_answerNewSyn 9 = .ok (.invokevirtual 129, 3) := by decide +kernel
theorem dX3_answerNewSyn_12 : decode cX3_answerNewSyn 12 = .ok (.istore 5, 2) := by decide +kernel
theorem dX3_answerNewSyn_14 : decode cX3_answerNewSyn 14 = .ok (.aload_n 0, 1) := by decide +kernel
theorem dX3_answerNewSyn_15 : decode cX3_answerNewSyn 15 = .ok (.getfield 19, 3) := by decide +kernel
theorem dX3_answerNewSyn_18 : decode cX3_answerNewSyn 18 = .ok (.getfield 137, 3) := by decide +kernel
theorem dX3_answerNewSyn_21 : decode cX3_answerNewSyn 21 = .ok (.aload_n 0, 1) := by decide +kernel
theorem dX3_answerNewSyn_22 : decode cX3_answerNewSyn 22 = .ok (.getfield 30, 3) := by decide +kernel
theorem dX3_answerNewSyn_25 : decode cX3_answerNewSyn 25 = .ok (.if_icmp .lt 24, 3) := by decide +kernel
theorem dX3_answerNewSyn_28 : decode cX3_answerNewSyn 28 = .ok (.aload_n 0, 1) := by decide +kernel
theorem dX3_answerNewSyn_29 : decode cX3_answerNewSyn 29 = .ok (.dup, 1) := by decide +kernel
theorem dX3_answerNewSyn_30 : decode cX3_answerNewSyn 30 = .ok (.getfield 43, 3) := by decide +kernel
theorem dX3_answerNewSyn_33 : decode cX3_answerNewSyn 33 = .ok (.iconst 1, 1) := by decide +kernel
theorem dX3_answerNewSyn_34 : decode cX3_answerNewSyn 34 = .ok (.iadd, 1) := by decide +kernel
theorem dX3_answerNewSyn_35 : decode cX3_answerNewSyn 35 = .ok (.putfield 43, 3) := by decide +kernel
theorem dX3_answerNewSyn_38 : decode cX3_answerNewSyn 38 = .ok (.aload_n 0, 1) := by decide +kernel
theorem dX3_answerNewSyn_39 : decode cX3_answerNewSyn 39 = .ok (.aload_n 0, 1) := by decide +kernel
theorem dX3_answerNewSyn_40 : decode cX3_answerNewSyn 40 = .ok (.getfield 37, 3) := by decide +kernel
theorem dX3_answerNewSyn_43 : decode cX3_answerNewSyn 43 = .ok (.putfield 40, 3) := by decide +kernel
theorem dX3_answerNewSyn_46 : decode cX3_answerNewSyn 46 = .ok (.iload 5, 2) := by decide +kernel
theorem dX3_answerNewSyn_48 : decode cX3_answerNewSyn 48 = .ok (.ireturn, 1) := by decide +kernel
theorem dX3_answerNewSyn_49 : decode cX3_answerNewSyn 49 = .ok (.iload 5, 2) := by decide +kernel
theorem dX3_answerNewSyn_51 : decode cX3_answerNewSyn 51 = .ok (.ldc 164, 2) := by decide +kernel
theorem dX3_answerNewSyn_53 : decode cX3_answerNewSyn 53 = .ok (.ixor, 1) := by decide +kernel
theorem dX3_answerNewSyn_54 : decode cX3_answerNewSyn 54 = .ok (.istore 6, 2) := by decide +kernel
theorem dX3_answerNewSyn_56 : decode cX3_answerNewSyn 56 = .ok (.aload_n 0, 1) := by decide +kernel
theorem dX3_answerNewSyn_57 : decode cX3_answerNewSyn 57 = .ok (.getfield 19, 3) := by decide +kernel
theorem dX3_answerNewSyn_60 : decode cX3_answerNewSyn 60 = .ok (.lload_n 1, 1) := by decide +kernel
theorem dX3_answerNewSyn_61 : decode cX3_answerNewSyn 61 = .ok (.iload_n 3, 1) := by decide +kernel
theorem dX3_answerNewSyn_62 : decode cX3_answerNewSyn 62 = .ok (.iload 6, 2) := by decide +kernel
theorem dX3_answerNewSyn_64 : decode cX3_answerNewSyn 64 = .ok (.iload 4, 2) := by decide +kernel
theorem dX3_answerNewSyn_66 : decode cX3_answerNewSyn 66 = .ok (.aload_n 0, 1) := by decide +kernel
theorem dX3_answerNewSyn_67 : decode cX3_answerNewSyn 67 = .ok (.getfield 37, 3) := by decide +kernel
theorem dX3_answerNewSyn_70 : decode cX3_answerNewSyn 70 = .ok (.invokevirtual 165, 3) := by decide +kernel
theorem dX3_answerNewSyn_73 : decode cX3_answerNewSyn 73 = .ok (.iload 6, 2) := by decide +kernel
theorem dX3_answerNewSyn_75 : decode cX3_answerNewSyn 75 = .ok (.ireturn, 1) := by decide +kernel
set_option maxRecDepth 20000 in
theorem ggX3_ackOfHalf_X0_hasRoom : GoodIn wsX3_ackOfHalf wsX0_hasRoom := goodIn_r _ [9, 10, 11, 12, 13, 8, 14, 15, 50, 51, 52, 53] (by decide +kernel) (by decide +kernel)
set_option maxRecDepth 20000 in
theorem gX3_ackOfHalf_X0_hasRoom : GoodIn wsX3_ackOfHalf (wsV RX3 169 RX0 yX0_hasRoom wsX0_hasRoom) := goodIn_app (goodIn_of _ (by decide +kernel)) ggX3_ackOfHalf_X0_hasRoom
set_option maxRecDepth 20000 in
theorem ggX3_ackOfHalf_X0_add : GoodIn wsX3_ackOfHalf wsX0_add := goodIn_r _ [19, 10, 20, 21, 50, 51, 52, 53] (by decide +kernel) (by decide +kernel)
set_option maxRecDepth 20000 in
theorem gX3_ackOfHalf_X0_add : GoodIn wsX3_ackOfHalf (wsV RX3 175 RX0 yX0_add wsX0_add) := goodIn_app (goodIn_of _ (by decide +kernel)) ggX3_ackOfHalf_X0_add
set_option maxRecDepth 20000 in
theorem ggX3_ackOfHalf_X1_drop : GoodIn wsX3_ackOfHalf wsX1_drop := goodIn_r _ [26, 27, 28, 29, 30, 31, 32, 44, 45, 46, 47, 48, 49] (by decide +kernel) (by decide +kernel)
set_option maxRecDepth 20000 in
theorem gX3_ackOfHalf_X1_drop : GoodIn wsX3_ackOfHalf (wsV RX3 90 RX1 yX1_drop wsX1_drop) := goodIn_app (goodIn_of _ (by decide +kernel)) ggX3_ackOfHalf_X1_drop
theorem dX3_ackOfHalf_0 : decode cX3_ackOfHalf 0 = .ok (.aload_n 0, 1) := by decide +kernel
theorem dX3_ackOfHalf_1 : decode cX3_ackOfHalf 1 = .ok (.getfield 19, 3) := by decide +kernel
theorem dX3_ackOfHalf_4 : decode cX3_ackOfHalf 4 = .ok (.getfield 79, 3) := by decide +kernel
theorem dX3_ackOfHalf_7 : decode cX3_ackOfHalf 7 = .ok (.iload_n 1, 1) := by decide +kernel
theorem dX3_ackOfHalf_8 : decode cX3_ackOfHalf 8 = .ok (.iaload, 1) := by decide +kernel
theorem dX3_ackOfHalf_9 : decode cX3_ackOfHalf 9 = .ok (.iload_n 2, 1) := by decide +kernel
theorem dX3_ackOfHalf_10 : decode cX3_ackOfHalf 10 = .ok (.if_icmp .ne 16, 3) := by decide +kernel
theorem dX3_ackOfHalf_13 : decode cX3_ackOfHalf 13 = .ok (.aload_n 0, 1) := by decide +kernel
theorem dX3_ackOfHalf_14 : decode cX3_ackOfHalf 14 = .ok (.getfield 19, 3) := by decide +kernel
theorem dX3_ackOfHalf_17 : decode cX3_ackOfHalf 17 = .ok (.getfield 83, 3) := by decide +kernel
theorem dX3_ackOfHalf_20 : decode cX3_ackOfHalf 20 = .ok (.iload_n 1, 1) := by decide +kernel
theorem dX3_ackOfHalf_21 : decode cX3_ackOfHalf 21 = .ok (.iaload, 1) := by decide +kernel
theorem dX3_ackOfHalf_22 : decode cX3_ackOfHalf 22 = .ok (.iload_n 3, 1) := by decide +kernel
theorem dX3_ackOfHalf_23 : decode cX3_ackOfHalf 23 = .ok (.if_icmp .eq 5, 3) := by decide +kernel
theorem dX3_ackOfHalf_26 : decode cX3_ackOfHalf 26 = .ok (.iconst 4, 1) := by decide +kernel
theorem dX3_ackOfHalf_27 : decode cX3_ackOfHalf 27 = .ok (.ireturn, 1) := by decide +kernel
theorem dX3_ackOfHalf_28 : decode cX3_ackOfHalf 28 = .ok (.aload_n 0, 1) := by decide +kernel
theorem dX3_ackOfHalf_29 : decode cX3_ackOfHalf 29 = .ok (.getfield 26, 3) := by decide +kernel
theorem dX3_ackOfHalf_32 : decode cX3_ackOfHalf 32 = .ok (.aload_n 0, 1) := by decide +kernel
theorem dX3_ackOfHalf_33 : decode cX3_ackOfHalf 33 = .ok (.getfield 34, 3) := by decide +kernel
theorem dX3_ackOfHalf_36 : decode cX3_ackOfHalf 36 = .ok (.invokevirtual 169, 3) := by decide +kernel
theorem dX3_ackOfHalf_39 : decode cX3_ackOfHalf 39 = .ok (.ifCond .ne 5, 3) := by decide +kernel
theorem dX3_ackOfHalf_42 : decode cX3_ackOfHalf 42 = .ok (.iconst 3, 1) := by decide +kernel
theorem dX3_ackOfHalf_43 : decode cX3_ackOfHalf 43 = .ok (.ireturn, 1) := by decide +kernel
theorem dX3_ackOfHalf_44 : decode cX3_ackOfHalf 44 = .ok (.aload_n 0, 1) := by decide +kernel
theorem dX3_ackOfHalf_45 : decode cX3_ackOfHalf 45 = .ok (.getfield 26, 3) := by decide +kernel
theorem dX3_ackOfHalf_48 : decode cX3_ackOfHalf 48 = .ok (.aload_n 0, 1) := by decide +kernel
theorem dX3_ackOfHalf_49 : decode cX3_ackOfHalf 49 = .ok (.getfield 19, 3) := by decide +kernel
theorem dX3_ackOfHalf_52 : decode cX3_ackOfHalf 52 = .ok (.getfield 173, 3) := by decide +kernel
theorem dX3_ackOfHalf_55 : decode cX3_ackOfHalf 55 = .ok (.iload_n 1, 1) := by decide +kernel
theorem dX3_ackOfHalf_56 : decode cX3_ackOfHalf 56 = .ok (.laload, 1) := by decide +kernel
theorem dX3_ackOfHalf_57 : decode cX3_ackOfHalf 57 = .ok (.aload_n 0, 1) := by decide +kernel
theorem dX3_ackOfHalf_58 : decode cX3_ackOfHalf 58 = .ok (.getfield 19, 3) := by decide +kernel
theorem dX3_ackOfHalf_61 : decode cX3_ackOfHalf 61 = .ok (.getfield 174, 3) := by decide +kernel
theorem dX3_ackOfHalf_64 : decode cX3_ackOfHalf 64 = .ok (.iload_n 1, 1) := by decide +kernel
theorem dX3_ackOfHalf_65 : decode cX3_ackOfHalf 65 = .ok (.iaload, 1) := by decide +kernel
theorem dX3_ackOfHalf_66 : decode cX3_ackOfHalf 66 = .ok (.invokevirtual 175, 3) := by decide +kernel
theorem dX3_ackOfHalf_69 : decode cX3_ackOfHalf 69 = .ok (.aload_n 0, 1) := by decide +kernel
theorem dX3_ackOfHalf_70 : decode cX3_ackOfHalf 70 = .ok (.getfield 19, 3) := by decide +kernel
theorem dX3_ackOfHalf_73 : decode cX3_ackOfHalf 73 = .ok (.iload_n 1, 1) := by decide +kernel
theorem dX3_ackOfHalf_74 : decode cX3_ackOfHalf 74 = .ok (.invokevirtual 90, 3) := by decide +kernel
theorem dX3_ackOfHalf_77 : decode cX3_ackOfHalf 77 = .ok (.aload_n 0, 1) := by decide +kernel
theorem dX3_ackOfHalf_78 : decode cX3_ackOfHalf 78 = .ok (.dup, 1) := by decide +kernel
theorem dX3_ackOfHalf_79 : decode cX3_ackOfHalf 79 = .ok (.getfield 46, 3) := by decide +kernel
theorem dX3_ackOfHalf_82 : decode cX3_ackOfHalf 82 = .ok (.iconst 1, 1) := by decide +kernel
theorem dX3_ackOfHalf_83 : decode cX3_ackOfHalf 83 = .ok (.iadd, 1) := by decide +kernel
theorem dX3_ackOfHalf_84 : decode cX3_ackOfHalf 84 = .ok (.putfield 46, 3) := by decide +kernel
theorem dX3_ackOfHalf_87 : decode cX3_ackOfHalf 87 = .ok (.iconst 2, 1) := by decide +kernel
theorem dX3_ackOfHalf_88 : decode cX3_ackOfHalf 88 = .ok (.ireturn, 1) := by decide +kernel
set_option maxRecDepth 20000 in
theorem ggX3_ackWithoutHalf_X3_cookiesGivenLately : GoodIn wsX3_ackWithoutHalf wsX3_cookiesGivenLately := goodIn_r _ [8, 9, 10, 11, 80, 81, 82, 83, 84, 85, 86, 87, 88, 89, 90] (by decide +kernel) (by decide +kernel)
set_option maxRecDepth 20000 in
theorem gX3_ackWithoutHalf_X3_cookiesGivenLately : GoodIn wsX3_ackWithoutHalf (wsV RX3 178 RX3 yX3_cookiesGivenLately wsX3_cookiesGivenLately) := goodIn_app (goodIn_of _ (by decide +kernel)) ggX3_ackWithoutHalf_X3_cookiesGivenLately
set_option maxRecDepth 20000 in
theorem ggX3_ackWithoutHalf_X3_isCookieOfLateSlot : GoodIn wsX3_ackWithoutHalf wsX3_isCookieOfLateSlot := goodIn_r _ [15, 16, 17, 18, 7, 19, 10, 20, 21, 22, 23, 24, 25, 26, 27, 28, 29, 30, 31, 32, 33, 34, 35, 36, 37, 38, 39, 40, 41, 42, 43, 44, 45, 46, 47, 48, 49, 50, 51, 52, 53, 54, 55, 56, 57, 58, 59, 60, 61, 62, 80, 81, 82, 83, 84, 85, 86, 87, 88, 89, 90, 91, 92, 93, 94, 95, 96] (by decide +kernel) (by decide +kernel)
set_option maxRecDepth 20000 in
theorem gX3_ackWithoutHalf_X3_isCookieOfLateSlot : GoodIn wsX3_ackWithoutHalf (wsV RX3 182 RX3 yX3_isCookieOfLateSlot wsX3_isCookieOfLateSlot) := goodIn_app (goodIn_of _ (by decide +kernel)) ggX3_ackWithoutHalf_X3_isCookieOfLateSlot
set_option maxRecDepth 20000 in
theorem ggX3_ackWithoutHalf_X0_hasRoom : GoodIn wsX3_ackWithoutHalf wsX0_hasRoom := goodIn_r _ [67, 68, 69, 70, 71, 66, 72, 73, 97, 98, 99, 100] (by decide +kernel) (by decide +kernel)
set_option maxRecDepth 20000 in
theorem gX3_ackWithoutHalf_X0_hasRoom : GoodIn wsX3_ackWithoutHalf (wsV RX3 169 RX0 yX0_hasRoom wsX0_hasRoom) := goodIn_app (goodIn_of _ (by decide +kernel)) ggX3_ackWithoutHalf_X0_hasRoom
set_option maxRecDepth 20000 in
theorem ggX3_ackWithoutHalf_X0_add : GoodIn wsX3_ackWithoutHalf wsX0_add := goodIn_r _ [77, 68, 78, 79, 97, 98, 99, 100] (by decide +kernel) (by decide +kernel)
set_option maxRecDepth 20000 in
theorem gX3_ackWithoutHalf_X0_add : GoodIn wsX3_ackWithoutHalf (wsV RX3 175 RX0 yX0_add wsX0_add) := goodIn_app (goodIn_of _ (by decide +kernel)) ggX3_ackWithoutHalf_X0_add
theorem dX3_ackWithoutHalf_0 : decode cX3_ackWithoutHalf 0 = .ok (.aload_n 0, 1) := by decide +kernel
theorem dX3_ackWithoutHalf_1 : decode cX3_ackWithoutHalf 1 = .ok (.invokevirtual 178, 3) := by decide +kernel
theorem dX3_ackWithoutHalf_4 : decode cX3_ackWithoutHalf 4 = .ok (.ifCond .ne 6, 3) := by decide +kernel
theorem dX3_ackWithoutHalf_7 : decode cX3_ackWithoutHalf 7 = .ok (.bipush 8, 2) := by decide +kernel
theorem dX3_ackWithoutHalf_9 : decode cX3_ackWithoutHalf 9 = .ok (.ireturn, 1) := by decide +kernel
theorem dX3_ackWithoutHalf_10 : decode cX3_ackWithoutHalf 10 = .ok (.iload 4, 2) := by decide +kernel
theorem dX3_ackWithoutHalf_12 : decode cX3_ackWithoutHalf 12 = .ok (.bipush 24, 2) := by decide +kernel
theorem dX3_ackWithoutHalf_14 : decode cX3_ackWithoutHalf 14 = .ok (.iushr, 1) := by decide +kernel
theorem dX3_ackWithoutHalf_15 : decode cX3_ackWithoutHalf 15 = .ok (.bipush 7, 2) := by decide +kernel
theorem dX3_ackWithoutHalf_17 : decode cX3_ackWithoutHalf 17 = .ok (.iand, 1) := by decide +kernel
theorem dX3_ackWithoutHalf_18 : decode cX3_ackWithoutHalf 18 = .ok (.istore 5, 2) := by decide +kernel
theorem dX3_ackWithoutHalf_20 : decode cX3_ackWithoutHalf 20 = .ok (.aload_n 0, 1) := by decide +kernel
theorem dX3_ackWithoutHalf_21 : decode cX3_ackWithoutHalf 21 = .ok (.iload 4, 2) := by decide +kernel
theorem dX3_ackWithoutHalf_23 : decode cX3_ackWithoutHalf 23 = .ok (.lload_n 1, 1) := by decide +kernel
theorem dX3_ackWithoutHalf_24 : decode cX3_ackWithoutHalf 24 = .ok (.iload_n 3, 1) := by decide +kernel
theorem dX3_ackWithoutHalf_25 : decode cX3_ackWithoutHalf 25 = .ok (.iload 5, 2) := by decide +kernel
theorem dX3_ackWithoutHalf_27 : decode cX3_ackWithoutHalf 27 = .ok (.invokevirtual 182, 3) := by decide +kernel
theorem dX3_ackWithoutHalf_30 : decode cX3_ackWithoutHalf 30 = .ok (.ifCond .ne 6, 3) := by decide +kernel
theorem dX3_ackWithoutHalf_33 : decode cX3_ackWithoutHalf 33 = .ok (.bipush 7, 2) := by decide +kernel
theorem dX3_ackWithoutHalf_35 : decode cX3_ackWithoutHalf 35 = .ok (.ireturn, 1) := by decide +kernel
theorem dX3_ackWithoutHalf_36 : decode cX3_ackWithoutHalf 36 = .ok (.aload_n 0, 1) := by decide +kernel
theorem dX3_ackWithoutHalf_37 : decode cX3_ackWithoutHalf 37 = .ok (.getfield 26, 3) := by decide +kernel
theorem dX3_ackWithoutHalf_40 : decode cX3_ackWithoutHalf 40 = .ok (.aload_n 0, 1) := by decide +kernel
theorem dX3_ackWithoutHalf_41 : decode cX3_ackWithoutHalf 41 = .ok (.getfield 34, 3) := by decide +kernel
theorem dX3_ackWithoutHalf_44 : decode cX3_ackWithoutHalf 44 = .ok (.invokevirtual 169, 3) := by decide +kernel
theorem dX3_ackWithoutHalf_47 : decode cX3_ackWithoutHalf 47 = .ok (.ifCond .ne 6, 3) := by decide +kernel
theorem dX3_ackWithoutHalf_50 : decode cX3_ackWithoutHalf 50 = .ok (.bipush 6, 2) := by decide +kernel
theorem dX3_ackWithoutHalf_52 : decode cX3_ackWithoutHalf 52 = .ok (.ireturn, 1) := by decide +kernel
theorem dX3_ackWithoutHalf_53 : decode cX3_ackWithoutHalf 53 = .ok (.aload_n 0, 1) := by decide +kernel
theorem dX3_ackWithoutHalf_54 : decode cX3_ackWithoutHalf 54 = .ok (.getfield 26, 3) := by decide +kernel
theorem dX3_ackWithoutHalf_57 : decode cX3_ackWithoutHalf 57 = .ok (.lload_n 1, 1) := by decide +kernel
theorem dX3_ackWithoutHalf_58 : decode cX3_ackWithoutHalf 58 = .ok (.iload 5, 2) := by decide +kernel
theorem dX3_ackWithoutHalf_60 : decode cX3_ackWithoutHalf 60 = .ok (.invokevirtual 175, 3) := by decide +kernel
theorem dX3_ackWithoutHalf_63 : decode cX3_ackWithoutHalf 63 = .ok (.aload_n 0, 1) := by decide +kernel
theorem dX3_ackWithoutHalf_64 : decode cX3_ackWithoutHalf 64 = .ok (.dup, 1) := by decide +kernel
theorem dX3_ackWithoutHalf_65 : decode cX3_ackWithoutHalf 65 = .ok (.getfield 49, 3) := by decide +kernel
theorem dX3_ackWithoutHalf_68 : decode cX3_ackWithoutHalf 68 = .ok (.iconst 1, 1) := by decide +kernel
theorem dX3_ackWithoutHalf_69 : decode cX3_ackWithoutHalf 69 = .ok (.iadd, 1) := by decide +kernel
theorem dX3_ackWithoutHalf_70 : decode cX3_ackWithoutHalf 70 = .ok (.putfield 49, 3) := by decide +kernel
theorem dX3_ackWithoutHalf_73 : decode cX3_ackWithoutHalf 73 = .ok (.iconst 5, 1) := by decide +kernel
theorem dX3_ackWithoutHalf_74 : decode cX3_ackWithoutHalf 74 = .ok (.ireturn, 1) := by decide +kernel
theorem dX3_cookiesGivenLately_0 : decode cX3_cookiesGivenLately 0 = .ok (.aload_n 0, 1) := by decide +kernel
theorem dX3_cookiesGivenLately_1 : decode cX3_cookiesGivenLately 1 = .ok (.getfield 43, 3) := by decide +kernel
theorem dX3_cookiesGivenLately_4 : decode cX3_cookiesGivenLately 4 = .ok (.ifCond .le 22, 3) := by decide +kernel
theorem dX3_cookiesGivenLately_7 : decode cX3_cookiesGivenLately 7 = .ok (.aload_n 0, 1) := by decide +kernel
theorem dX3_cookiesGivenLately_8 : decode cX3_cookiesGivenLately 8 = .ok (.getfield 37, 3) := by decide +kernel
theorem dX3_cookiesGivenLately_11 : decode cX3_cookiesGivenLately 11 = .ok (.aload_n 0, 1) := by decide +kernel
theorem dX3_cookiesGivenLately_12 : decode cX3_cookiesGivenLately 12 = .ok (.getfield 40, 3) := by decide +kernel
theorem dX3_cookiesGivenLately_15 : decode cX3_cookiesGivenLately 15 = .ok (.isub, 1) := by decide +kernel
theorem dX3_cookiesGivenLately_16 : decode cX3_cookiesGivenLately 16 = .ok (.sipush 128, 3) := by decide +kernel
theorem dX3_cookiesGivenLately_19 : decode cX3_cookiesGivenLately 19 = .ok (.if_icmp .gt 7, 3) := by decide +kernel
theorem dX3_cookiesGivenLately_22 : decode cX3_cookiesGivenLately 22 = .ok (.iconst 1, 1) := by decide +kernel
theorem dX3_cookiesGivenLately_23 : decode cX3_cookiesGivenLately 23 = .ok (.goto 4, 3) := by decide +kernel
theorem dX3_cookiesGivenLately_26 : decode cX3_cookiesGivenLately 26 = .ok (.iconst 0, 1) := by decide +kernel
theorem dX3_cookiesGivenLately_27 : decode cX3_cookiesGivenLately 27 = .ok (.ireturn, 1) := by decide +kernel
set_option maxRecDepth 20000 in
theorem ggX3_isCookieOfLateSlot_X3_slotNow : GoodIn wsX3_isCookieOfLateSlot wsX3_slotNow := goodIn_r _ [5, 6, 50, 51, 52, 53, 54, 55, 56, 57, 58, 59, 60] (by decide +kernel) (by decide +kernel)
set_option maxRecDepth 20000 in
theorem gX3_isCookieOfLateSlot_X3_slotNow : GoodIn wsX3_isCookieOfLateSlot (wsV RX3 161 RX3 yX3_slotNow wsX3_slotNow) := goodIn_app (goodIn_of _ (by decide +kernel)) ggX3_isCookieOfLateSlot_X3_slotNow
set_option maxRecDepth 20000 in
theorem ggX3_isCookieOfLateSlot_X3_cookieOf : GoodIn wsX3_isCookieOfLateSlot wsX3_cookieOf := goodIn_r _ [10, 11, 12, 13, 14, 15, 4, 16, 17, 18, 19, 20, 21, 22, 23, 24, 25, 26, 27, 28, 29, 30, 31, 32, 33, 34, 35, 36, 37, 38, 39, 40, 41, 42, 43, 44, 45, 46, 47, 48, 49, 50, 51, 52, 53, 54, 55, 56, 57, 58, 59, 60, 61, 62, 63, 64, 65, 66] (by decide +kernel) (by decide +kernel)
set_option maxRecDepth 20000 in
theorem gX3_isCookieOfLateSlot_X3_cookieOf : GoodIn wsX3_isCookieOfLateSlot (wsV RX3 129 RX3 yX3_cookieOf wsX3_cookieOf) := goodIn_app (goodIn_of _ (by decide +kernel)) ggX3_isCookieOfLateSlot_X3_cookieOf
theorem dX3_isCookieOfLateSlot_0 : decode cX3_isCookieOfLateSlot 0 = .ok (.aload_n 0, 1) := by decide +kernel
theorem dX3_isCookieOfLateSlot_1 : decode cX3_isCookieOfLateSlot 1 = .ok (.invokevirtual 161, 3) := by decide +kernel
theorem dX3_isCookieOfLateSlot_4 : decode cX3_isCookieOfLateSlot 4 = .ok (.istore 6, 2) := by decide +kernel
theorem dX3_isCookieOfLateSlot_6 : decode cX3_isCookieOfLateSlot 6 = .ok (.iload_n 1, 1) := by decide +kernel
theorem dX3_isCookieOfLateSlot_7 : decode cX3_isCookieOfLateSlot 7 = .ok (.aload_n 0, 1) := by decide +kernel
theorem dX3_isCookieOfLateSlot_8 : decode cX3_isCookieOfLateSlot 8 = .ok (.lload_n 2, 1) := by decide +kernel
theorem dX3_isCookieOfLateSlot_9 : decode cX3_isCookieOfLateSlot 9 = .ok (.iload 4, 2) := by decide +kernel
theorem dX3_isCookieOfLateSlot_11 : decode cX3_isCookieOfLateSlot 11 = .ok (.iload 5, 2) := by decide +kernel
theorem dX3_isCookieOfLateSlot_13 : decode cX3_isCookieOfLateSlot 13 = .ok (.iload 6, 2) := by decide +kernel
theorem dX3_isCookieOfLateSlot_15 : decode cX3_isCookieOfLateSlot 15 = .ok (.invokevirtual 129, 3) := by decide +kernel
theorem dX3_isCookieOfLateSlot_18 : decode cX3_isCookieOfLateSlot 18 = .ok (.if_icmp .ne 5, 3) := by decide +kernel
theorem dX3_isCookieOfLateSlot_21 : decode cX3_isCookieOfLateSlot 21 = .ok (.iconst 1, 1) := by decide +kernel
theorem dX3_isCookieOfLateSlot_22 : decode cX3_isCookieOfLateSlot 22 = .ok (.ireturn, 1) := by decide +kernel
theorem dX3_isCookieOfLateSlot_23 : decode cX3_isCookieOfLateSlot 23 = .ok (.iload 6, 2) := by decide +kernel
theorem dX3_isCookieOfLateSlot_25 : decode cX3_isCookieOfLateSlot 25 = .ok (.ifCond .le 24, 3) := by decide +kernel
theorem dX3_isCookieOfLateSlot_28 : decode cX3_isCookieOfLateSlot 28 = .ok (.iload_n 1, 1) := by decide +kernel
theorem dX3_isCookieOfLateSlot_29 : decode cX3_isCookieOfLateSlot 29 = .ok (.aload_n 0, 1) := by decide +kernel
theorem dX3_isCookieOfLateSlot_30 : decode cX3_isCookieOfLateSlot 30 = .ok (.lload_n 2, 1) := by decide +kernel
theorem dX3_isCookieOfLateSlot_31 : decode cX3_isCookieOfLateSlot 31 = .ok (.iload 4, 2) := by decide +kernel
theorem dX3_isCookieOfLateSlot_33 : decode cX3_isCookieOfLateSlot 33 = .ok (.iload 5, 2) := by decide +kernel
theorem dX3_isCookieOfLateSlot_35 : decode cX3_isCookieOfLateSlot 35 = .ok (.iload 6, 2) := by decide +kernel
theorem dX3_isCookieOfLateSlot_37 : decode cX3_isCookieOfLateSlot 37 = .ok (.iconst 1, 1) := by decide +kernel
theorem dX3_isCookieOfLateSlot_38 : decode cX3_isCookieOfLateSlot 38 = .ok (.isub, 1) := by decide +kernel
theorem dX3_isCookieOfLateSlot_39 : decode cX3_isCookieOfLateSlot 39 = .ok (.invokevirtual 129, 3) := by decide +kernel
theorem dX3_isCookieOfLateSlot_42 : decode cX3_isCookieOfLateSlot 42 = .ok (.if_icmp .ne 7, 3) := by decide +kernel
theorem dX3_isCookieOfLateSlot_45 : decode cX3_isCookieOfLateSlot 45 = .ok (.iconst 1, 1) := by decide +kernel
theorem dX3_isCookieOfLateSlot_46 : decode cX3_isCookieOfLateSlot 46 = .ok (.goto 4, 3) := by decide +kernel
theorem dX3_isCookieOfLateSlot_49 : decode cX3_isCookieOfLateSlot 49 = .ok (.iconst 0, 1) := by decide +kernel
theorem dX3_isCookieOfLateSlot_50 : decode cX3_isCookieOfLateSlot 50 = .ok (.ireturn, 1) := by decide +kernel
set_option maxRecDepth 20000 in
theorem ggX3_stateOf_X0_find : GoodIn wsX3_stateOf wsX0_find := goodIn_r _ [7, 8, 9, 33, 34, 35, 36] (by decide +kernel) (by decide +kernel)
set_option maxRecDepth 20000 in
theorem gX3_stateOf_X0_find : GoodIn wsX3_stateOf (wsV RX3 72 RX0 yX0_find wsX0_find) := goodIn_app (goodIn_of _ (by decide +kernel)) ggX3_stateOf_X0_find
set_option maxRecDepth 20000 in
theorem ggX3_stateOf_X0_isTaken : GoodIn wsX3_stateOf wsX0_isTaken := goodIn_r _ [13, 14, 33, 34, 35, 36] (by decide +kernel) (by decide +kernel)
set_option maxRecDepth 20000 in
theorem gX3_stateOf_X0_isTaken : GoodIn wsX3_stateOf (wsV RX3 186 RX0 yX0_isTaken wsX0_isTaken) := goodIn_app (goodIn_of _ (by decide +kernel)) ggX3_stateOf_X0_isTaken
set_option maxRecDepth 20000 in
theorem ggX3_stateOf_X1_find : GoodIn wsX3_stateOf wsX1_find := goodIn_r _ [19, 20, 21, 37, 38, 39, 40, 41, 42] (by decide +kernel) (by decide +kernel)
set_option maxRecDepth 20000 in
theorem gX3_stateOf_X1_find : GoodIn wsX3_stateOf (wsV RX3 78 RX1 yX1_find wsX1_find) := goodIn_app (goodIn_of _ (by decide +kernel)) ggX3_stateOf_X1_find
theorem dX3_stateOf_0 : decode cX3_stateOf 0 = .ok (.aload_n 0, 1) := by decide +kernel
theorem dX3_stateOf_1 : decode cX3_stateOf 1 = .ok (.getfield 26, 3) := by decide +kernel
theorem dX3_stateOf_4 : decode cX3_stateOf 4 = .ok (.lload_n 1, 1) := by decide +kernel
theorem dX3_stateOf_5 : decode cX3_stateOf 5 = .ok (.invokevirtual 72, 3) := by decide +kernel
theorem dX3_stateOf_8 : decode cX3_stateOf 8 = .ok (.istore_n 3, 1) := by decide +kernel
theorem dX3_stateOf_9 : decode cX3_stateOf 9 = .ok (.iload_n 3, 1) := by decide +kernel
theorem dX3_stateOf_10 : decode cX3_stateOf 10 = .ok (.iconst (-1), 1) := by decide +kernel
theorem dX3_stateOf_11 : decode cX3_stateOf 11 = .ok (.if_icmp .eq 20, 3) := by decide +kernel
theorem dX3_stateOf_14 : decode cX3_stateOf 14 = .ok (.aload_n 0, 1) := by decide +kernel
theorem dX3_stateOf_15 : decode cX3_stateOf 15 = .ok (.getfield 26, 3) := by decide +kernel
theorem dX3_stateOf_18 : decode cX3_stateOf 18 = .ok (.iload_n 3, 1) := by decide +kernel
theorem dX3_stateOf_19 : decode cX3_stateOf 19 = .ok (.invokevirtual 186, 3) := by decide +kernel
theorem dX3_stateOf_22 : decode cX3_stateOf 22 = .ok (.ifCond .eq 7, 3) := by decide +kernel
theorem dX3_stateOf_25 : decode cX3_stateOf 25 = .ok (.iconst 3, 1) := by decide +kernel
theorem dX3_stateOf_26 : decode cX3_stateOf 26 = .ok (.goto 4, 3) := by decide +kernel
theorem dX3_stateOf_29 : decode cX3_stateOf 29 = .ok (.iconst 2, 1) := by decide +kernel
theorem dX3_stateOf_30 : decode cX3_stateOf 30 = .ok (.ireturn, 1) := by decide +kernel
theorem dX3_stateOf_31 : decode cX3_stateOf 31 = .ok (.aload_n 0, 1) := by decide +kernel
theorem dX3_stateOf_32 : decode cX3_stateOf 32 = .ok (.getfield 19, 3) := by decide +kernel
theorem dX3_stateOf_35 : decode cX3_stateOf 35 = .ok (.lload_n 1, 1) := by decide +kernel
theorem dX3_stateOf_36 : decode cX3_stateOf 36 = .ok (.invokevirtual 78, 3) := by decide +kernel
theorem dX3_stateOf_39 : decode cX3_stateOf 39 = .ok (.iconst (-1), 1) := by decide +kernel
theorem dX3_stateOf_40 : decode cX3_stateOf 40 = .ok (.if_icmp .eq 7, 3) := by decide +kernel
theorem dX3_stateOf_43 : decode cX3_stateOf 43 = .ok (.iconst 1, 1) := by decide +kernel
theorem dX3_stateOf_44 : decode cX3_stateOf 44 = .ok (.goto 4, 3) := by decide +kernel
theorem dX3_stateOf_47 : decode cX3_stateOf 47 = .ok (.iconst 0, 1) := by decide +kernel
theorem dX3_stateOf_48 : decode cX3_stateOf 48 = .ok (.ireturn, 1) := by decide +kernel
