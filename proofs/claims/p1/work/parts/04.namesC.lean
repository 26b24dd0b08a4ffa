theorem dX0_init_0 : decode cX0_init 0 = .ok (.aload_n 0, 1) := by decide +kernel
theorem dX0_init_1 : decode cX0_init 1 = .ok (.invokespecial 3, 3) := by decide +kernel
theorem dX0_init_4 : decode cX0_init 4 = .ok (.aload_n 0, 1) := by decide +kernel
theorem dX0_init_5 : decode cX0_init 5 = .ok (.bipush 6, 2) := by decide +kernel
theorem dX0_init_7 : decode cX0_init 7 = .ok (.newarray .int, 2) := by decide +kernel
theorem dX0_init_9 : decode cX0_init 9 = .ok (.putfield 9, 3) := by decide +kernel
theorem dX0_init_12 : decode cX0_init 12 = .ok (.aload_n 0, 1) := by decide +kernel
theorem dX0_init_13 : decode cX0_init 13 = .ok (.bipush 6, 2) := by decide +kernel
theorem dX0_init_15 : decode cX0_init 15 = .ok (.newarray .int, 2) := by decide +kernel
theorem dX0_init_17 : decode cX0_init 17 = .ok (.putfield 15, 3) := by decide +kernel
theorem dX0_init_20 : decode cX0_init 20 = .ok (.return_, 1) := by decide +kernel
set_option maxRecDepth 20000 in
theorem ggX0_comesBefore_X1_has : GoodIn wsX0_comesBefore wsX1_has := goodIn_r _ [4] (by decide +kernel) (by decide +kernel)
set_option maxRecDepth 20000 in
theorem gX0_comesBefore_X1_has_n18 : GoodIn wsX0_comesBefore (wsX1_has) := ggX0_comesBefore_X1_has
theorem dX0_comesBefore_0 : decode cX0_comesBefore 0 = .ok (.aload_n 0, 1) := by decide +kernel
theorem dX0_comesBefore_1 : decode cX0_comesBefore 1 = .ok (.getfield 15, 3) := by decide +kernel
theorem dX0_comesBefore_4 : decode cX0_comesBefore 4 = .ok (.iload_n 1, 1) := by decide +kernel
theorem dX0_comesBefore_5 : decode cX0_comesBefore 5 = .ok (.iaload, 1) := by decide +kernel
theorem dX0_comesBefore_6 : decode cX0_comesBefore 6 = .ok (.iload_n 2, 1) := by decide +kernel
theorem dX0_comesBefore_7 : decode cX0_comesBefore 7 = .ok (.invokestatic 18, 3) := by decide +kernel
theorem dX0_comesBefore_10 : decode cX0_comesBefore 10 = .ok (.ireturn, 1) := by decide +kernel
theorem dX0_comesBeforeOneOf_0 : decode cX0_comesBeforeOneOf 0 = .ok (.aload_n 0, 1) := by decide +kernel
theorem dX0_comesBeforeOneOf_1 : decode cX0_comesBeforeOneOf 1 = .ok (.getfield 15, 3) := by decide +kernel
theorem dX0_comesBeforeOneOf_4 : decode cX0_comesBeforeOneOf 4 = .ok (.iload_n 1, 1) := by decide +kernel
theorem dX0_comesBeforeOneOf_5 : decode cX0_comesBeforeOneOf 5 = .ok (.iaload, 1) := by decide +kernel
theorem dX0_comesBeforeOneOf_6 : decode cX0_comesBeforeOneOf 6 = .ok (.iload_n 2, 1) := by decide +kernel
theorem dX0_comesBeforeOneOf_7 : decode cX0_comesBeforeOneOf 7 = .ok (.iand, 1) := by decide +kernel
theorem dX0_comesBeforeOneOf_8 : decode cX0_comesBeforeOneOf 8 = .ok (.ifCond .eq 7, 3) := by decide +kernel
theorem dX0_comesBeforeOneOf_11 : decode cX0_comesBeforeOneOf 11 = .ok (.iconst 1, 1) := by decide +kernel
theorem dX0_comesBeforeOneOf_12 : decode cX0_comesBeforeOneOf 12 = .ok (.goto 4, 3) := by decide +kernel
theorem dX0_comesBeforeOneOf_15 : decode cX0_comesBeforeOneOf 15 = .ok (.iconst 0, 1) := by decide +kernel
theorem dX0_comesBeforeOneOf_16 : decode cX0_comesBeforeOneOf 16 = .ok (.ireturn, 1) := by decide +kernel
set_option maxRecDepth 20000 in
theorem ggX0_put_X0_followChains : GoodIn wsX0_put wsX0_followChains := goodIn_r _ [6, 7, 1, 8, 9, 10, 11, 12] (by decide +kernel) (by decide +kernel)
set_option maxRecDepth 20000 in
theorem gX0_put_X0_followChains : GoodIn wsX0_put (wsV RX0 22 RX0 yX0_followChains wsX0_followChains) := goodIn_app (goodIn_of _ (by decide +kernel)) ggX0_put_X0_followChains
theorem dX0_put_0 : decode cX0_put 0 = .ok (.aload_n 0, 1) := by decide +kernel
theorem dX0_put_1 : decode cX0_put 1 = .ok (.getfield 9, 3) := by decide +kernel
theorem dX0_put_4 : decode cX0_put 4 = .ok (.iload_n 1, 1) := by decide +kernel
theorem dX0_put_5 : decode cX0_put 5 = .ok (.dup2, 1) := by decide +kernel
theorem dX0_put_6 : decode cX0_put 6 = .ok (.iaload, 1) := by decide +kernel
theorem dX0_put_7 : decode cX0_put 7 = .ok (.iconst 1, 1) := by decide +kernel
theorem dX0_put_8 : decode cX0_put 8 = .ok (.iload_n 2, 1) := by decide +kernel
theorem dX0_put_9 : decode cX0_put 9 = .ok (.ishl, 1) := by decide +kernel
theorem dX0_put_10 : decode cX0_put 10 = .ok (.ior, 1) := by decide +kernel
theorem dX0_put_11 : decode cX0_put 11 = .ok (.iastore, 1) := by decide +kernel
theorem dX0_put_12 : decode cX0_put 12 = .ok (.aload_n 0, 1) := by decide +kernel
theorem dX0_put_13 : decode cX0_put 13 = .ok (.invokevirtual 22, 3) := by decide +kernel
theorem dX0_put_16 : decode cX0_put 16 = .ok (.return_, 1) := by decide +kernel
set_option maxRecDepth 20000 in
theorem ggX0_removeAllWith_X0_followChains : GoodIn wsX0_removeAllWith wsX0_followChains := goodIn_r _ [6, 7, 1, 8, 9, 10, 11, 12] (by decide +kernel) (by decide +kernel)
set_option maxRecDepth 20000 in
theorem gX0_removeAllWith_X0_followChains : GoodIn wsX0_removeAllWith (wsV RX0 22 RX0 yX0_followChains wsX0_followChains) := goodIn_app (goodIn_of _ (by decide +kernel)) ggX0_removeAllWith_X0_followChains
theorem dX0_removeAllWith_0 : decode cX0_removeAllWith 0 = .ok (.iconst 0, 1) := by decide +kernel
theorem dX0_removeAllWith_1 : decode cX0_removeAllWith 1 = .ok (.istore_n 2, 1) := by decide +kernel
theorem dX0_removeAllWith_2 : decode cX0_removeAllWith 2 = .ok (.iload_n 2, 1) := by decide +kernel
theorem dX0_removeAllWith_3 : decode cX0_removeAllWith 3 = .ok (.bipush 6, 2) := by decide +kernel
theorem dX0_removeAllWith_5 : decode cX0_removeAllWith 5 = .ok (.if_icmp .ge 23, 3) := by decide +kernel
theorem dX0_removeAllWith_8 : decode cX0_removeAllWith 8 = .ok (.aload_n 0, 1) := by decide +kernel
theorem dX0_removeAllWith_9 : decode cX0_removeAllWith 9 = .ok (.getfield 9, 3) := by decide +kernel
theorem dX0_removeAllWith_12 : decode cX0_removeAllWith 12 = .ok (.iload_n 2, 1) := by decide +kernel
theorem dX0_removeAllWith_13 : decode cX0_removeAllWith 13 = .ok (.dup2, 1) := by decide +kernel
theorem dX0_removeAllWith_14 : decode cX0_removeAllWith 14 = .ok (.iaload, 1) := by decide +kernel
theorem dX0_removeAllWith_15 : decode cX0_removeAllWith 15 = .ok (.iconst 1, 1) := by decide +kernel
theorem dX0_removeAllWith_16 : decode cX0_removeAllWith 16 = .ok (.iload_n 1, 1) := by decide +kernel
theorem dX0_removeAllWith_17 : decode cX0_removeAllWith 17 = .ok (.ishl, 1) := by decide +kernel
theorem dX0_removeAllWith_18 : decode cX0_removeAllWith 18 = .ok (.iconst (-1), 1) := by decide +kernel
theorem dX0_removeAllWith_19 : decode cX0_removeAllWith 19 = .ok (.ixor, 1) := by decide +kernel
theorem dX0_removeAllWith_20 : decode cX0_removeAllWith 20 = .ok (.iand, 1) := by decide +kernel
theorem dX0_removeAllWith_21 : decode cX0_removeAllWith 21 = .ok (.iastore, 1) := by decide +kernel
theorem dX0_removeAllWith_22 : decode cX0_removeAllWith 22 = .ok (.iinc 2 1, 3) := by decide +kernel
theorem dX0_removeAllWith_25 : decode cX0_removeAllWith 25 = .ok (.goto (-23), 3) := by decide +kernel
theorem dX0_removeAllWith_28 : decode cX0_removeAllWith 28 = .ok (.aload_n 0, 1) := by decide +kernel
theorem dX0_removeAllWith_29 : decode cX0_removeAllWith 29 = .ok (.getfield 9, 3) := by decide +kernel
theorem dX0_removeAllWith_32 : decode cX0_removeAllWith 32 = .ok (.iload_n 1, 1) := by decide +kernel
theorem dX0_removeAllWith_33 : decode cX0_removeAllWith 33 = .ok (.iconst 0, 1) := by decide +kernel
theorem dX0_removeAllWith_34 : decode cX0_removeAllWith 34 = .ok (.iastore, 1) := by decide +kernel
theorem dX0_removeAllWith_35 : decode cX0_removeAllWith 35 = .ok (.aload_n 0, 1) := by decide +kernel
theorem dX0_removeAllWith_36 : decode cX0_removeAllWith 36 = .ok (.invokevirtual 22, 3) := by decide +kernel
theorem dX0_removeAllWith_39 : decode cX0_removeAllWith 39 = .ok (.return_, 1) := by decide +kernel
theorem dX0_clear_0 : decode cX0_clear 0 = .ok (.iconst 0, 1) := by decide +kernel
theorem dX0_clear_1 : decode cX0_clear 1 = .ok (.istore_n 1, 1) := by decide +kernel
theorem dX0_clear_2 : decode cX0_clear 2 = .ok (.iload_n 1, 1) := by decide +kernel
theorem dX0_clear_3 : decode cX0_clear 3 = .ok (.bipush 6, 2) := by decide +kernel
theorem dX0_clear_5 : decode cX0_clear 5 = .ok (.if_icmp .ge 23, 3) := by decide +kernel
theorem dX0_clear_8 : decode cX0_clear 8 = .ok (.aload_n 0, 1) := by decide +kernel
theorem dX0_clear_9 : decode cX0_clear 9 = .ok (.getfield 9, 3) := by decide +kernel
theorem dX0_clear_12 : decode cX0_clear 12 = .ok (.iload_n 1, 1) := by decide +kernel
theorem dX0_clear_13 : decode cX0_clear 13 = .ok (.iconst 0, 1) := by decide +kernel
theorem dX0_clear_14 : decode cX0_clear 14 = .ok (.iastore, 1) := by decide +kernel
theorem dX0_clear_15 : decode cX0_clear 15 = .ok (.aload_n 0, 1) := by decide +kernel
theorem dX0_clear_16 : decode cX0_clear 16 = .ok (.getfield 15, 3) := by decide +kernel
theorem dX0_clear_19 : decode cX0_clear 19 = .ok (.iload_n 1, 1) := by decide +kernel
theorem dX0_clear_20 : decode cX0_clear 20 = .ok (.iconst 0, 1) := by decide +kernel
theorem dX0_clear_21 : decode cX0_clear 21 = .ok (.iastore, 1) := by decide +kernel
theorem dX0_clear_22 : decode cX0_clear 22 = .ok (.iinc 1 1, 3) := by decide +kernel
theorem dX0_clear_25 : decode cX0_clear 25 = .ok (.goto (-23), 3) := by decide +kernel
theorem dX0_clear_28 : decode cX0_clear 28 = .ok (.return_, 1) := by decide +kernel
set_option maxRecDepth 20000 in
theorem ggX0_pairs_J6_bitCount_0f7a4 : GoodIn wsX0_pairs wsJ6_bitCount_0f7a4 := goodIn_r _ [5, 6, 7, 8] (by decide +kernel) (by decide +kernel)
set_option maxRecDepth 20000 in
theorem gX0_pairs_J6_bitCount_0f7a4 : GoodIn wsX0_pairs (va_wsS RX0 25 yJ6_bitCount_0f7a4 wsJ6_bitCount_0f7a4) := goodIn_app (goodIn_of _ (by decide +kernel)) ggX0_pairs_J6_bitCount_0f7a4
theorem dX0_pairs_0 : decode cX0_pairs 0 = .ok (.iconst 0, 1) := by decide +kernel
theorem dX0_pairs_1 : decode cX0_pairs 1 = .ok (.istore_n 1, 1) := by decide +kernel
theorem dX0_pairs_2 : decode cX0_pairs 2 = .ok (.iconst 0, 1) := by decide +kernel
theorem dX0_pairs_3 : decode cX0_pairs 3 = .ok (.istore_n 2, 1) := by decide +kernel
theorem dX0_pairs_4 : decode cX0_pairs 4 = .ok (.iload_n 2, 1) := by decide +kernel
theorem dX0_pairs_5 : decode cX0_pairs 5 = .ok (.bipush 6, 2) := by decide +kernel
theorem dX0_pairs_7 : decode cX0_pairs 7 = .ok (.if_icmp .ge 21, 3) := by decide +kernel
theorem dX0_pairs_10 : decode cX0_pairs 10 = .ok (.iload_n 1, 1) := by decide +kernel
theorem dX0_pairs_11 : decode cX0_pairs 11 = .ok (.aload_n 0, 1) := by decide +kernel
theorem dX0_pairs_12 : decode cX0_pairs 12 = .ok (.getfield 15, 3) := by decide +kernel
theorem dX0_pairs_15 : decode cX0_pairs 15 = .ok (.iload_n 2, 1) := by decide +kernel
theorem dX0_pairs_16 : decode cX0_pairs 16 = .ok (.iaload, 1) := by decide +kernel
theorem dX0_pairs_17 : decode cX0_pairs 17 = .ok (.invokestatic 25, 3) := by decide +kernel
theorem dX0_pairs_20 : decode cX0_pairs 20 = .ok (.iadd, 1) := by decide +kernel
theorem dX0_pairs_21 : decode cX0_pairs 21 = .ok (.istore_n 1, 1) := by decide +kernel
theorem dX0_pairs_22 : decode cX0_pairs 22 = .ok (.iinc 2 1, 3) := by decide +kernel
theorem dX0_pairs_25 : decode cX0_pairs 25 = .ok (.goto (-21), 3) := by decide +kernel
theorem dX0_pairs_28 : decode cX0_pairs 28 = .ok (.iload_n 1, 1) := by decide +kernel
theorem dX0_pairs_29 : decode cX0_pairs 29 = .ok (.ireturn, 1) := by decide +kernel
set_option maxRecDepth 20000 in
theorem ggX0_followChains_X1_has : GoodIn wsX0_followChains wsX1_has := goodIn_r _ [5] (by decide +kernel) (by decide +kernel)
set_option maxRecDepth 20000 in
theorem gX0_followChains_X1_has_n18 : GoodIn wsX0_followChains (wsX1_has) := ggX0_followChains_X1_has
theorem dX0_followChains_0 : decode cX0_followChains 0 = .ok (.iconst 0, 1) := by decide +kernel
theorem dX0_followChains_1 : decode cX0_followChains 1 = .ok (.istore_n 1, 1) := by decide +kernel
theorem dX0_followChains_2 : decode cX0_followChains 2 = .ok (.iload_n 1, 1) := by decide +kernel
theorem dX0_followChains_3 : decode cX0_followChains 3 = .ok (.bipush 6, 2) := by decide +kernel
theorem dX0_followChains_5 : decode cX0_followChains 5 = .ok (.if_icmp .ge 21, 3) := by decide +kernel
theorem dX0_followChains_8 : decode cX0_followChains 8 = .ok (.aload_n 0, 1) := by decide +kernel
theorem dX0_followChains_9 : decode cX0_followChains 9 = .ok (.getfield 15, 3) := by decide +kernel
theorem dX0_followChains_12 : decode cX0_followChains 12 = .ok (.iload_n 1, 1) := by decide +kernel
theorem dX0_followChains_13 : decode cX0_followChains 13 = .ok (.aload_n 0, 1) := by decide +kernel
theorem dX0_followChains_14 : decode cX0_followChains 14 = .ok (.getfield 9, 3) := by decide +kernel
theorem dX0_followChains_17 : decode cX0_followChains 17 = .ok (.iload_n 1, 1) := by decide +kernel
theorem dX0_followChains_18 : decode cX0_followChains 18 = .ok (.iaload, 1) := by decide +kernel
theorem dX0_followChains_19 : decode cX0_followChains 19 = .ok (.iastore, 1) := by decide +kernel
theorem dX0_followChains_20 : decode cX0_followChains 20 = .ok (.iinc 1 1, 3) := by decide +kernel
theorem dX0_followChains_23 : decode cX0_followChains 23 = .ok (.goto (-21), 3) := by decide +kernel
theorem dX0_followChains_26 : decode cX0_followChains 26 = .ok (.iconst 0, 1) := by decide +kernel
theorem dX0_followChains_27 : decode cX0_followChains 27 = .ok (.istore_n 1, 1) := by decide +kernel
theorem dX0_followChains_28 : decode cX0_followChains 28 = .ok (.iload_n 1, 1) := by decide +kernel
theorem dX0_followChains_29 : decode cX0_followChains 29 = .ok (.bipush 6, 2) := by decide +kernel
theorem dX0_followChains_31 : decode cX0_followChains 31 = .ok (.if_icmp .ge 51, 3) := by decide +kernel
theorem dX0_followChains_34 : decode cX0_followChains 34 = .ok (.iconst 0, 1) := by decide +kernel
theorem dX0_followChains_35 : decode cX0_followChains 35 = .ok (.istore_n 2, 1) := by decide +kernel
theorem dX0_followChains_36 : decode cX0_followChains 36 = .ok (.iload_n 2, 1) := by decide +kernel
theorem dX0_followChains_37 : decode cX0_followChains 37 = .ok (.bipush 6, 2) := by decide +kernel
theorem dX0_followChains_39 : decode cX0_followChains 39 = .ok (.if_icmp .ge 37, 3) := by decide +kernel
theorem dX0_followChains_42 : decode cX0_followChains 42 = .ok (.aload_n 0, 1) := by decide +kernel
theorem dX0_followChains_43 : decode cX0_followChains 43 = .ok (.getfield 15, 3) := by decide +kernel
theorem dX0_followChains_46 : decode cX0_followChains 46 = .ok (.iload_n 2, 1) := by decide +kernel
theorem dX0_followChains_47 : decode cX0_followChains 47 = .ok (.iaload, 1) := by decide +kernel
theorem dX0_followChains_48 : decode cX0_followChains 48 = .ok (.iload_n 1, 1) := by decide +kernel
theorem dX0_followChains_49 : decode cX0_followChains 49 = .ok (.invokestatic 18, 3) := by decide +kernel
theorem dX0_followChains_52 : decode cX0_followChains 52 = .ok (.ifCond .eq 18, 3) := by decide +kernel
theorem dX0_followChains_55 : decode cX0_followChains 55 = .ok (.aload_n 0, 1) := by decide +kernel
theorem dX0_followChains_56 : decode cX0_followChains 56 = .ok (.getfield 15, 3) := by decide +kernel
theorem dX0_followChains_59 : decode cX0_followChains 59 = .ok (.iload_n 2, 1) := by decide +kernel
theorem dX0_followChains_60 : decode cX0_followChains 60 = .ok (.dup2, 1) := by decide +kernel
theorem dX0_followChains_61 : decode cX0_followChains 61 = .ok (.iaload, 1) := by decide +kernel
theorem dX0_followChains_62 : decode cX0_followChains 62 = .ok (.aload_n 0, 1) := by decide +kernel
theorem dX0_followChains_63 : decode cX0_followChains 63 = .ok (.getfield 15, 3) := by decide +kernel
theorem dX0_followChains_66 : decode cX0_followChains 66 = .ok (.iload_n 1, 1) := by decide +kernel
theorem dX0_followChains_67 : decode cX0_followChains 67 = .ok (.iaload, 1) := by decide +kernel
theorem dX0_followChains_68 : decode cX0_followChains 68 = .ok (.ior, 1) := by decide +kernel
theorem dX0_followChains_69 : decode cX0_followChains 69 = .ok (.iastore, 1) := by decide +kernel
theorem dX0_followChains_70 : decode cX0_followChains 70 = .ok (.iinc 2 1, 3) := by decide +kernel
theorem dX0_followChains_73 : decode cX0_followChains 73 = .ok (.goto (-37), 3) := by decide +kernel
theorem dX0_followChains_76 : decode cX0_followChains 76 = .ok (.iinc 1 1, 3) := by decide +kernel
theorem dX0_followChains_79 : decode cX0_followChains 79 = .ok (.goto (-51), 3) := by decide +kernel
theorem dX0_followChains_82 : decode cX0_followChains 82 = .ok (.return_, 1) := by decide +kernel
set_option maxRecDepth 20000 in
theorem ggX1_init_X0_init : GoodIn wsX1_init wsX0_init := goodIn_r _ [22, 23, 2, 3, 4, 24, 25, 46, 47] (by decide +kernel) (by decide +kernel)
set_option maxRecDepth 20000 in
theorem gX1_init_X0_init_n27 : GoodIn wsX1_init (wsX0_init) := ggX1_init_X0_init
theorem dX1_init_0 : decode cX1_init 0 = .ok (.aload_n 0, 1) := by decide +kernel
theorem dX1_init_1 : decode cX1_init 1 = .ok (.invokespecial 1, 3) := by decide +kernel
theorem dX1_init_4 : decode cX1_init 4 = .ok (.aload_n 0, 1) := by decide +kernel
theorem dX1_init_5 : decode cX1_init 5 = .ok (.bipush 16, 2) := by decide +kernel
theorem dX1_init_7 : decode cX1_init 7 = .ok (.newarray .int, 2) := by decide +kernel
theorem dX1_init_9 : decode cX1_init 9 = .ok (.putfield 9, 3) := by decide +kernel
theorem dX1_init_12 : decode cX1_init 12 = .ok (.aload_n 0, 1) := by decide +kernel
theorem dX1_init_13 : decode cX1_init 13 = .ok (.bipush 16, 2) := by decide +kernel
theorem dX1_init_15 : decode cX1_init 15 = .ok (.newarray .int, 2) := by decide +kernel
theorem dX1_init_17 : decode cX1_init 17 = .ok (.putfield 13, 3) := by decide +kernel
theorem dX1_init_20 : decode cX1_init 20 = .ok (.aload_n 0, 1) := by decide +kernel
theorem dX1_init_21 : decode cX1_init 21 = .ok (.bipush 6, 2) := by decide +kernel
theorem dX1_init_23 : decode cX1_init 23 = .ok (.newarray .int, 2) := by decide +kernel
theorem dX1_init_25 : decode cX1_init 25 = .ok (.putfield 16, 3) := by decide +kernel
theorem dX1_init_28 : decode cX1_init 28 = .ok (.aload_n 0, 1) := by decide +kernel
theorem dX1_init_29 : decode cX1_init 29 = .ok (.bipush 6, 2) := by decide +kernel
theorem dX1_init_31 : decode cX1_init 31 = .ok (.newarray .int, 2) := by decide +kernel
theorem dX1_init_33 : decode cX1_init 33 = .ok (.putfield 19, 3) := by decide +kernel
theorem dX1_init_36 : decode cX1_init 36 = .ok (.aload_n 0, 1) := by decide +kernel
theorem dX1_init_37 : decode cX1_init 37 = .ok (.bipush 6, 2) := by decide +kernel
theorem dX1_init_39 : decode cX1_init 39 = .ok (.newarray .int, 2) := by decide +kernel
theorem dX1_init_41 : decode cX1_init 41 = .ok (.putfield 22, 3) := by decide +kernel
theorem dX1_init_44 : decode cX1_init 44 = .ok (.aload_n 0, 1) := by decide +kernel
theorem dX1_init_45 : decode cX1_init 45 = .ok (.new 25, 3) := by decide +kernel
theorem dX1_init_48 : decode cX1_init 48 = .ok (.dup, 1) := by decide +kernel
theorem dX1_init_49 : decode cX1_init 49 = .ok (.invokespecial 27, 3) := by decide +kernel
theorem dX1_init_52 : decode cX1_init 52 = .ok (.putfield 28, 3) := by decide +kernel
theorem dX1_init_55 : decode cX1_init 55 = .ok (.aload_n 0, 1) := by decide +kernel
theorem dX1_init_56 : decode cX1_init 56 = .ok (.bipush 6, 2) := by decide +kernel
theorem dX1_init_58 : decode cX1_init 58 = .ok (.newarray .int, 2) := by decide +kernel
theorem dX1_init_60 : decode cX1_init 60 = .ok (.putfield 32, 3) := by decide +kernel
theorem dX1_init_63 : decode cX1_init 63 = .ok (.aload_n 0, 1) := by decide +kernel
theorem dX1_init_64 : decode cX1_init 64 = .ok (.bipush 6, 2) := by decide +kernel
theorem dX1_init_66 : decode cX1_init 66 = .ok (.newarray .int, 2) := by decide +kernel
theorem dX1_init_68 : decode cX1_init 68 = .ok (.putfield 35, 3) := by decide +kernel
theorem dX1_init_71 : decode cX1_init 71 = .ok (.aload_n 0, 1) := by decide +kernel
theorem dX1_init_72 : decode cX1_init 72 = .ok (.bipush 64, 2) := by decide +kernel
theorem dX1_init_74 : decode cX1_init 74 = .ok (.newarray .int, 2) := by decide +kernel
theorem dX1_init_76 : decode cX1_init 76 = .ok (.putfield 38, 3) := by decide +kernel
theorem dX1_init_79 : decode cX1_init 79 = .ok (.aload_n 0, 1) := by decide +kernel
theorem dX1_init_80 : decode cX1_init 80 = .ok (.bipush 64, 2) := by decide +kernel
theorem dX1_init_82 : decode cX1_init 82 = .ok (.newarray .int, 2) := by decide +kernel
theorem dX1_init_84 : decode cX1_init 84 = .ok (.putfield 41, 3) := by decide +kernel
theorem dX1_init_87 : decode cX1_init 87 = .ok (.aload_n 0, 1) := by decide +kernel
theorem dX1_init_88 : decode cX1_init 88 = .ok (.bipush 64, 2) := by decide +kernel
theorem dX1_init_90 : decode cX1_init 90 = .ok (.newarray .int, 2) := by decide +kernel
theorem dX1_init_92 : decode cX1_init 92 = .ok (.putfield 44, 3) := by decide +kernel
theorem dX1_init_95 : decode cX1_init 95 = .ok (.aload_n 0, 1) := by decide +kernel
theorem dX1_init_96 : decode cX1_init 96 = .ok (.bipush 64, 2) := by decide +kernel
theorem dX1_init_98 : decode cX1_init 98 = .ok (.newarray .boolean, 2) := by decide +kernel
theorem dX1_init_100 : decode cX1_init 100 = .ok (.putfield 47, 3) := by decide +kernel
theorem dX1_init_103 : decode cX1_init 103 = .ok (.return_, 1) := by decide +kernel
set_option maxRecDepth 20000 in
theorem ggX1_setFact_X1_checkLiteral : GoodIn wsX1_setFact wsX1_checkLiteral := goodIn_ca (goodIn_r _ [5, 6, 7] (by decide +kernel) (by decide +kernel)) (goodIn_sub (fun _ h => List.mem_cons_of_mem _ (List.mem_append_right _ h)) (by decide +kernel))
set_option maxRecDepth 20000 in
theorem gX1_setFact_X1_checkLiteral : GoodIn wsX1_setFact (va_wsS RX1 51 yX1_checkLiteral wsX1_checkLiteral) := goodIn_app (goodIn_of _ (by decide +kernel)) ggX1_setFact_X1_checkLiteral
set_option maxRecDepth 20000 in
theorem ggX1_setFact_X1_has : GoodIn wsX1_setFact wsX1_has := goodIn_r _ [10] (by decide +kernel) (by decide +kernel)
set_option maxRecDepth 20000 in
theorem gX1_setFact_X1_has : GoodIn wsX1_setFact (va_wsS RX1 59 yX1_has wsX1_has) := goodIn_app (goodIn_of _ (by decide +kernel)) ggX1_setFact_X1_has
set_option maxRecDepth 20000 in
theorem ggX1_setFact_X1_forgetFindings : GoodIn wsX1_setFact wsX1_forgetFindings := goodIn_r _ [14, 15, 16, 17, 18, 19, 20, 21, 22, 23, 24, 25, 26, 27, 28, 29, 30, 31, 32, 33, 34, 35, 36] (by decide +kernel) (by decide +kernel)
set_option maxRecDepth 20000 in
theorem gX1_setFact_X1_forgetFindings : GoodIn wsX1_setFact (wsV RX1 63 RX1 yX1_forgetFindings wsX1_forgetFindings) := goodIn_app (goodIn_of _ (by decide +kernel)) ggX1_setFact_X1_forgetFindings
theorem dX1_setFact_0 : decode cX1_setFact 0 = .ok (.iload_n 1, 1) := by decide +kernel
theorem dX1_setFact_1 : decode cX1_setFact 1 = .ok (.invokestatic 51, 3) := by decide +kernel
theorem dX1_setFact_4 : decode cX1_setFact 4 = .ok (.aload_n 0, 1) := by decide +kernel
theorem dX1_setFact_5 : decode cX1_setFact 5 = .ok (.getfield 55, 3) := by decide +kernel
theorem dX1_setFact_8 : decode cX1_setFact 8 = .ok (.iload_n 1, 1) := by decide +kernel
theorem dX1_setFact_9 : decode cX1_setFact 9 = .ok (.invokestatic 59, 3) := by decide +kernel
theorem dX1_setFact_12 : decode cX1_setFact 12 = .ok (.istore_n 3, 1) := by decide +kernel
theorem dX1_setFact_13 : decode cX1_setFact 13 = .ok (.aload_n 0, 1) := by decide +kernel
theorem dX1_setFact_14 : decode cX1_setFact 14 = .ok (.iload_n 2, 1) := by decide +kernel
theorem dX1_setFact_15 : decode cX1_setFact 15 = .ok (.ifCond .eq 14, 3) := by decide +kernel
theorem dX1_setFact_18 : decode cX1_setFact 18 = .ok (.aload_n 0, 1) := by decide +kernel
theorem dX1_setFact_19 : decode cX1_setFact 19 = .ok (.getfield 55, 3) := by decide +kernel
theorem dX1_setFact_22 : decode cX1_setFact 22 = .ok (.iconst 1, 1) := by decide +kernel
theorem dX1_setFact_23 : decode cX1_setFact 23 = .ok (.iload_n 1, 1) := by decide +kernel
theorem dX1_setFact_24 : decode cX1_setFact 24 = .ok (.ishl, 1) := by decide +kernel
theorem dX1_setFact_25 : decode cX1_setFact 25 = .ok (.ior, 1) := by decide +kernel
theorem dX1_setFact_26 : decode cX1_setFact 26 = .ok (.goto 13, 3) := by decide +kernel
theorem dX1_setFact_29 : decode cX1_setFact 29 = .ok (.aload_n 0, 1) := by decide +kernel
theorem dX1_setFact_30 : decode cX1_setFact 30 = .ok (.getfield 55, 3) := by decide +kernel
theorem dX1_setFact_33 : decode cX1_setFact 33 = .ok (.iconst 1, 1) := by decide +kernel
theorem dX1_setFact_34 : decode cX1_setFact 34 = .ok (.iload_n 1, 1) := by decide +kernel
theorem dX1_setFact_35 : decode cX1_setFact 35 = .ok (.ishl, 1) := by decide +kernel
theorem dX1_setFact_36 : decode cX1_setFact 36 = .ok (.iconst (-1), 1) := by decide +kernel
theorem dX1_setFact_37 : decode cX1_setFact 37 = .ok (.ixor, 1) := by decide +kernel
theorem dX1_setFact_38 : decode cX1_setFact 38 = .ok (.iand, 1) := by decide +kernel
theorem dX1_setFact_39 : decode cX1_setFact 39 = .ok (.putfield 55, 3) := by decide +kernel
theorem dX1_setFact_42 : decode cX1_setFact 42 = .ok (.aload_n 0, 1) := by decide +kernel
theorem dX1_setFact_43 : decode cX1_setFact 43 = .ok (.invokevirtual 63, 3) := by decide +kernel
theorem dX1_setFact_46 : decode cX1_setFact 46 = .ok (.iload_n 3, 1) := by decide +kernel
theorem dX1_setFact_47 : decode cX1_setFact 47 = .ok (.ireturn, 1) := by decide +kernel
set_option maxRecDepth 20000 in
theorem ggX1_addRule_X1_checkLiteral : GoodIn wsX1_addRule wsX1_checkLiteral := goodIn_ca (goodIn_r _ [9, 10, 11] (by decide +kernel) (by decide +kernel)) (goodIn_sub (fun _ h => List.mem_cons_of_mem _ (List.mem_append_left _ (List.mem_append_right _ h))) (by decide +kernel))
set_option maxRecDepth 20000 in
theorem gX1_addRule_X1_checkLiteral : GoodIn wsX1_addRule (va_wsS RX1 51 yX1_checkLiteral wsX1_checkLiteral) := goodIn_app (goodIn_of _ (by decide +kernel)) ggX1_addRule_X1_checkLiteral
set_option maxRecDepth 20000 in
theorem ggX1_addRule_X1_checkSet : GoodIn wsX1_addRule wsX1_checkSet := goodIn_ca (goodIn_r _ [14, 15, 16, 17] (by decide +kernel) (by decide +kernel)) (goodIn_sub (fun _ h => List.mem_cons_of_mem _ (List.mem_append_right _ h)) (by decide +kernel))
set_option maxRecDepth 20000 in
theorem gX1_addRule_X1_checkSet : GoodIn wsX1_addRule (va_wsS RX1 66 yX1_checkSet wsX1_checkSet) := goodIn_app (goodIn_of _ (by decide +kernel)) ggX1_addRule_X1_checkSet
set_option maxRecDepth 20000 in
theorem ggX1_addRule_X1_forgetFindings : GoodIn wsX1_addRule wsX1_forgetFindings := goodIn_r _ [21, 22, 23, 24, 25, 26, 27, 28, 29, 30, 31, 32, 33, 34, 35, 36, 37, 38, 39, 40, 41, 42, 43] (by decide +kernel) (by decide +kernel)
set_option maxRecDepth 20000 in
theorem gX1_addRule_X1_forgetFindings : GoodIn wsX1_addRule (wsV RX1 63 RX1 yX1_forgetFindings wsX1_forgetFindings) := goodIn_app (goodIn_of _ (by decide +kernel)) ggX1_addRule_X1_forgetFindings
theorem dX1_addRule_0 : decode cX1_addRule 0 = .ok (.iload_n 2, 1) := by decide +kernel
theorem dX1_addRule_1 : decode cX1_addRule 1 = .ok (.invokestatic 51, 3) := by decide +kernel
theorem dX1_addRule_4 : decode cX1_addRule 4 = .ok (.iload_n 1, 1) := by decide +kernel
theorem dX1_addRule_5 : decode cX1_addRule 5 = .ok (.invokestatic 66, 3) := by decide +kernel
theorem dX1_addRule_8 : decode cX1_addRule 8 = .ok (.aload_n 0, 1) := by decide +kernel
theorem dX1_addRule_9 : decode cX1_addRule 9 = .ok (.getfield 69, 3) := by decide +kernel
theorem dX1_addRule_12 : decode cX1_addRule 12 = .ok (.bipush 16, 2) := by decide +kernel
theorem dX1_addRule_14 : decode cX1_addRule 14 = .ok (.if_icmp .lt 13, 3) := by decide +kernel
theorem dX1_addRule_17 : decode cX1_addRule 17 = .ok (.new 72, 3) := by decide +kernel
theorem dX1_addRule_20 : decode cX1_addRule 20 = .ok (.dup, 1) := by decide +kernel
theorem dX1_addRule_21 : decode cX1_addRule 21 = .ok (.ldc 74, 2) := by decide +kernel
theorem dX1_addRule_23 : decode cX1_addRule 23 = .ok (.invokespecial 76, 3) := by decide +kernel
theorem dX1_addRule_26 : decode cX1_addRule 26 = .ok (.athrow, 1) := by decide +kernel
theorem dX1_addRule_27 : decode cX1_addRule 27 = .ok (.aload_n 0, 1) := by decide +kernel
theorem dX1_addRule_28 : decode cX1_addRule 28 = .ok (.getfield 69, 3) := by decide +kernel
theorem dX1_addRule_31 : decode cX1_addRule 31 = .ok (.istore_n 3, 1) := by decide +kernel
theorem dX1_addRule_32 : decode cX1_addRule 32 = .ok (.aload_n 0, 1) := by decide +kernel
theorem dX1_addRule_33 : decode cX1_addRule 33 = .ok (.getfield 9, 3) := by decide +kernel
theorem dX1_addRule_36 : decode cX1_addRule 36 = .ok (.iload_n 3, 1) := by decide +kernel
theorem dX1_addRule_37 : decode cX1_addRule 37 = .ok (.iload_n 1, 1) := by decide +kernel
theorem dX1_addRule_38 : decode cX1_addRule 38 = .ok (.iastore, 1) := by decide +kernel
theorem dX1_addRule_39 : decode cX1_addRule 39 = .ok (.aload_n 0, 1) := by decide +kernel
theorem dX1_addRule_40 : decode cX1_addRule 40 = .ok (.getfield 13, 3) := by decide +kernel
theorem dX1_addRule_43 : decode cX1_addRule 43 = .ok (.iload_n 3, 1) := by decide +kernel
theorem dX1_addRule_44 : decode cX1_addRule 44 = .ok (.iload_n 2, 1) := by decide +kernel
theorem dX1_addRule_45 : decode cX1_addRule 45 = .ok (.iastore, 1) := by decide +kernel
theorem dX1_addRule_46 : decode cX1_addRule 46 = .ok (.aload_n 0, 1) := by decide +kernel
theorem dX1_addRule_47 : decode cX1_addRule 47 = .ok (.iload_n 3, 1) := by decide +kernel
theorem dX1_addRule_48 : decode cX1_addRule 48 = .ok (.iconst 1, 1) := by decide +kernel
theorem dX1_addRule_49 : decode cX1_addRule 49 = .ok (.iadd, 1) := by decide +kernel
theorem dX1_addRule_50 : decode cX1_addRule 50 = .ok (.putfield 69, 3) := by decide +kernel
theorem dX1_addRule_53 : decode cX1_addRule 53 = .ok (.aload_n 0, 1) := by decide +kernel
theorem dX1_addRule_54 : decode cX1_addRule 54 = .ok (.invokevirtual 63, 3) := by decide +kernel
theorem dX1_addRule_57 : decode cX1_addRule 57 = .ok (.iload_n 3, 1) := by decide +kernel
theorem dX1_addRule_58 : decode cX1_addRule 58 = .ok (.ireturn, 1) := by decide +kernel
set_option maxRecDepth 20000 in
theorem ggX1_addDefault_X1_checkLiteral : GoodIn wsX1_addDefault wsX1_checkLiteral := goodIn_ca (goodIn_r _ [10, 11, 12] (by decide +kernel) (by decide +kernel)) (goodIn_sub (fun _ h => List.mem_cons_of_mem _ (List.mem_append_left _ (List.mem_append_right _ h))) (by decide +kernel))
set_option maxRecDepth 20000 in
theorem gX1_addDefault_X1_checkLiteral : GoodIn wsX1_addDefault (va_wsS RX1 51 yX1_checkLiteral wsX1_checkLiteral) := goodIn_app (goodIn_of _ (by decide +kernel)) ggX1_addDefault_X1_checkLiteral
set_option maxRecDepth 20000 in
theorem ggX1_addDefault_X1_checkSet : GoodIn wsX1_addDefault wsX1_checkSet := goodIn_ca (goodIn_r _ [15, 16, 17, 18] (by decide +kernel) (by decide +kernel)) (goodIn_sub (fun _ h => List.mem_cons_of_mem _ (List.mem_append_right _ h)) (by decide +kernel))
set_option maxRecDepth 20000 in
theorem gX1_addDefault_X1_checkSet : GoodIn wsX1_addDefault (va_wsS RX1 66 yX1_checkSet wsX1_checkSet) := goodIn_app (goodIn_of _ (by decide +kernel)) ggX1_addDefault_X1_checkSet
set_option maxRecDepth 20000 in
theorem ggX1_addDefault_X1_forgetFindings : GoodIn wsX1_addDefault wsX1_forgetFindings := goodIn_r _ [22, 23, 24, 25, 26, 27, 28, 29, 30, 31, 32, 33, 34, 35, 36, 37, 38, 39, 40, 41, 42, 43, 44] (by decide +kernel) (by decide +kernel)
set_option maxRecDepth 20000 in
theorem gX1_addDefault_X1_forgetFindings : GoodIn wsX1_addDefault (wsV RX1 63 RX1 yX1_forgetFindings wsX1_forgetFindings) := goodIn_app (goodIn_of _ (by decide +kernel)) ggX1_addDefault_X1_forgetFindings
theorem dX1_addDefault_0 : decode cX1_addDefault 0 = .ok (.iload_n 3, 1) := by decide +kernel
theorem dX1_addDefault_1 : decode cX1_addDefault 1 = .ok (.invokestatic 51, 3) := by decide +kernel
theorem dX1_addDefault_4 : decode cX1_addDefault 4 = .ok (.iload_n 1, 1) := by decide +kernel
theorem dX1_addDefault_5 : decode cX1_addDefault 5 = .ok (.invokestatic 66, 3) := by decide +kernel
theorem dX1_addDefault_8 : decode cX1_addDefault 8 = .ok (.iload_n 2, 1) := by decide +kernel
theorem dX1_addDefault_9 : decode cX1_addDefault 9 = .ok (.invokestatic 66, 3) := by decide +kernel
theorem dX1_addDefault_12 : decode cX1_addDefault 12 = .ok (.aload_n 0, 1) := by decide +kernel
theorem dX1_addDefault_13 : decode cX1_addDefault 13 = .ok (.getfield 79, 3) := by decide +kernel
theorem dX1_addDefault_16 : decode cX1_addDefault 16 = .ok (.bipush 6, 2) := by decide +kernel
theorem dX1_addDefault_18 : decode cX1_addDefault 18 = .ok (.if_icmp .lt 13, 3) := by decide +kernel
theorem dX1_addDefault_21 : decode cX1_addDefault 21 = .ok (.new 72, 3) := by decide +kernel
theorem dX1_addDefault_24 : decode cX1_addDefault 24 = .ok (.dup, 1) := by decide +kernel
theorem dX1_addDefault_25 : decode cX1_addDefault 25 = .ok (.ldc 82, 2) := by decide +kernel
theorem dX1_addDefault_27 : decode cX1_addDefault 27 = .ok (.invokespecial 76, 3) := by decide +kernel
theorem dX1_addDefault_30 : decode cX1_addDefault 30 = .ok (.athrow, 1) := by decide +kernel
theorem dX1_addDefault_31 : decode cX1_addDefault 31 = .ok (.aload_n 0, 1) := by decide +kernel
theorem dX1_addDefault_32 : decode cX1_addDefault 32 = .ok (.getfield 79, 3) := by decide +kernel
theorem dX1_addDefault_35 : decode cX1_addDefault 35 = .ok (.istore 4, 2) := by decide +kernel
theorem dX1_addDefault_37 : decode cX1_addDefault 37 = .ok (.aload_n 0, 1) := by decide +kernel
theorem dX1_addDefault_38 : decode cX1_addDefault 38 = .ok (.getfield 16, 3) := by decide +kernel
theorem dX1_addDefault_41 : decode cX1_addDefault 41 = .ok (.iload 4, 2) := by decide +kernel
theorem dX1_addDefault_43 : decode cX1_addDefault 43 = .ok (.iload_n 1, 1) := by decide +kernel
theorem dX1_addDefault_44 : decode cX1_addDefault 44 = .ok (.iastore, 1) := by decide +kernel
theorem dX1_addDefault_45 : decode cX1_addDefault 45 = .ok (.aload_n 0, 1) := by decide +kernel
theorem dX1_addDefault_46 : decode cX1_addDefault 46 = .ok (.getfield 19, 3) := by decide +kernel
theorem dX1_addDefault_49 : decode cX1_addDefault 49 = .ok (.iload 4, 2) := by decide +kernel
theorem dX1_addDefault_51 : decode cX1_addDefault 51 = .ok (.iload_n 2, 1) := by decide +kernel
theorem dX1_addDefault_52 : decode cX1_addDefault 52 = .ok (.iastore, 1) := by decide +kernel
theorem dX1_addDefault_53 : decode cX1_addDefault 53 = .ok (.aload_n 0, 1) := by decide +kernel
theorem dX1_addDefault_54 : decode cX1_addDefault 54 = .ok (.getfield 22, 3) := by decide +kernel
theorem dX1_addDefault_57 : decode cX1_addDefault 57 = .ok (.iload 4, 2) := by decide +kernel
theorem dX1_addDefault_59 : decode cX1_addDefault 59 = .ok (.iload_n 3, 1) := by decide +kernel
theorem dX1_addDefault_60 : decode cX1_addDefault 60 = .ok (.iastore, 1) := by decide +kernel
theorem dX1_addDefault_61 : decode cX1_addDefault 61 = .ok (.aload_n 0, 1) := by decide +kernel
theorem dX1_addDefault_62 : decode cX1_addDefault 62 = .ok (.iload 4, 2) := by decide +kernel
theorem dX1_addDefault_64 : decode cX1_addDefault 64 = .ok (.iconst 1, 1) := by decide +kernel
theorem dX1_addDefault_65 : decode cX1_addDefault 65 = .ok (.iadd, 1) := by decide +kernel
theorem dX1_addDefault_66 : decode cX1_addDefault 66 = .ok (.putfield 79, 3) := by decide +kernel
theorem dX1_addDefault_69 : decode cX1_addDefault 69 = .ok (.aload_n 0, 1) := by decide +kernel
theorem dX1_addDefault_70 : decode cX1_addDefault 70 = .ok (.invokevirtual 63, 3) := by decide +kernel
theorem dX1_addDefault_73 : decode cX1_addDefault 73 = .ok (.iload 4, 2) := by decide +kernel
theorem dX1_addDefault_75 : decode cX1_addDefault 75 = .ok (.ireturn, 1) := by decide +kernel
set_option maxRecDepth 20000 in
theorem ggX1_dropRule_X1_forgetFindings : GoodIn wsX1_dropRule wsX1_forgetFindings := goodIn_r _ [8, 9, 10, 11, 12, 13, 14, 15, 16, 17, 18, 19, 20, 21, 22, 23, 24, 25, 26, 27, 28, 29, 30] (by decide +kernel) (by decide +kernel)
set_option maxRecDepth 20000 in
theorem gX1_dropRule_X1_forgetFindings : GoodIn wsX1_dropRule (wsV RX1 63 RX1 yX1_forgetFindings wsX1_forgetFindings) := goodIn_app (goodIn_of _ (by decide +kernel)) ggX1_dropRule_X1_forgetFindings
theorem dX1_dropRule_0 : decode cX1_dropRule 0 = .ok (.aload_n 0, 1) := by decide +kernel
theorem dX1_dropRule_1 : decode cX1_dropRule 1 = .ok (.getfield 69, 3) := by decide +kernel
theorem dX1_dropRule_4 : decode cX1_dropRule 4 = .ok (.ifCond .gt 13, 3) := by decide +kernel
theorem dX1_dropRule_7 : decode cX1_dropRule 7 = .ok (.new 72, 3) := by decide +kernel
theorem dX1_dropRule_10 : decode cX1_dropRule 10 = .ok (.dup, 1) := by decide +kernel
theorem dX1_dropRule_11 : decode cX1_dropRule 11 = .ok (.ldc 84, 2) := by decide +kernel
theorem dX1_dropRule_13 : decode cX1_dropRule 13 = .ok (.invokespecial 76, 3) := by decide +kernel
theorem dX1_dropRule_16 : decode cX1_dropRule 16 = .ok (.athrow, 1) := by decide +kernel
theorem dX1_dropRule_17 : decode cX1_dropRule 17 = .ok (.aload_n 0, 1) := by decide +kernel
theorem dX1_dropRule_18 : decode cX1_dropRule 18 = .ok (.dup, 1) := by decide +kernel
theorem dX1_dropRule_19 : decode cX1_dropRule 19 = .ok (.getfield 69, 3) := by decide +kernel
theorem dX1_dropRule_22 : decode cX1_dropRule 22 = .ok (.iconst 1, 1) := by decide +kernel
theorem dX1_dropRule_23 : decode cX1_dropRule 23 = .ok (.isub, 1) := by decide +kernel
theorem dX1_dropRule_24 : decode cX1_dropRule 24 = .ok (.putfield 69, 3) := by decide +kernel
theorem dX1_dropRule_27 : decode cX1_dropRule 27 = .ok (.aload_n 0, 1) := by decide +kernel
theorem dX1_dropRule_28 : decode cX1_dropRule 28 = .ok (.invokevirtual 63, 3) := by decide +kernel
theorem dX1_dropRule_31 : decode cX1_dropRule 31 = .ok (.aload_n 0, 1) := by decide +kernel
theorem dX1_dropRule_32 : decode cX1_dropRule 32 = .ok (.getfield 69, 3) := by decide +kernel
theorem dX1_dropRule_35 : decode cX1_dropRule 35 = .ok (.ireturn, 1) := by decide +kernel
set_option maxRecDepth 20000 in
theorem ggX1_dropDefault_X0_removeAllWith : GoodIn wsX1_dropDefault wsX0_removeAllWith := goodIn_r _ [8, 9, 10, 11, 12, 6, 13, 14, 15, 16, 17, 44, 45] (by decide +kernel) (by decide +kernel)
set_option maxRecDepth 20000 in
theorem gX1_dropDefault_X0_removeAllWith_n88 : GoodIn wsX1_dropDefault (wsX0_removeAllWith) := ggX1_dropDefault_X0_removeAllWith
set_option maxRecDepth 20000 in
theorem ggX1_dropDefault_X1_forgetFindings : GoodIn wsX1_dropDefault wsX1_forgetFindings := goodIn_r _ [21, 22, 23, 24, 25, 26, 27, 28, 29, 30, 31, 32, 33, 34, 35, 36, 37, 38, 39, 40, 41, 42, 43] (by decide +kernel) (by decide +kernel)
set_option maxRecDepth 20000 in
theorem gX1_dropDefault_X1_forgetFindings : GoodIn wsX1_dropDefault (wsV RX1 63 RX1 yX1_forgetFindings wsX1_forgetFindings) := goodIn_app (goodIn_of _ (by decide +kernel)) ggX1_dropDefault_X1_forgetFindings
theorem dX1_dropDefault_0 : decode cX1_dropDefault 0 = .ok (.aload_n 0, 1) := by decide +kernel
theorem dX1_dropDefault_1 : decode cX1_dropDefault 1 = .ok (.getfield 79, 3) := by decide +kernel
theorem dX1_dropDefault_4 : decode cX1_dropDefault 4 = .ok (.ifCond .gt 13, 3) := by decide +kernel
theorem dX1_dropDefault_7 : decode cX1_dropDefault 7 = .ok (.new 72, 3) := by decide +kernel
theorem dX1_dropDefault_10 : decode cX1_dropDefault 10 = .ok (.dup, 1) := by decide +kernel
theorem dX1_dropDefault_11 : decode cX1_dropDefault 11 = .ok (.ldc 86, 2) := by decide +kernel
theorem dX1_dropDefault_13 : decode cX1_dropDefault 13 = .ok (.invokespecial 76, 3) := by decide +kernel
theorem dX1_dropDefault_16 : decode cX1_dropDefault 16 = .ok (.athrow, 1) := by decide +kernel
theorem dX1_dropDefault_17 : decode cX1_dropDefault 17 = .ok (.aload_n 0, 1) := by decide +kernel
theorem dX1_dropDefault_18 : decode cX1_dropDefault 18 = .ok (.dup, 1) := by decide +kernel
theorem dX1_dropDefault_19 : decode cX1_dropDefault 19 = .ok (.getfield 79, 3) := by decide +kernel
theorem dX1_dropDefault_22 : decode cX1_dropDefault 22 = .ok (.iconst 1, 1) := by decide +kernel
theorem dX1_dropDefault_23 : decode cX1_dropDefault 23 = .ok (.isub, 1) := by decide +kernel
theorem dX1_dropDefault_24 : decode cX1_dropDefault 24 = .ok (.putfield 79, 3) := by decide +kernel
theorem dX1_dropDefault_27 : decode cX1_dropDefault 27 = .ok (.aload_n 0, 1) := by decide +kernel
theorem dX1_dropDefault_28 : decode cX1_dropDefault 28 = .ok (.getfield 28, 3) := by decide +kernel
theorem dX1_dropDefault_31 : decode cX1_dropDefault 31 = .ok (.aload_n 0, 1) := by decide +kernel
theorem dX1_dropDefault_32 : decode cX1_dropDefault 32 = .ok (.getfield 79, 3) := by decide +kernel
theorem dX1_dropDefault_35 : decode cX1_dropDefault 35 = .ok (.invokevirtual 88, 3) := by decide +kernel
theorem dX1_dropDefault_38 : decode cX1_dropDefault 38 = .ok (.aload_n 0, 1) := by decide +kernel
theorem dX1_dropDefault_39 : decode cX1_dropDefault 39 = .ok (.invokevirtual 63, 3) := by decide +kernel
theorem dX1_dropDefault_42 : decode cX1_dropDefault 42 = .ok (.aload_n 0, 1) := by decide +kernel
theorem dX1_dropDefault_43 : decode cX1_dropDefault 43 = .ok (.getfield 79, 3) := by decide +kernel
theorem dX1_dropDefault_46 : decode cX1_dropDefault 46 = .ok (.ireturn, 1) := by decide +kernel
set_option maxRecDepth 20000 in
theorem ggX1_prefer_X1_checkDefault : GoodIn wsX1_prefer wsX1_checkDefault := goodIn_ca (goodIn_r _ [9, 10, 11, 12, 28, 29, 30, 31, 32, 33, 34, 35, 36, 37, 38, 39, 40, 41, 42, 43, 44, 45, 46, 47] (by decide +kernel) (by decide +kernel)) (goodIn_sub (fun _ h => List.mem_cons_of_mem _ (List.mem_append_right _ h)) (by decide +kernel))
set_option maxRecDepth 20000 in
theorem gX1_prefer_X1_checkDefault : GoodIn wsX1_prefer (wsV RX1 91 RX1 yX1_checkDefault wsX1_checkDefault) := goodIn_app (goodIn_of _ (by decide +kernel)) ggX1_prefer_X1_checkDefault
set_option maxRecDepth 20000 in
theorem ggX1_prefer_X0_comesBefore : GoodIn wsX1_prefer wsX0_comesBefore := goodIn_r _ [16, 17, 18, 8, 19, 48, 49] (by decide +kernel) (by decide +kernel)
set_option maxRecDepth 20000 in
theorem gX1_prefer_X0_comesBefore_n94 : GoodIn wsX1_prefer (wsX0_comesBefore) := ggX1_prefer_X0_comesBefore
set_option maxRecDepth 20000 in
theorem ggX1_prefer_X0_put : GoodIn wsX1_prefer wsX0_put := goodIn_r _ [22, 23, 24, 25, 26, 14, 27, 17, 18, 8, 19, 48, 49] (by decide +kernel) (by decide +kernel)
set_option maxRecDepth 20000 in
theorem gX1_prefer_X0_put_n102 : GoodIn wsX1_prefer (wsX0_put) := ggX1_prefer_X0_put
theorem dX1_prefer_0 : decode cX1_prefer 0 = .ok (.aload_n 0, 1) := by decide +kernel
theorem dX1_prefer_1 : decode cX1_prefer 1 = .ok (.iload_n 1, 1) := by decide +kernel
theorem dX1_prefer_2 : decode cX1_prefer 2 = .ok (.invokevirtual 91, 3) := by decide +kernel
theorem dX1_prefer_5 : decode cX1_prefer 5 = .ok (.aload_n 0, 1) := by decide +kernel
theorem dX1_prefer_6 : decode cX1_prefer 6 = .ok (.iload_n 2, 1) := by decide +kernel
theorem dX1_prefer_7 : decode cX1_prefer 7 = .ok (.invokevirtual 91, 3) := by decide +kernel
theorem dX1_prefer_10 : decode cX1_prefer 10 = .ok (.iload_n 1, 1) := by decide +kernel
theorem dX1_prefer_11 : decode cX1_prefer 11 = .ok (.iload_n 2, 1) := by decide +kernel
theorem dX1_prefer_12 : decode cX1_prefer 12 = .ok (.if_icmp .eq 15, 3) := by decide +kernel
theorem dX1_prefer_15 : decode cX1_prefer 15 = .ok (.aload_n 0, 1) := by decide +kernel
theorem dX1_prefer_16 : decode cX1_prefer 16 = .ok (.getfield 28, 3) := by decide +kernel
theorem dX1_prefer_19 : decode cX1_prefer 19 = .ok (.iload_n 2, 1) := by decide +kernel
theorem dX1_prefer_20 : decode cX1_prefer 20 = .ok (.iload_n 1, 1) := by decide +kernel
theorem dX1_prefer_21 : decode cX1_prefer 21 = .ok (.invokevirtual 94, 3) := by decide +kernel
theorem dX1_prefer_24 : decode cX1_prefer 24 = .ok (.ifCond .eq 13, 3) := by decide +kernel
theorem dX1_prefer_27 : decode cX1_prefer 27 = .ok (.new 97, 3) := by decide +kernel
theorem dX1_prefer_30 : decode cX1_prefer 30 = .ok (.dup, 1) := by decide +kernel
theorem dX1_prefer_31 : decode cX1_prefer 31 = .ok (.ldc 99, 2) := by decide +kernel
theorem dX1_prefer_33 : decode cX1_prefer 33 = .ok (.invokespecial 101, 3) := by decide +kernel
theorem dX1_prefer_36 : decode cX1_prefer 36 = .ok (.athrow, 1) := by decide +kernel
theorem dX1_prefer_37 : decode cX1_prefer 37 = .ok (.aload_n 0, 1) := by decide +kernel
theorem dX1_prefer_38 : decode cX1_prefer 38 = .ok (.getfield 28, 3) := by decide +kernel
theorem dX1_prefer_41 : decode cX1_prefer 41 = .ok (.iload_n 1, 1) := by decide +kernel
theorem dX1_prefer_42 : decode cX1_prefer 42 = .ok (.iload_n 2, 1) := by decide +kernel
theorem dX1_prefer_43 : decode cX1_prefer 43 = .ok (.invokevirtual 94, 3) := by decide +kernel
theorem dX1_prefer_46 : decode cX1_prefer 46 = .ok (.istore_n 3, 1) := by decide +kernel
theorem dX1_prefer_47 : decode cX1_prefer 47 = .ok (.aload_n 0, 1) := by decide +kernel
theorem dX1_prefer_48 : decode cX1_prefer 48 = .ok (.getfield 28, 3) := by decide +kernel
theorem dX1_prefer_51 : decode cX1_prefer 51 = .ok (.iload_n 1, 1) := by decide +kernel
theorem dX1_prefer_52 : decode cX1_prefer 52 = .ok (.iload_n 2, 1) := by decide +kernel
theorem dX1_prefer_53 : decode cX1_prefer 53 = .ok (.invokevirtual 102, 3) := by decide +kernel
theorem dX1_prefer_56 : decode cX1_prefer 56 = .ok (.aload_n 0, 1) := by decide +kernel
theorem dX1_prefer_57 : decode cX1_prefer 57 = .ok (.iconst 0, 1) := by decide +kernel
theorem dX1_prefer_58 : decode cX1_prefer 58 = .ok (.putfield 106, 3) := by decide +kernel
theorem dX1_prefer_61 : decode cX1_prefer 61 = .ok (.iload_n 3, 1) := by decide +kernel
theorem dX1_prefer_62 : decode cX1_prefer 62 = .ok (.ireturn, 1) := by decide +kernel
set_option maxRecDepth 20000 in
theorem ggX1_forgetPriorities_X0_pairs : GoodIn wsX1_forgetPriorities wsX0_pairs := goodIn_r _ [6, 7, 8, 9, 10, 11, 12, 13, 14, 39, 40] (by decide +kernel) (by decide +kernel)
set_option maxRecDepth 20000 in
theorem gX1_forgetPriorities_X0_pairs_n110 : GoodIn wsX1_forgetPriorities (wsX0_pairs) := ggX1_forgetPriorities_X0_pairs
set_option maxRecDepth 20000 in
theorem ggX1_forgetPriorities_X0_clear : GoodIn wsX1_forgetPriorities wsX0_clear := goodIn_r _ [17, 18, 7, 39, 40] (by decide +kernel) (by decide +kernel)
set_option maxRecDepth 20000 in
theorem gX1_forgetPriorities_X0_clear_n114 : GoodIn wsX1_forgetPriorities (wsX0_clear) := ggX1_forgetPriorities_X0_clear
theorem dX1_forgetPriorities_0 : decode cX1_forgetPriorities 0 = .ok (.aload_n 0, 1) := by decide +kernel
theorem dX1_forgetPriorities_1 : decode cX1_forgetPriorities 1 = .ok (.getfield 28, 3) := by decide +kernel
theorem dX1_forgetPriorities_4 : decode cX1_forgetPriorities 4 = .ok (.invokevirtual 110, 3) := by decide +kernel
theorem dX1_forgetPriorities_7 : decode cX1_forgetPriorities 7 = .ok (.istore_n 1, 1) := by decide +kernel
theorem dX1_forgetPriorities_8 : decode cX1_forgetPriorities 8 = .ok (.aload_n 0, 1) := by decide +kernel
theorem dX1_forgetPriorities_9 : decode cX1_forgetPriorities 9 = .ok (.getfield 28, 3) := by decide +kernel
theorem dX1_forgetPriorities_12 : decode cX1_forgetPriorities 12 = .ok (.invokevirtual 114, 3) := by decide +kernel
theorem dX1_forgetPriorities_15 : decode cX1_forgetPriorities 15 = .ok (.aload_n 0, 1) := by decide +kernel
theorem dX1_forgetPriorities_16 : decode cX1_forgetPriorities 16 = .ok (.iconst 0, 1) := by decide +kernel
theorem dX1_forgetPriorities_17 : decode cX1_forgetPriorities 17 = .ok (.putfield 106, 3) := by decide +kernel
theorem dX1_forgetPriorities_20 : decode cX1_forgetPriorities 20 = .ok (.iload_n 1, 1) := by decide +kernel
theorem dX1_forgetPriorities_21 : decode cX1_forgetPriorities 21 = .ok (.ireturn, 1) := by decide +kernel
set_option maxRecDepth 20000 in
theorem ggX1_isBefore_X1_checkDefault : GoodIn wsX1_isBefore wsX1_checkDefault := goodIn_ca (goodIn_r _ [6, 7, 8, 9, 17, 18, 19, 20, 21, 22, 23, 24, 25, 26, 27, 28, 29, 30, 31, 32, 33, 34, 35, 36] (by decide +kernel) (by decide +kernel)) (goodIn_sub (fun _ h => List.mem_cons_of_mem _ (List.mem_append_right _ h)) (by decide +kernel))
set_option maxRecDepth 20000 in
theorem gX1_isBefore_X1_checkDefault : GoodIn wsX1_isBefore (wsV RX1 91 RX1 yX1_checkDefault wsX1_checkDefault) := goodIn_app (goodIn_of _ (by decide +kernel)) ggX1_isBefore_X1_checkDefault
set_option maxRecDepth 20000 in
theorem ggX1_isBefore_X0_comesBefore : GoodIn wsX1_isBefore wsX0_comesBefore := goodIn_r _ [13, 14, 15, 5, 16, 37, 38] (by decide +kernel) (by decide +kernel)
set_option maxRecDepth 20000 in
theorem gX1_isBefore_X0_comesBefore_n94 : GoodIn wsX1_isBefore (wsX0_comesBefore) := ggX1_isBefore_X0_comesBefore
theorem dX1_isBefore_0 : decode cX1_isBefore 0 = .ok (.aload_n 0, 1) := by decide +kernel
theorem dX1_isBefore_1 : decode cX1_isBefore 1 = .ok (.iload_n 1, 1) := by decide +kernel
theorem dX1_isBefore_2 : decode cX1_isBefore 2 = .ok (.invokevirtual 91, 3) := by decide +kernel
theorem dX1_isBefore_5 : decode cX1_isBefore 5 = .ok (.aload_n 0, 1) := by decide +kernel
theorem dX1_isBefore_6 : decode cX1_isBefore 6 = .ok (.iload_n 2, 1) := by decide +kernel
theorem dX1_isBefore_7 : decode cX1_isBefore 7 = .ok (.invokevirtual 91, 3) := by decide +kernel
theorem dX1_isBefore_10 : decode cX1_isBefore 10 = .ok (.aload_n 0, 1) := by decide +kernel
theorem dX1_isBefore_11 : decode cX1_isBefore 11 = .ok (.getfield 28, 3) := by decide +kernel
theorem dX1_isBefore_14 : decode cX1_isBefore 14 = .ok (.iload_n 1, 1) := by decide +kernel
theorem dX1_isBefore_15 : decode cX1_isBefore 15 = .ok (.iload_n 2, 1) := by decide +kernel
theorem dX1_isBefore_16 : decode cX1_isBefore 16 = .ok (.invokevirtual 94, 3) := by decide +kernel
theorem dX1_isBefore_19 : decode cX1_isBefore 19 = .ok (.ireturn, 1) := by decide +kernel
theorem dX1_facts_0 : decode cX1_facts 0 = .ok (.aload_n 0, 1) := by decide +kernel
theorem dX1_facts_1 : decode cX1_facts 1 = .ok (.getfield 55, 3) := by decide +kernel
theorem dX1_facts_4 : decode cX1_facts 4 = .ok (.ireturn, 1) := by decide +kernel
theorem dX1_defaultCount_0 : decode cX1_defaultCount 0 = .ok (.aload_n 0, 1) := by decide +kernel
theorem dX1_defaultCount_1 : decode cX1_defaultCount 1 = .ok (.getfield 79, 3) := by decide +kernel
theorem dX1_defaultCount_4 : decode cX1_defaultCount 4 = .ok (.ireturn, 1) := by decide +kernel
set_option maxRecDepth 20000 in
theorem ggX1_closure_X1_checkSet : GoodIn wsX1_closure wsX1_checkSet := goodIn_ca (goodIn_r _ [4, 5, 6, 7] (by decide +kernel) (by decide +kernel)) (goodIn_sub (fun _ h => List.mem_cons_of_mem _ (List.mem_append_right _ h)) (by decide +kernel))
set_option maxRecDepth 20000 in
theorem gX1_closure_X1_checkSet : GoodIn wsX1_closure (va_wsS RX1 66 yX1_checkSet wsX1_checkSet) := goodIn_app (goodIn_of _ (by decide +kernel)) ggX1_closure_X1_checkSet
set_option maxRecDepth 20000 in
theorem ggX1_closure_X1_closeUp : GoodIn wsX1_closure wsX1_closeUp := goodIn_r _ [11, 12, 13, 14, 7, 15, 16, 3, 17, 18, 19, 20, 21, 22, 23, 24, 25, 26, 27, 28, 29, 30, 31, 32, 33, 34, 35, 36, 37, 38, 39, 40] (by decide +kernel) (by decide +kernel)
set_option maxRecDepth 20000 in
theorem gX1_closure_X1_closeUp : GoodIn wsX1_closure (wsV RX1 117 RX1 yX1_closeUp wsX1_closeUp) := goodIn_app (goodIn_of _ (by decide +kernel)) ggX1_closure_X1_closeUp
theorem dX1_closure_0 : decode cX1_closure 0 = .ok (.iload_n 1, 1) := by decide +kernel
theorem dX1_closure_1 : decode cX1_closure 1 = .ok (.invokestatic 66, 3) := by decide +kernel
theorem dX1_closure_4 : decode cX1_closure 4 = .ok (.aload_n 0, 1) := by decide +kernel
theorem dX1_closure_5 : decode cX1_closure 5 = .ok (.iload_n 1, 1) := by decide +kernel
theorem dX1_closure_6 : decode cX1_closure 6 = .ok (.invokevirtual 117, 3) := by decide +kernel
theorem dX1_closure_9 : decode cX1_closure 9 = .ok (.ireturn, 1) := by decide +kernel
set_option maxRecDepth 20000 in
theorem ggX1_isOpen_X1_checkDefault : GoodIn wsX1_isOpen wsX1_checkDefault := goodIn_ca (goodIn_r _ [5, 6, 7, 8, 23, 24, 25, 26, 27, 28, 29, 30, 31, 32, 33, 34, 35, 36, 37, 38, 39, 40, 41, 42] (by decide +kernel) (by decide +kernel)) (goodIn_sub (fun _ h => List.mem_cons_of_mem _ (List.mem_append_left _ (List.mem_append_right _ h))) (by decide +kernel))
set_option maxRecDepth 20000 in
theorem gX1_isOpen_X1_checkDefault : GoodIn wsX1_isOpen (wsV RX1 91 RX1 yX1_checkDefault wsX1_checkDefault) := goodIn_app (goodIn_of _ (by decide +kernel)) ggX1_isOpen_X1_checkDefault
set_option maxRecDepth 20000 in
theorem ggX1_isOpen_X1_checkSet : GoodIn wsX1_isOpen wsX1_checkSet := goodIn_ca (goodIn_r _ [11, 12, 13, 14] (by decide +kernel) (by decide +kernel)) (goodIn_sub (fun _ h => List.mem_cons_of_mem _ (List.mem_append_right _ h)) (by decide +kernel))
set_option maxRecDepth 20000 in
theorem gX1_isOpen_X1_checkSet : GoodIn wsX1_isOpen (va_wsS RX1 66 yX1_checkSet wsX1_checkSet) := goodIn_app (goodIn_of _ (by decide +kernel)) ggX1_isOpen_X1_checkSet
set_option maxRecDepth 20000 in
theorem ggX1_isOpen_X1_opens : GoodIn wsX1_isOpen wsX1_opens := goodIn_r _ [18, 19, 20, 21, 4, 22, 23, 24, 25, 26, 27, 28, 29, 30, 31, 32, 33, 34, 35, 36, 37, 38, 39, 40, 41, 42] (by decide +kernel) (by decide +kernel)
set_option maxRecDepth 20000 in
theorem gX1_isOpen_X1_opens : GoodIn wsX1_isOpen (wsV RX1 121 RX1 yX1_opens wsX1_opens) := goodIn_app (goodIn_of _ (by decide +kernel)) ggX1_isOpen_X1_opens
theorem dX1_isOpen_0 : decode cX1_isOpen 0 = .ok (.aload_n 0, 1) := by decide +kernel
theorem dX1_isOpen_1 : decode cX1_isOpen 1 = .ok (.iload_n 1, 1) := by decide +kernel
theorem dX1_isOpen_2 : decode cX1_isOpen 2 = .ok (.invokevirtual 91, 3) := by decide +kernel
theorem dX1_isOpen_5 : decode cX1_isOpen 5 = .ok (.iload_n 2, 1) := by decide +kernel
theorem dX1_isOpen_6 : decode cX1_isOpen 6 = .ok (.invokestatic 66, 3) := by decide +kernel
theorem dX1_isOpen_9 : decode cX1_isOpen 9 = .ok (.aload_n 0, 1) := by decide +kernel
theorem dX1_isOpen_10 : decode cX1_isOpen 10 = .ok (.iload_n 1, 1) := by decide +kernel
theorem dX1_isOpen_11 : decode cX1_isOpen 11 = .ok (.iload_n 2, 1) := by decide +kernel
theorem dX1_isOpen_12 : decode cX1_isOpen 12 = .ok (.invokevirtual 121, 3) := by decide +kernel
theorem dX1_isOpen_15 : decode cX1_isOpen 15 = .ok (.ireturn, 1) := by decide +kernel
set_option maxRecDepth 20000 in
theorem ggX1_generatorsOf_X1_checkSet : GoodIn wsX1_generatorsOf wsX1_checkSet := goodIn_ca (goodIn_r _ [4, 5, 6, 7] (by decide +kernel) (by decide +kernel)) (goodIn_sub (fun _ h => List.mem_cons_of_mem _ (List.mem_append_right _ h)) (by decide +kernel))
set_option maxRecDepth 20000 in
theorem gX1_generatorsOf_X1_checkSet : GoodIn wsX1_generatorsOf (va_wsS RX1 66 yX1_checkSet wsX1_checkSet) := goodIn_app (goodIn_of _ (by decide +kernel)) ggX1_generatorsOf_X1_checkSet
set_option maxRecDepth 20000 in
theorem ggX1_generatorsOf_X1_findExtensions : GoodIn wsX1_generatorsOf wsX1_findExtensions := goodIn_r _ [11, 12, 13, 14, 15, 16, 17, 18, 19, 20, 3, 21, 22, 23, 24, 25, 26, 27, 28, 29, 30, 31, 32, 7, 33, 34, 35, 36, 37, 38, 39, 40, 41, 42, 43, 44, 45, 46, 47, 48, 49, 50, 51, 52, 53, 54, 55, 56, 57, 58, 59, 60, 61, 62, 63, 64, 65, 66, 67, 68, 69, 70, 71, 72, 73, 74, 75, 76, 77] (by decide +kernel) (by decide +kernel)
set_option maxRecDepth 20000 in
theorem gX1_generatorsOf_X1_findExtensions : GoodIn wsX1_generatorsOf (wsV RX1 124 RX1 yX1_findExtensions wsX1_findExtensions) := goodIn_app (goodIn_of _ (by decide +kernel)) ggX1_generatorsOf_X1_findExtensions
set_option maxRecDepth 20000 in
theorem ggX1_generatorsOf_X1_generatorsFor : GoodIn wsX1_generatorsOf wsX1_generatorsFor := goodIn_r _ [52, 13, 14, 43, 44, 45, 46, 3, 47, 48, 36, 37, 38, 33, 34, 35, 58, 59, 60, 61, 62, 63, 64, 65, 66, 67, 68, 69, 70, 71, 72, 73, 74, 75, 76, 77] (by decide +kernel) (by decide +kernel)
set_option maxRecDepth 20000 in
theorem gX1_generatorsOf_X1_generatorsFor : GoodIn wsX1_generatorsOf (wsV RX1 127 RX1 yX1_generatorsFor wsX1_generatorsFor) := goodIn_app (goodIn_of _ (by decide +kernel)) ggX1_generatorsOf_X1_generatorsFor
theorem dX1_generatorsOf_0 : decode cX1_generatorsOf 0 = .ok (.iload_n 1, 1) := by decide +kernel
theorem dX1_generatorsOf_1 : decode cX1_generatorsOf 1 = .ok (.invokestatic 66, 3) := by decide +kernel
theorem dX1_generatorsOf_4 : decode cX1_generatorsOf 4 = .ok (.aload_n 0, 1) := by decide +kernel
theorem dX1_generatorsOf_5 : decode cX1_generatorsOf 5 = .ok (.invokevirtual 124, 3) := by decide +kernel
theorem dX1_generatorsOf_8 : decode cX1_generatorsOf 8 = .ok (.aload_n 0, 1) := by decide +kernel
theorem dX1_generatorsOf_9 : decode cX1_generatorsOf 9 = .ok (.iload_n 1, 1) := by decide +kernel
theorem dX1_generatorsOf_10 : decode cX1_generatorsOf 10 = .ok (.invokevirtual 127, 3) := by decide +kernel
theorem dX1_generatorsOf_13 : decode cX1_generatorsOf 13 = .ok (.ireturn, 1) := by decide +kernel
set_option maxRecDepth 20000 in
theorem ggX1_isExtension_X1_checkSet : GoodIn wsX1_isExtension wsX1_checkSet := goodIn_ca (goodIn_r _ [5, 6, 7, 8] (by decide +kernel) (by decide +kernel)) (goodIn_sub (fun _ h => List.mem_cons_of_mem _ (List.mem_append_right _ h)) (by decide +kernel))
set_option maxRecDepth 20000 in
theorem gX1_isExtension_X1_checkSet : GoodIn wsX1_isExtension (va_wsS RX1 66 yX1_checkSet wsX1_checkSet) := goodIn_app (goodIn_of _ (by decide +kernel)) ggX1_isExtension_X1_checkSet
set_option maxRecDepth 20000 in
theorem ggX1_isExtension_X1_findExtensions : GoodIn wsX1_isExtension wsX1_findExtensions := goodIn_r _ [12, 13, 14, 1, 15, 16, 17, 18, 19, 20, 4, 21, 22, 23, 24, 25, 26, 27, 28, 29, 30, 31, 32, 8, 33, 34, 35, 36, 37, 38, 39, 40, 41, 42, 43, 44, 45, 46, 47, 48, 49, 50, 51, 52, 53, 54, 55, 56, 57, 58, 59, 60, 61, 62, 63, 64, 65, 66, 67, 68, 69, 70, 71, 72, 73, 74, 75, 76, 77] (by decide +kernel) (by decide +kernel)
set_option maxRecDepth 20000 in
theorem gX1_isExtension_X1_findExtensions : GoodIn wsX1_isExtension (wsV RX1 124 RX1 yX1_findExtensions wsX1_findExtensions) := goodIn_app (goodIn_of _ (by decide +kernel)) ggX1_isExtension_X1_findExtensions
set_option maxRecDepth 20000 in
theorem ggX1_isExtension_X1_generatorsFor : GoodIn wsX1_isExtension wsX1_generatorsFor := goodIn_r _ [52, 14, 1, 43, 44, 45, 46, 4, 47, 48, 36, 37, 38, 33, 34, 35, 58, 59, 60, 61, 62, 63, 64, 65, 66, 67, 68, 69, 70, 71, 72, 73, 74, 75, 76, 77] (by decide +kernel) (by decide +kernel)
set_option maxRecDepth 20000 in
theorem gX1_isExtension_X1_generatorsFor : GoodIn wsX1_isExtension (wsV RX1 127 RX1 yX1_generatorsFor wsX1_generatorsFor) := goodIn_app (goodIn_of _ (by decide +kernel)) ggX1_isExtension_X1_generatorsFor
theorem dX1_isExtension_0 : decode cX1_isExtension 0 = .ok (.iload_n 1, 1) := by decide +kernel
theorem dX1_isExtension_1 : decode cX1_isExtension 1 = .ok (.invokestatic 66, 3) := by decide +kernel
theorem dX1_isExtension_4 : decode cX1_isExtension 4 = .ok (.aload_n 0, 1) := by decide +kernel
theorem dX1_isExtension_5 : decode cX1_isExtension 5 = .ok (.invokevirtual 124, 3) := by decide +kernel
theorem dX1_isExtension_8 : decode cX1_isExtension 8 = .ok (.aload_n 0, 1) := by decide +kernel
theorem dX1_isExtension_9 : decode cX1_isExtension 9 = .ok (.getfield 38, 3) := by decide +kernel
theorem dX1_isExtension_12 : decode cX1_isExtension 12 = .ok (.aload_n 0, 1) := by decide +kernel
theorem dX1_isExtension_13 : decode cX1_isExtension 13 = .ok (.iload_n 1, 1) := by decide +kernel
theorem dX1_isExtension_14 : decode cX1_isExtension 14 = .ok (.invokevirtual 127, 3) := by decide +kernel
theorem dX1_isExtension_17 : decode cX1_isExtension 17 = .ok (.iaload, 1) := by decide +kernel
theorem dX1_isExtension_18 : decode cX1_isExtension 18 = .ok (.iload_n 1, 1) := by decide +kernel
theorem dX1_isExtension_19 : decode cX1_isExtension 19 = .ok (.if_icmp .ne 7, 3) := by decide +kernel
theorem dX1_isExtension_22 : decode cX1_isExtension 22 = .ok (.iconst 1, 1) := by decide +kernel
theorem dX1_isExtension_23 : decode cX1_isExtension 23 = .ok (.goto 4, 3) := by decide +kernel
theorem dX1_isExtension_26 : decode cX1_isExtension 26 = .ok (.iconst 0, 1) := by decide +kernel
theorem dX1_isExtension_27 : decode cX1_isExtension 27 = .ok (.ireturn, 1) := by decide +kernel
set_option maxRecDepth 20000 in
theorem ggX1_extensionCount_X1_findExtensions : GoodIn wsX1_extensionCount wsX1_findExtensions := goodIn_r _ [6, 7, 8, 9, 10, 11, 1, 12, 13, 14, 5, 15, 16, 17, 18, 19, 20, 21, 22, 23, 24, 25, 26, 27, 28, 29, 30, 31, 32, 33, 34, 35, 36, 37, 38, 39, 40, 41, 42, 43, 44, 45, 46, 47, 48, 49, 50, 51, 52, 53, 54, 55, 56, 57, 58, 59, 60, 61, 62, 63, 64, 65, 66, 67, 68, 69, 70, 71, 72] (by decide +kernel) (by decide +kernel)
set_option maxRecDepth 20000 in
theorem gX1_extensionCount_X1_findExtensions : GoodIn wsX1_extensionCount (wsV RX1 124 RX1 yX1_findExtensions wsX1_findExtensions) := goodIn_app (goodIn_of _ (by decide +kernel)) ggX1_extensionCount_X1_findExtensions
theorem dX1_extensionCount_0 : decode cX1_extensionCount 0 = .ok (.aload_n 0, 1) := by decide +kernel
theorem dX1_extensionCount_1 : decode cX1_extensionCount 1 = .ok (.invokevirtual 124, 3) := by decide +kernel
theorem dX1_extensionCount_4 : decode cX1_extensionCount 4 = .ok (.aload_n 0, 1) := by decide +kernel
theorem dX1_extensionCount_5 : decode cX1_extensionCount 5 = .ok (.getfield 130, 3) := by decide +kernel
theorem dX1_extensionCount_8 : decode cX1_extensionCount 8 = .ok (.ireturn, 1) := by decide +kernel
set_option maxRecDepth 20000 in
theorem ggX1_extension_X1_findExtensions : GoodIn wsX1_extension wsX1_findExtensions := goodIn_r _ [6, 7, 8, 9, 10, 11, 12, 13, 14, 15, 5, 16, 17, 18, 19, 20, 21, 22, 23, 24, 25, 26, 27, 28, 29, 30, 31, 32, 33, 34, 35, 36, 37, 38, 39, 40, 41, 42, 43, 44, 45, 46, 47, 48, 49, 50, 51, 52, 1, 59, 60, 61, 62, 63, 64, 65, 66, 67, 68, 69, 70, 71, 72, 73, 74, 75, 76, 77, 78] (by decide +kernel) (by decide +kernel)
set_option maxRecDepth 20000 in
theorem gX1_extension_X1_findExtensions : GoodIn wsX1_extension (wsV RX1 124 RX1 yX1_findExtensions wsX1_findExtensions) := goodIn_app (goodIn_of _ (by decide +kernel)) ggX1_extension_X1_findExtensions
set_option maxRecDepth 20000 in
theorem ggX1_extension_X1_checkExtension : GoodIn wsX1_extension wsX1_checkExtension := goodIn_ca (goodIn_r _ [56, 57, 58, 12, 59, 60, 61, 62, 63, 64, 65, 66, 67, 68, 69, 70, 71, 72, 73, 74, 75, 76, 77, 78] (by decide +kernel) (by decide +kernel)) (goodIn_sub (fun _ h => List.mem_cons_of_mem _ (List.mem_append_right _ h)) (by decide +kernel))
set_option maxRecDepth 20000 in
theorem gX1_extension_X1_checkExtension : GoodIn wsX1_extension (wsV RX1 133 RX1 yX1_checkExtension wsX1_checkExtension) := goodIn_app (goodIn_of _ (by decide +kernel)) ggX1_extension_X1_checkExtension
theorem dX1_extension_0 : decode cX1_extension 0 = .ok (.aload_n 0, 1) := by decide +kernel
theorem dX1_extension_1 : decode cX1_extension 1 = .ok (.invokevirtual 124, 3) := by decide +kernel
theorem dX1_extension_4 : decode cX1_extension 4 = .ok (.aload_n 0, 1) := by decide +kernel
theorem dX1_extension_5 : decode cX1_extension 5 = .ok (.iload_n 1, 1) := by decide +kernel
theorem dX1_extension_6 : decode cX1_extension 6 = .ok (.invokevirtual 133, 3) := by decide +kernel
theorem dX1_extension_9 : decode cX1_extension 9 = .ok (.aload_n 0, 1) := by decide +kernel
theorem dX1_extension_10 : decode cX1_extension 10 = .ok (.getfield 44, 3) := by decide +kernel
theorem dX1_extension_13 : decode cX1_extension 13 = .ok (.iload_n 1, 1) := by decide +kernel
theorem dX1_extension_14 : decode cX1_extension 14 = .ok (.iaload, 1) := by decide +kernel
theorem dX1_extension_15 : decode cX1_extension 15 = .ok (.ireturn, 1) := by decide +kernel
set_option maxRecDepth 20000 in
theorem ggX1_isPreferred_X1_findPreferred : GoodIn wsX1_isPreferred wsX1_findPreferred := goodIn_r _ [6, 7, 8, 1, 9, 10, 11, 12, 13, 14, 5, 15, 16, 17, 18, 19, 20, 21, 22, 23, 24, 25, 26, 27, 28, 29, 30, 31, 32, 33, 34, 35, 36, 37, 38, 39, 40, 41, 42, 43, 44, 45, 46, 47, 48, 49, 50, 51, 52, 53, 54, 55, 56, 57, 58, 59, 60, 61, 62, 63, 64, 65, 66, 67, 68, 69, 70, 71, 72, 73, 74, 75, 76, 77, 78, 79, 80, 81, 82, 83, 84, 85, 86, 87, 94, 95, 96, 97, 98, 99, 100, 101, 102, 103, 104, 105, 106, 107, 108, 109, 110, 111, 112, 113, 114, 115] (by decide +kernel) (by decide +kernel)
set_option maxRecDepth 20000 in
theorem gX1_isPreferred_X1_findPreferred : GoodIn wsX1_isPreferred (wsV RX1 136 RX1 yX1_findPreferred wsX1_findPreferred) := goodIn_app (goodIn_of _ (by decide +kernel)) ggX1_isPreferred_X1_findPreferred
set_option maxRecDepth 20000 in
theorem ggX1_isPreferred_X1_checkExtension : GoodIn wsX1_isPreferred wsX1_checkExtension := goodIn_ca (goodIn_r _ [91, 92, 93, 8, 94, 95, 96, 97, 98, 99, 100, 101, 102, 103, 104, 105, 106, 107, 108, 109, 110, 111, 112, 113] (by decide +kernel) (by decide +kernel)) (goodIn_sub (fun _ h => List.mem_cons_of_mem _ (List.mem_append_right _ h)) (by decide +kernel))
set_option maxRecDepth 20000 in
theorem gX1_isPreferred_X1_checkExtension : GoodIn wsX1_isPreferred (wsV RX1 133 RX1 yX1_checkExtension wsX1_checkExtension) := goodIn_app (goodIn_of _ (by decide +kernel)) ggX1_isPreferred_X1_checkExtension
theorem dX1_isPreferred_0 : decode cX1_isPreferred 0 = .ok (.aload_n 0, 1) := by decide +kernel
theorem dX1_isPreferred_1 : decode cX1_isPreferred 1 = .ok (.invokevirtual 136, 3) := by decide +kernel
theorem dX1_isPreferred_4 : decode cX1_isPreferred 4 = .ok (.aload_n 0, 1) := by decide +kernel
theorem dX1_isPreferred_5 : decode cX1_isPreferred 5 = .ok (.iload_n 1, 1) := by decide +kernel
theorem dX1_isPreferred_6 : decode cX1_isPreferred 6 = .ok (.invokevirtual 133, 3) := by decide +kernel
theorem dX1_isPreferred_9 : decode cX1_isPreferred 9 = .ok (.aload_n 0, 1) := by decide +kernel
theorem dX1_isPreferred_10 : decode cX1_isPreferred 10 = .ok (.getfield 47, 3) := by decide +kernel
theorem dX1_isPreferred_13 : decode cX1_isPreferred 13 = .ok (.iload_n 1, 1) := by decide +kernel
theorem dX1_isPreferred_14 : decode cX1_isPreferred 14 = .ok (.baload, 1) := by decide +kernel
theorem dX1_isPreferred_15 : decode cX1_isPreferred 15 = .ok (.ireturn, 1) := by decide +kernel
set_option maxRecDepth 20000 in
theorem ggX1_preferredCount_X1_findPreferred : GoodIn wsX1_preferredCount wsX1_findPreferred := goodIn_r _ [6, 7, 8, 9, 1, 10, 11, 12, 13, 14, 5, 15, 16, 17, 18, 19, 20, 21, 22, 23, 24, 25, 26, 27, 28, 29, 30, 31, 32, 33, 34, 35, 36, 37, 38, 39, 40, 41, 42, 43, 44, 45, 46, 47, 48, 49, 50, 51, 52, 53, 54, 55, 56, 57, 58, 59, 60, 61, 62, 63, 64, 65, 66, 67, 68, 69, 70, 71, 72, 73, 74, 75, 76, 77, 78, 79, 80, 81, 82, 83, 84, 85, 86, 87, 88, 89, 90, 91, 92, 93, 94, 95, 96, 97, 98, 99, 100, 101, 102, 103, 104, 105, 106, 107, 108, 109] (by decide +kernel) (by decide +kernel)
set_option maxRecDepth 20000 in
theorem gX1_preferredCount_X1_findPreferred : GoodIn wsX1_preferredCount (wsV RX1 136 RX1 yX1_findPreferred wsX1_findPreferred) := goodIn_app (goodIn_of _ (by decide +kernel)) ggX1_preferredCount_X1_findPreferred
theorem dX1_preferredCount_0 : decode cX1_preferredCount 0 = .ok (.aload_n 0, 1) := by decide +kernel
theorem dX1_preferredCount_1 : decode cX1_preferredCount 1 = .ok (.invokevirtual 136, 3) := by decide +kernel
theorem dX1_preferredCount_4 : decode cX1_preferredCount 4 = .ok (.aload_n 0, 1) := by decide +kernel
theorem dX1_preferredCount_5 : decode cX1_preferredCount 5 = .ok (.getfield 139, 3) := by decide +kernel
theorem dX1_preferredCount_8 : decode cX1_preferredCount 8 = .ok (.ireturn, 1) := by decide +kernel
set_option maxRecDepth 20000 in
theorem ggX1_supports_X1_checkLiteral : GoodIn wsX1_supports wsX1_checkLiteral := goodIn_ca (goodIn_r _ [6, 7, 8] (by decide +kernel) (by decide +kernel)) (goodIn_sub (fun _ h => List.mem_cons_of_mem _ (List.mem_append_right _ h)) (by decide +kernel))
set_option maxRecDepth 20000 in
theorem gX1_supports_X1_checkLiteral : GoodIn wsX1_supports (va_wsS RX1 51 yX1_checkLiteral wsX1_checkLiteral) := goodIn_app (goodIn_of _ (by decide +kernel)) ggX1_supports_X1_checkLiteral
set_option maxRecDepth 20000 in
theorem ggX1_supports_X1_findExtensions : GoodIn wsX1_supports wsX1_findExtensions := goodIn_r _ [12, 13, 14, 15, 16, 17, 1, 18, 19, 20, 5, 21, 22, 23, 24, 25, 26, 27, 28, 29, 30, 31, 32, 33, 34, 35, 36, 37, 38, 39, 40, 41, 42, 43, 44, 45, 46, 47, 48, 49, 50, 51, 52, 53, 54, 55, 56, 57, 2, 58, 59, 60, 61, 62, 63, 64, 65, 66, 67, 68, 69, 70, 71, 72, 73, 74, 75, 76, 77] (by decide +kernel) (by decide +kernel)
set_option maxRecDepth 20000 in
theorem gX1_supports_X1_findExtensions : GoodIn wsX1_supports (wsV RX1 124 RX1 yX1_findExtensions wsX1_findExtensions) := goodIn_app (goodIn_of _ (by decide +kernel)) ggX1_supports_X1_findExtensions
set_option maxRecDepth 20000 in
theorem ggX1_supports_X1_has : GoodIn wsX1_supports wsX1_has := goodIn_r _ [25] (by decide +kernel) (by decide +kernel)
set_option maxRecDepth 20000 in
theorem gX1_supports_X1_has : GoodIn wsX1_supports (va_wsS RX1 59 yX1_has wsX1_has) := goodIn_app (goodIn_of _ (by decide +kernel)) ggX1_supports_X1_has
theorem dX1_supports_0 : decode cX1_supports 0 = .ok (.iload_n 1, 1) := by decide +kernel
theorem dX1_supports_1 : decode cX1_supports 1 = .ok (.invokestatic 51, 3) := by decide +kernel
theorem dX1_supports_4 : decode cX1_supports 4 = .ok (.aload_n 0, 1) := by decide +kernel
theorem dX1_supports_5 : decode cX1_supports 5 = .ok (.invokevirtual 124, 3) := by decide +kernel
theorem dX1_supports_8 : decode cX1_supports 8 = .ok (.iconst 0, 1) := by decide +kernel
theorem dX1_supports_9 : decode cX1_supports 9 = .ok (.istore_n 2, 1) := by decide +kernel
theorem dX1_supports_10 : decode cX1_supports 10 = .ok (.iconst 0, 1) := by decide +kernel
theorem dX1_supports_11 : decode cX1_supports 11 = .ok (.istore_n 3, 1) := by decide +kernel
theorem dX1_supports_12 : decode cX1_supports 12 = .ok (.iload_n 3, 1) := by decide +kernel
theorem dX1_supports_13 : decode cX1_supports 13 = .ok (.aload_n 0, 1) := by decide +kernel
theorem dX1_supports_14 : decode cX1_supports 14 = .ok (.getfield 130, 3) := by decide +kernel
theorem dX1_supports_17 : decode cX1_supports 17 = .ok (.if_icmp .ge 25, 3) := by decide +kernel
theorem dX1_supports_20 : decode cX1_supports 20 = .ok (.aload_n 0, 1) := by decide +kernel
theorem dX1_supports_21 : decode cX1_supports 21 = .ok (.getfield 44, 3) := by decide +kernel
theorem dX1_supports_24 : decode cX1_supports 24 = .ok (.iload_n 3, 1) := by decide +kernel
theorem dX1_supports_25 : decode cX1_supports 25 = .ok (.iaload, 1) := by decide +kernel
theorem dX1_supports_26 : decode cX1_supports 26 = .ok (.iload_n 1, 1) := by decide +kernel
theorem dX1_supports_27 : decode cX1_supports 27 = .ok (.invokestatic 59, 3) := by decide +kernel
theorem dX1_supports_30 : decode cX1_supports 30 = .ok (.ifCond .eq 6, 3) := by decide +kernel
theorem dX1_supports_33 : decode cX1_supports 33 = .ok (.iinc 2 1, 3) := by decide +kernel
theorem dX1_supports_36 : decode cX1_supports 36 = .ok (.iinc 3 1, 3) := by decide +kernel
theorem dX1_supports_39 : decode cX1_supports 39 = .ok (.goto (-27), 3) := by decide +kernel
theorem dX1_supports_42 : decode cX1_supports 42 = .ok (.iload_n 2, 1) := by decide +kernel
theorem dX1_supports_43 : decode cX1_supports 43 = .ok (.ireturn, 1) := by decide +kernel
set_option maxRecDepth 20000 in
theorem ggX1_common_X1_findPreferred : GoodIn wsX1_common wsX1_findPreferred := goodIn_r _ [9, 10, 2, 3, 11, 12, 13, 14, 15, 16, 8, 17, 18, 19, 20, 21, 22, 23, 24, 25, 26, 27, 28, 29, 30, 31, 32, 33, 34, 35, 36, 1, 37, 38, 39, 40, 41, 42, 43, 44, 45, 46, 47, 48, 49, 50, 51, 52, 53, 54, 55, 56, 57, 58, 59, 60, 4, 61, 62, 63, 64, 65, 66, 67, 68, 69, 70, 71, 72, 73, 74, 75, 76, 77, 78, 79, 80, 81, 82, 83, 84, 85, 86, 87, 88, 89, 90, 91, 92, 93, 94, 95, 96, 97, 98, 99, 100, 101, 102, 103, 104, 105, 106, 107, 108, 109] (by decide +kernel) (by decide +kernel)
set_option maxRecDepth 20000 in
theorem gX1_common_X1_findPreferred : GoodIn wsX1_common (wsV RX1 136 RX1 yX1_findPreferred wsX1_findPreferred) := goodIn_app (goodIn_of _ (by decide +kernel)) ggX1_common_X1_findPreferred
theorem dX1_common_0 : decode cX1_common 0 = .ok (.aload_n 0, 1) := by decide +kernel
theorem dX1_common_1 : decode cX1_common 1 = .ok (.invokevirtual 136, 3) := by decide +kernel
theorem dX1_common_4 : decode cX1_common 4 = .ok (.ldc 142, 2) := by decide +kernel
theorem dX1_common_6 : decode cX1_common 6 = .ok (.istore_n 2, 1) := by decide +kernel
theorem dX1_common_7 : decode cX1_common 7 = .ok (.iconst 0, 1) := by decide +kernel
theorem dX1_common_8 : decode cX1_common 8 = .ok (.istore_n 3, 1) := by decide +kernel
theorem dX1_common_9 : decode cX1_common 9 = .ok (.iload_n 3, 1) := by decide +kernel
theorem dX1_common_10 : decode cX1_common 10 = .ok (.aload_n 0, 1) := by decide +kernel
theorem dX1_common_11 : decode cX1_common 11 = .ok (.getfield 130, 3) := by decide +kernel
theorem dX1_common_14 : decode cX1_common 14 = .ok (.if_icmp .ge 31, 3) := by decide +kernel
theorem dX1_common_17 : decode cX1_common 17 = .ok (.aload_n 0, 1) := by decide +kernel
theorem dX1_common_18 : decode cX1_common 18 = .ok (.getfield 47, 3) := by decide +kernel
theorem dX1_common_21 : decode cX1_common 21 = .ok (.iload_n 3, 1) := by decide +kernel
theorem dX1_common_22 : decode cX1_common 22 = .ok (.baload, 1) := by decide +kernel
theorem dX1_common_23 : decode cX1_common 23 = .ok (.ifCond .ne 7, 3) := by decide +kernel
theorem dX1_common_26 : decode cX1_common 26 = .ok (.iload_n 1, 1) := by decide +kernel
theorem dX1_common_27 : decode cX1_common 27 = .ok (.ifCond .ne 12, 3) := by decide +kernel
theorem dX1_common_30 : decode cX1_common 30 = .ok (.iload_n 2, 1) := by decide +kernel
theorem dX1_common_31 : decode cX1_common 31 = .ok (.aload_n 0, 1) := by decide +kernel
theorem dX1_common_32 : decode cX1_common 32 = .ok (.getfield 44, 3) := by decide +kernel
theorem dX1_common_35 : decode cX1_common 35 = .ok (.iload_n 3, 1) := by decide +kernel
theorem dX1_common_36 : decode cX1_common 36 = .ok (.iaload, 1) := by decide +kernel
theorem dX1_common_37 : decode cX1_common 37 = .ok (.iand, 1) := by decide +kernel
theorem dX1_common_38 : decode cX1_common 38 = .ok (.istore_n 2, 1) := by decide +kernel
theorem dX1_common_39 : decode cX1_common 39 = .ok (.iinc 3 1, 3) := by decide +kernel
theorem dX1_common_42 : decode cX1_common 42 = .ok (.goto (-33), 3) := by decide +kernel
theorem dX1_common_45 : decode cX1_common 45 = .ok (.iload_n 2, 1) := by decide +kernel
theorem dX1_common_46 : decode cX1_common 46 = .ok (.ireturn, 1) := by decide +kernel
set_option maxRecDepth 20000 in
theorem ggX1_share_X1_checkLiteral : GoodIn wsX1_share wsX1_checkLiteral := goodIn_ca (goodIn_r _ [8, 9, 10] (by decide +kernel) (by decide +kernel)) (goodIn_sub (fun _ h => List.mem_cons_of_mem _ (List.mem_append_right _ h)) (by decide +kernel))
set_option maxRecDepth 20000 in
theorem gX1_share_X1_checkLiteral : GoodIn wsX1_share (va_wsS RX1 51 yX1_checkLiteral wsX1_checkLiteral) := goodIn_app (goodIn_of _ (by decide +kernel)) ggX1_share_X1_checkLiteral
set_option maxRecDepth 20000 in
theorem ggX1_share_X1_findPreferred : GoodIn wsX1_share wsX1_findPreferred := goodIn_r _ [14, 15, 2, 3, 1, 16, 17, 18, 19, 20, 7, 21, 22, 23, 24, 25, 26, 27, 28, 29, 30, 31, 32, 33, 34, 35, 36, 37, 38, 39, 40, 41, 42, 43, 44, 45, 46, 47, 48, 49, 50, 51, 52, 53, 54, 55, 56, 57, 58, 59, 60, 61, 62, 63, 64, 65, 4, 66, 67, 68, 69, 70, 71, 72, 73, 74, 75, 76, 77, 78, 79, 80, 81, 82, 83, 84, 85, 86, 87, 88, 89, 90, 91, 92, 93, 94, 95, 96, 97, 98, 99, 100, 101, 102, 103, 104, 105, 106, 107, 108, 109, 110, 111, 112, 113, 114] (by decide +kernel) (by decide +kernel)
set_option maxRecDepth 20000 in
theorem gX1_share_X1_findPreferred : GoodIn wsX1_share (wsV RX1 136 RX1 yX1_findPreferred wsX1_findPreferred) := goodIn_app (goodIn_of _ (by decide +kernel)) ggX1_share_X1_findPreferred
set_option maxRecDepth 20000 in
theorem ggX1_share_X1_has : GoodIn wsX1_share wsX1_has := goodIn_r _ [33] (by decide +kernel) (by decide +kernel)
set_option maxRecDepth 20000 in
theorem gX1_share_X1_has : GoodIn wsX1_share (va_wsS RX1 59 yX1_has wsX1_has) := goodIn_app (goodIn_of _ (by decide +kernel)) ggX1_share_X1_has
theorem dX1_share_0 : decode cX1_share 0 = .ok (.iload_n 1, 1) := by decide +kernel
theorem dX1_share_1 : decode cX1_share 1 = .ok (.invokestatic 51, 3) := by decide +kernel
theorem dX1_share_4 : decode cX1_share 4 = .ok (.aload_n 0, 1) := by decide +kernel
theorem dX1_share_5 : decode cX1_share 5 = .ok (.invokevirtual 136, 3) := by decide +kernel
theorem dX1_share_8 : decode cX1_share 8 = .ok (.aload_n 0, 1) := by decide +kernel
theorem dX1_share_9 : decode cX1_share 9 = .ok (.getfield 139, 3) := by decide +kernel
theorem dX1_share_12 : decode cX1_share 12 = .ok (.ifCond .ne 5, 3) := by decide +kernel
theorem dX1_share_15 : decode cX1_share 15 = .ok (.dconst 0, 1) := by decide +kernel
theorem dX1_share_16 : decode cX1_share 16 = .ok (.dreturn, 1) := by decide +kernel
theorem dX1_share_17 : decode cX1_share 17 = .ok (.iconst 0, 1) := by decide +kernel
theorem dX1_share_18 : decode cX1_share 18 = .ok (.istore_n 2, 1) := by decide +kernel
theorem dX1_share_19 : decode cX1_share 19 = .ok (.iconst 0, 1) := by decide +kernel
theorem dX1_share_20 : decode cX1_share 20 = .ok (.istore_n 3, 1) := by decide +kernel
theorem dX1_share_21 : decode cX1_share 21 = .ok (.iload_n 3, 1) := by decide +kernel
theorem dX1_share_22 : decode cX1_share 22 = .ok (.aload_n 0, 1) := by decide +kernel
theorem dX1_share_23 : decode cX1_share 23 = .ok (.getfield 130, 3) := by decide +kernel
theorem dX1_share_26 : decode cX1_share 26 = .ok (.if_icmp .ge 34, 3) := by decide +kernel
theorem dX1_share_29 : decode cX1_share 29 = .ok (.aload_n 0, 1) := by decide +kernel
theorem dX1_share_30 : decode cX1_share 30 = .ok (.getfield 47, 3) := by decide +kernel
theorem dX1_share_33 : decode cX1_share 33 = .ok (.iload_n 3, 1) := by decide +kernel
theorem dX1_share_34 : decode cX1_share 34 = .ok (.baload, 1) := by decide +kernel
theorem dX1_share_35 : decode cX1_share 35 = .ok (.ifCond .eq 19, 3) := by decide +kernel
theorem dX1_share_38 : decode cX1_share 38 = .ok (.aload_n 0, 1) := by decide +kernel
theorem dX1_share_39 : decode cX1_share 39 = .ok (.getfield 44, 3) := by decide +kernel
theorem dX1_share_42 : decode cX1_share 42 = .ok (.iload_n 3, 1) := by decide +kernel
theorem dX1_share_43 : decode cX1_share 43 = .ok (.iaload, 1) := by decide +kernel
theorem dX1_share_44 : decode cX1_share 44 = .ok (.iload_n 1, 1) := by decide +kernel
theorem dX1_share_45 : decode cX1_share 45 = .ok (.invokestatic 59, 3) := by decide +kernel
theorem dX1_share_48 : decode cX1_share 48 = .ok (.ifCond .eq 6, 3) := by decide +kernel
theorem dX1_share_51 : decode cX1_share 51 = .ok (.iinc 2 1, 3) := by decide +kernel
theorem dX1_share_54 : decode cX1_share 54 = .ok (.iinc 3 1, 3) := by decide +kernel
theorem dX1_share_57 : decode cX1_share 57 = .ok (.goto (-36), 3) := by decide +kernel
theorem dX1_share_60 : decode cX1_share 60 = .ok (.iload_n 2, 1) := by decide +kernel
theorem dX1_share_61 : decode cX1_share 61 = .ok (.i2d, 1) := by decide +kernel
theorem dX1_share_62 : decode cX1_share 62 = .ok (.aload_n 0, 1) := by decide +kernel
theorem dX1_share_63 : decode cX1_share 63 = .ok (.getfield 139, 3) := by decide +kernel
theorem dX1_share_66 : decode cX1_share 66 = .ok (.i2d, 1) := by decide +kernel
theorem dX1_share_67 : decode cX1_share 67 = .ok (.ddiv, 1) := by decide +kernel
theorem dX1_share_68 : decode cX1_share 68 = .ok (.dreturn, 1) := by decide +kernel
set_option maxRecDepth 20000 in
theorem ggX1_walk_X1_checkOrder : GoodIn wsX1_walk wsX1_checkOrder := goodIn_ca (goodIn_r _ [9, 10, 11, 12, 2, 71, 72, 73, 74, 75, 76, 77, 78, 79, 80, 81, 82, 83, 84, 85, 86, 87, 88, 89, 90] (by decide +kernel) (by decide +kernel)) (goodIn_sub (fun _ h => List.mem_cons_of_mem _ (List.mem_append_right _ h)) (by decide +kernel))
set_option maxRecDepth 20000 in
theorem gX1_walk_X1_checkOrder : GoodIn wsX1_walk (wsV RX1 143 RX1 yX1_checkOrder wsX1_checkOrder) := goodIn_app (goodIn_of _ (by decide +kernel)) ggX1_walk_X1_checkOrder
set_option maxRecDepth 20000 in
theorem ggX1_walk_X1_findExtensions : GoodIn wsX1_walk wsX1_findExtensions := goodIn_r _ [16, 17, 2, 4, 18, 19, 20, 21, 22, 23, 8, 24, 25, 26, 27, 28, 29, 30, 31, 32, 33, 34, 35, 36, 37, 38, 39, 40, 41, 42, 43, 44, 45, 46, 47, 48, 49, 50, 51, 52, 53, 54, 55, 56, 57, 58, 59, 60, 61, 71, 72, 73, 74, 75, 76, 77, 78, 79, 80, 81, 82, 83, 84, 85, 86, 87, 88, 89, 90] (by decide +kernel) (by decide +kernel)
set_option maxRecDepth 20000 in
theorem gX1_walk_X1_findExtensions : GoodIn wsX1_walk (wsV RX1 124 RX1 yX1_findExtensions wsX1_findExtensions) := goodIn_app (goodIn_of _ (by decide +kernel)) ggX1_walk_X1_findExtensions
set_option maxRecDepth 20000 in
theorem ggX1_walk_X1_layOut : GoodIn wsX1_walk wsX1_layOut := goodIn_r _ [65, 2, 12, 66, 26, 27, 8, 28, 71, 72, 73, 74, 75, 76, 77, 78, 79, 80, 81, 82, 83, 84, 85, 86, 87, 88, 89, 90] (by decide +kernel) (by decide +kernel)
set_option maxRecDepth 20000 in
theorem gX1_walk_X1_layOut : GoodIn wsX1_walk (wsV RX1 146 RX1 yX1_layOut wsX1_layOut) := goodIn_app (goodIn_of _ (by decide +kernel)) ggX1_walk_X1_layOut
set_option maxRecDepth 20000 in
theorem ggX1_walk_X1_firstUsable : GoodIn wsX1_walk wsX1_firstUsable := goodIn_r _ [70, 2, 19, 66, 26, 27, 8, 28, 71, 72, 73, 74, 75, 76, 77, 78, 79, 80, 81, 82, 83, 84, 85, 86, 87, 88, 89, 90] (by decide +kernel) (by decide +kernel)
set_option maxRecDepth 20000 in
theorem gX1_walk_X1_firstUsable : GoodIn wsX1_walk (wsV RX1 152 RX1 yX1_firstUsable wsX1_firstUsable) := goodIn_app (goodIn_of _ (by decide +kernel)) ggX1_walk_X1_firstUsable
theorem dX1_walk_0 : decode cX1_walk 0 = .ok (.aload_n 0, 1) := by decide +kernel
theorem dX1_walk_1 : decode cX1_walk 1 = .ok (.iload_n 1, 1) := by decide +kernel
theorem dX1_walk_2 : decode cX1_walk 2 = .ok (.invokevirtual 143, 3) := by decide +kernel
theorem dX1_walk_5 : decode cX1_walk 5 = .ok (.aload_n 0, 1) := by decide +kernel
theorem dX1_walk_6 : decode cX1_walk 6 = .ok (.invokevirtual 124, 3) := by decide +kernel
theorem dX1_walk_9 : decode cX1_walk 9 = .ok (.aload_n 0, 1) := by decide +kernel
theorem dX1_walk_10 : decode cX1_walk 10 = .ok (.iload_n 1, 1) := by decide +kernel
theorem dX1_walk_11 : decode cX1_walk 11 = .ok (.invokevirtual 146, 3) := by decide +kernel
theorem dX1_walk_14 : decode cX1_walk 14 = .ok (.iconst 0, 1) := by decide +kernel
theorem dX1_walk_15 : decode cX1_walk 15 = .ok (.istore_n 2, 1) := by decide +kernel
theorem dX1_walk_16 : decode cX1_walk 16 = .ok (.aload_n 0, 1) := by decide +kernel
theorem dX1_walk_17 : decode cX1_walk 17 = .ok (.iconst 0, 1) := by decide +kernel
theorem dX1_walk_18 : decode cX1_walk 18 = .ok (.putfield 149, 3) := by decide +kernel
theorem dX1_walk_21 : decode cX1_walk 21 = .ok (.iconst 0, 1) := by decide +kernel
theorem dX1_walk_22 : decode cX1_walk 22 = .ok (.istore_n 3, 1) := by decide +kernel
theorem dX1_walk_23 : decode cX1_walk 23 = .ok (.iload_n 3, 1) := by decide +kernel
theorem dX1_walk_24 : decode cX1_walk 24 = .ok (.aload_n 0, 1) := by decide +kernel
theorem dX1_walk_25 : decode cX1_walk 25 = .ok (.getfield 79, 3) := by decide +kernel
theorem dX1_walk_28 : decode cX1_walk 28 = .ok (.if_icmp .ge 47, 3) := by decide +kernel
theorem dX1_walk_31 : decode cX1_walk 31 = .ok (.aload_n 0, 1) := by decide +kernel
theorem dX1_walk_32 : decode cX1_walk 32 = .ok (.iload_n 2, 1) := by decide +kernel
theorem dX1_walk_33 : decode cX1_walk 33 = .ok (.invokevirtual 152, 3) := by decide +kernel
theorem dX1_walk_36 : decode cX1_walk 36 = .ok (.istore 4, 2) := by decide +kernel
theorem dX1_walk_38 : decode cX1_walk 38 = .ok (.iload 4, 2) := by decide +kernel
theorem dX1_walk_40 : decode cX1_walk 40 = .ok (.iconst (-1), 1) := by decide +kernel
theorem dX1_walk_41 : decode cX1_walk 41 = .ok (.if_icmp .ne 6, 3) := by decide +kernel
theorem dX1_walk_44 : decode cX1_walk 44 = .ok (.goto 31, 3) := by decide +kernel
theorem dX1_walk_47 : decode cX1_walk 47 = .ok (.aload_n 0, 1) := by decide +kernel
theorem dX1_walk_48 : decode cX1_walk 48 = .ok (.getfield 32, 3) := by decide +kernel
theorem dX1_walk_51 : decode cX1_walk 51 = .ok (.iload_n 3, 1) := by decide +kernel
theorem dX1_walk_52 : decode cX1_walk 52 = .ok (.iload 4, 2) := by decide +kernel
theorem dX1_walk_54 : decode cX1_walk 54 = .ok (.iastore, 1) := by decide +kernel
theorem dX1_walk_55 : decode cX1_walk 55 = .ok (.aload_n 0, 1) := by decide +kernel
theorem dX1_walk_56 : decode cX1_walk 56 = .ok (.iload_n 3, 1) := by decide +kernel
theorem dX1_walk_57 : decode cX1_walk 57 = .ok (.iconst 1, 1) := by decide +kernel
theorem dX1_walk_58 : decode cX1_walk 58 = .ok (.iadd, 1) := by decide +kernel
theorem dX1_walk_59 : decode cX1_walk 59 = .ok (.putfield 149, 3) := by decide +kernel
theorem dX1_walk_62 : decode cX1_walk 62 = .ok (.iload_n 2, 1) := by decide +kernel
theorem dX1_walk_63 : decode cX1_walk 63 = .ok (.iconst 1, 1) := by decide +kernel
theorem dX1_walk_64 : decode cX1_walk 64 = .ok (.iload 4, 2) := by decide +kernel
theorem dX1_walk_66 : decode cX1_walk 66 = .ok (.ishl, 1) := by decide +kernel
theorem dX1_walk_67 : decode cX1_walk 67 = .ok (.ior, 1) := by decide +kernel
theorem dX1_walk_68 : decode cX1_walk 68 = .ok (.istore_n 2, 1) := by decide +kernel
theorem dX1_walk_69 : decode cX1_walk 69 = .ok (.iinc 3 1, 3) := by decide +kernel
theorem dX1_walk_72 : decode cX1_walk 72 = .ok (.goto (-49), 3) := by decide +kernel
theorem dX1_walk_75 : decode cX1_walk 75 = .ok (.aload_n 0, 1) := by decide +kernel
theorem dX1_walk_76 : decode cX1_walk 76 = .ok (.getfield 38, 3) := by decide +kernel
theorem dX1_walk_79 : decode cX1_walk 79 = .ok (.iload_n 2, 1) := by decide +kernel
theorem dX1_walk_80 : decode cX1_walk 80 = .ok (.iaload, 1) := by decide +kernel
theorem dX1_walk_81 : decode cX1_walk 81 = .ok (.ireturn, 1) := by decide +kernel
theorem dX1_appliedCount_0 : decode cX1_appliedCount 0 = .ok (.aload_n 0, 1) := by decide +kernel
theorem dX1_appliedCount_1 : decode cX1_appliedCount 1 = .ok (.getfield 149, 3) := by decide +kernel
theorem dX1_appliedCount_4 : decode cX1_appliedCount 4 = .ok (.ireturn, 1) := by decide +kernel
theorem dX1_applied_0 : decode cX1_applied 0 = .ok (.iload_n 1, 1) := by decide +kernel
theorem dX1_applied_1 : decode cX1_applied 1 = .ok (.ifCond .lt 11, 3) := by decide +kernel
theorem dX1_applied_4 : decode cX1_applied 4 = .ok (.iload_n 1, 1) := by decide +kernel
theorem dX1_applied_5 : decode cX1_applied 5 = .ok (.aload_n 0, 1) := by decide +kernel
theorem dX1_applied_6 : decode cX1_applied 6 = .ok (.getfield 149, 3) := by decide +kernel
theorem dX1_applied_9 : decode cX1_applied 9 = .ok (.if_icmp .lt 13, 3) := by decide +kernel
theorem dX1_applied_12 : decode cX1_applied 12 = .ok (.new 155, 3) := by decide +kernel
theorem dX1_applied_15 : decode cX1_applied 15 = .ok (.dup, 1) := by decide +kernel
theorem dX1_applied_16 : decode cX1_applied 16 = .ok (.ldc 157, 2) := by decide +kernel
theorem dX1_applied_18 : decode cX1_applied 18 = .ok (.invokespecial 159, 3) := by decide +kernel
theorem dX1_applied_21 : decode cX1_applied 21 = .ok (.athrow, 1) := by decide +kernel
theorem dX1_applied_22 : decode cX1_applied 22 = .ok (.aload_n 0, 1) := by decide +kernel
theorem dX1_applied_23 : decode cX1_applied 23 = .ok (.getfield 32, 3) := by decide +kernel
theorem dX1_applied_26 : decode cX1_applied 26 = .ok (.iload_n 1, 1) := by decide +kernel
theorem dX1_applied_27 : decode cX1_applied 27 = .ok (.iaload, 1) := by decide +kernel
theorem dX1_applied_28 : decode cX1_applied 28 = .ok (.ireturn, 1) := by decide +kernel
set_option maxRecDepth 20000 in
theorem ggX1_respects_X1_checkOrder : GoodIn wsX1_respects wsX1_checkOrder := goodIn_ca (goodIn_r _ [5, 6, 7, 8, 9, 28, 29, 30, 31, 32, 33, 34, 35, 36, 37, 38, 39, 40, 41, 42, 43, 44, 45, 46, 47] (by decide +kernel) (by decide +kernel)) (goodIn_sub (fun _ h => List.mem_cons_of_mem _ (List.mem_append_right _ h)) (by decide +kernel))
set_option maxRecDepth 20000 in
theorem gX1_respects_X1_checkOrder : GoodIn wsX1_respects (wsV RX1 143 RX1 yX1_checkOrder wsX1_checkOrder) := goodIn_app (goodIn_of _ (by decide +kernel)) ggX1_respects_X1_checkOrder
set_option maxRecDepth 20000 in
theorem ggX1_respects_X1_layOut : GoodIn wsX1_respects wsX1_layOut := goodIn_r _ [13, 9, 8, 14, 15, 16, 4, 17, 28, 29, 30, 31, 32, 33, 34, 35, 36, 37, 38, 39, 40, 41, 42, 43, 44, 45, 46, 47] (by decide +kernel) (by decide +kernel)
set_option maxRecDepth 20000 in
theorem gX1_respects_X1_layOut : GoodIn wsX1_respects (wsV RX1 146 RX1 yX1_layOut wsX1_layOut) := goodIn_app (goodIn_of _ (by decide +kernel)) ggX1_respects_X1_layOut
set_option maxRecDepth 20000 in
theorem ggX1_respects_X1_keepsPriorities : GoodIn wsX1_respects wsX1_keepsPriorities := goodIn_r _ [21, 9, 14, 22, 23, 24, 25, 26, 27, 28, 29, 30, 31, 32, 33, 34, 35, 36, 37, 38, 39, 40, 41, 42, 43, 44, 45, 46, 47, 48, 49] (by decide +kernel) (by decide +kernel)
set_option maxRecDepth 20000 in
theorem gX1_respects_X1_keepsPriorities : GoodIn wsX1_respects (wsV RX1 160 RX1 yX1_keepsPriorities wsX1_keepsPriorities) := goodIn_app (goodIn_of _ (by decide +kernel)) ggX1_respects_X1_keepsPriorities
theorem dX1_respects_0 : decode cX1_respects 0 = .ok (.aload_n 0, 1) := by decide +kernel
theorem dX1_respects_1 : decode cX1_respects 1 = .ok (.iload_n 1, 1) := by decide +kernel
theorem dX1_respects_2 : decode cX1_respects 2 = .ok (.invokevirtual 143, 3) := by decide +kernel
theorem dX1_respects_5 : decode cX1_respects 5 = .ok (.aload_n 0, 1) := by decide +kernel
theorem dX1_respects_6 : decode cX1_respects 6 = .ok (.iload_n 1, 1) := by decide +kernel
theorem dX1_respects_7 : decode cX1_respects 7 = .ok (.invokevirtual 146, 3) := by decide +kernel
theorem dX1_respects_10 : decode cX1_respects 10 = .ok (.aload_n 0, 1) := by decide +kernel
theorem dX1_respects_11 : decode cX1_respects 11 = .ok (.invokevirtual 160, 3) := by decide +kernel
theorem dX1_respects_14 : decode cX1_respects 14 = .ok (.ireturn, 1) := by decide +kernel
set_option maxRecDepth 20000 in
theorem ggX1_digest_X1_mix : GoodIn wsX1_digest wsX1_mix := goodIn_r _ [16, 17] (by decide +kernel) (by decide +kernel)
set_option maxRecDepth 20000 in
theorem gX1_digest_X1_mix : GoodIn wsX1_digest (va_wsS RX1 166 yX1_mix wsX1_mix) := goodIn_app (goodIn_of _ (by decide +kernel)) ggX1_digest_X1_mix
set_option maxRecDepth 20000 in
theorem ggX1_digest_X0_comesBefore : GoodIn wsX1_digest wsX0_comesBefore := goodIn_r _ [21, 22, 23, 15, 24, 45, 46] (by decide +kernel) (by decide +kernel)
set_option maxRecDepth 20000 in
theorem gX1_digest_X0_comesBefore_n94 : GoodIn wsX1_digest (wsX0_comesBefore) := ggX1_digest_X0_comesBefore
theorem dX1_digest_0 : decode cX1_digest 0 = .ok (.ldc2_w 164, 3) := by decide +kernel
theorem dX1_digest_3 : decode cX1_digest 3 = .ok (.aload_n 0, 1) := by decide +kernel
theorem dX1_digest_4 : decode cX1_digest 4 = .ok (.getfield 55, 3) := by decide +kernel
theorem dX1_digest_7 : decode cX1_digest 7 = .ok (.i2l, 1) := by decide +kernel
theorem dX1_digest_8 : decode cX1_digest 8 = .ok (.invokestatic 166, 3) := by decide +kernel
theorem dX1_digest_11 : decode cX1_digest 11 = .ok (.lstore_n 1, 1) := by decide +kernel
theorem dX1_digest_12 : decode cX1_digest 12 = .ok (.lload_n 1, 1) := by decide +kernel
