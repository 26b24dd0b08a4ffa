theorem dX2_setFact_23 : decode cX2_setFact 23 = .ok (.iconst 0, 1) := by decide +kernel
theorem dX2_setFact_24 : decode cX2_setFact 24 = .ok (.ireturn, 1) := by decide +kernel
theorem dX2_setFact_25 : decode cX2_setFact 25 = .ok (.aload_n 0, 1) := by decide +kernel
theorem dX2_setFact_26 : decode cX2_setFact 26 = .ok (.getfield 50, 3) := by decide +kernel
theorem dX2_setFact_29 : decode cX2_setFact 29 = .ok (.iload_n 1, 1) := by decide +kernel
theorem dX2_setFact_30 : decode cX2_setFact 30 = .ok (.ishr, 1) := by decide +kernel
theorem dX2_setFact_31 : decode cX2_setFact 31 = .ok (.iconst 1, 1) := by decide +kernel
theorem dX2_setFact_32 : decode cX2_setFact 32 = .ok (.iand, 1) := by decide +kernel
theorem dX2_setFact_33 : decode cX2_setFact 33 = .ok (.iconst 1, 1) := by decide +kernel
theorem dX2_setFact_34 : decode cX2_setFact 34 = .ok (.if_icmp .ne 7, 3) := by decide +kernel
theorem dX2_setFact_37 : decode cX2_setFact 37 = .ok (.iconst 1, 1) := by decide +kernel
theorem dX2_setFact_38 : decode cX2_setFact 38 = .ok (.goto 4, 3) := by decide +kernel
theorem dX2_setFact_41 : decode cX2_setFact 41 = .ok (.iconst 0, 1) := by decide +kernel
theorem dX2_setFact_42 : decode cX2_setFact 42 = .ok (.istore_n 3, 1) := by decide +kernel
theorem dX2_setFact_43 : decode cX2_setFact 43 = .ok (.aload_n 0, 1) := by decide +kernel
theorem dX2_setFact_44 : decode cX2_setFact 44 = .ok (.iload_n 2, 1) := by decide +kernel
theorem dX2_setFact_45 : decode cX2_setFact 45 = .ok (.ifCond .eq 14, 3) := by decide +kernel
theorem dX2_setFact_48 : decode cX2_setFact 48 = .ok (.aload_n 0, 1) := by decide +kernel
theorem dX2_setFact_49 : decode cX2_setFact 49 = .ok (.getfield 50, 3) := by decide +kernel
theorem dX2_setFact_52 : decode cX2_setFact 52 = .ok (.iconst 1, 1) := by decide +kernel
theorem dX2_setFact_53 : decode cX2_setFact 53 = .ok (.iload_n 1, 1) := by decide +kernel
theorem dX2_setFact_54 : decode cX2_setFact 54 = .ok (.ishl, 1) := by decide +kernel
theorem dX2_setFact_55 : decode cX2_setFact 55 = .ok (.ior, 1) := by decide +kernel
theorem dX2_setFact_56 : decode cX2_setFact 56 = .ok (.goto 13, 3) := by decide +kernel
theorem dX2_setFact_59 : decode cX2_setFact 59 = .ok (.aload_n 0, 1) := by decide +kernel
theorem dX2_setFact_60 : decode cX2_setFact 60 = .ok (.getfield 50, 3) := by decide +kernel
theorem dX2_setFact_63 : decode cX2_setFact 63 = .ok (.iconst 1, 1) := by decide +kernel
theorem dX2_setFact_64 : decode cX2_setFact 64 = .ok (.iload_n 1, 1) := by decide +kernel
theorem dX2_setFact_65 : decode cX2_setFact 65 = .ok (.ishl, 1) := by decide +kernel
theorem dX2_setFact_66 : decode cX2_setFact 66 = .ok (.iconst (-1), 1) := by decide +kernel
theorem dX2_setFact_67 : decode cX2_setFact 67 = .ok (.ixor, 1) := by decide +kernel
theorem dX2_setFact_68 : decode cX2_setFact 68 = .ok (.iand, 1) := by decide +kernel
theorem dX2_setFact_69 : decode cX2_setFact 69 = .ok (.putfield 50, 3) := by decide +kernel
theorem dX2_setFact_72 : decode cX2_setFact 72 = .ok (.iload_n 3, 1) := by decide +kernel
theorem dX2_setFact_73 : decode cX2_setFact 73 = .ok (.ireturn, 1) := by decide +kernel
set_option maxRecDepth 20000 in
theorem ggX2_addRule_X2_isLiteral : GoodIn wsX2_addRule wsX2_isLiteral := goodIn_r _ [8] (by decide +kernel) (by decide +kernel)
set_option maxRecDepth 20000 in
theorem gX2_addRule_X2_isLiteral : GoodIn wsX2_addRule (va_wsS RX2 46 yX2_isLiteral wsX2_isLiteral) := goodIn_app (goodIn_of _ (by decide +kernel)) ggX2_addRule_X2_isLiteral
set_option maxRecDepth 20000 in
theorem ggX2_addRule_X2_fail : GoodIn wsX2_addRule wsX2_fail := goodIn_r _ [12, 1, 17, 18, 19, 20, 21, 22, 23, 24, 25, 26, 27, 28, 29, 30, 31] (by decide +kernel) (by decide +kernel)
set_option maxRecDepth 20000 in
theorem gX2_addRule_X2_fail : GoodIn wsX2_addRule (wsV RX2 53 RX2 yX2_fail wsX2_fail) := goodIn_app (goodIn_of _ (by decide +kernel)) ggX2_addRule_X2_fail
set_option maxRecDepth 20000 in
theorem ggX2_addRule_X2_isSet : GoodIn wsX2_addRule wsX2_isSet := goodIn_r _ [15, 16] (by decide +kernel) (by decide +kernel)
set_option maxRecDepth 20000 in
theorem gX2_addRule_X2_isSet : GoodIn wsX2_addRule (va_wsS RX2 57 yX2_isSet wsX2_isSet) := goodIn_app (goodIn_of _ (by decide +kernel)) ggX2_addRule_X2_isSet
theorem dX2_addRule_0 : decode cX2_addRule 0 = .ok (.aload_n 0, 1) := by decide +kernel
theorem dX2_addRule_1 : decode cX2_addRule 1 = .ok (.iconst 0, 1) := by decide +kernel
theorem dX2_addRule_2 : decode cX2_addRule 2 = .ok (.putfield 38, 3) := by decide +kernel
theorem dX2_addRule_5 : decode cX2_addRule 5 = .ok (.iload_n 2, 1) := by decide +kernel
theorem dX2_addRule_6 : decode cX2_addRule 6 = .ok (.invokestatic 46, 3) := by decide +kernel
theorem dX2_addRule_9 : decode cX2_addRule 9 = .ok (.ifCond .ne 9, 3) := by decide +kernel
theorem dX2_addRule_12 : decode cX2_addRule 12 = .ok (.aload_n 0, 1) := by decide +kernel
theorem dX2_addRule_13 : decode cX2_addRule 13 = .ok (.iconst 1, 1) := by decide +kernel
theorem dX2_addRule_14 : decode cX2_addRule 14 = .ok (.invokevirtual 53, 3) := by decide +kernel
theorem dX2_addRule_17 : decode cX2_addRule 17 = .ok (.ireturn, 1) := by decide +kernel
theorem dX2_addRule_18 : decode cX2_addRule 18 = .ok (.iload_n 1, 1) := by decide +kernel
theorem dX2_addRule_19 : decode cX2_addRule 19 = .ok (.invokestatic 57, 3) := by decide +kernel
theorem dX2_addRule_22 : decode cX2_addRule 22 = .ok (.ifCond .ne 9, 3) := by decide +kernel
theorem dX2_addRule_25 : decode cX2_addRule 25 = .ok (.aload_n 0, 1) := by decide +kernel
theorem dX2_addRule_26 : decode cX2_addRule 26 = .ok (.iconst 2, 1) := by decide +kernel
theorem dX2_addRule_27 : decode cX2_addRule 27 = .ok (.invokevirtual 53, 3) := by decide +kernel
theorem dX2_addRule_30 : decode cX2_addRule 30 = .ok (.ireturn, 1) := by decide +kernel
theorem dX2_addRule_31 : decode cX2_addRule 31 = .ok (.aload_n 0, 1) := by decide +kernel
theorem dX2_addRule_32 : decode cX2_addRule 32 = .ok (.getfield 60, 3) := by decide +kernel
theorem dX2_addRule_35 : decode cX2_addRule 35 = .ok (.bipush 16, 2) := by decide +kernel
theorem dX2_addRule_37 : decode cX2_addRule 37 = .ok (.if_icmp .ne 9, 3) := by decide +kernel
theorem dX2_addRule_40 : decode cX2_addRule 40 = .ok (.aload_n 0, 1) := by decide +kernel
theorem dX2_addRule_41 : decode cX2_addRule 41 = .ok (.iconst 3, 1) := by decide +kernel
theorem dX2_addRule_42 : decode cX2_addRule 42 = .ok (.invokevirtual 53, 3) := by decide +kernel
theorem dX2_addRule_45 : decode cX2_addRule 45 = .ok (.ireturn, 1) := by decide +kernel
theorem dX2_addRule_46 : decode cX2_addRule 46 = .ok (.aload_n 0, 1) := by decide +kernel
theorem dX2_addRule_47 : decode cX2_addRule 47 = .ok (.getfield 9, 3) := by decide +kernel
theorem dX2_addRule_50 : decode cX2_addRule 50 = .ok (.aload_n 0, 1) := by decide +kernel
theorem dX2_addRule_51 : decode cX2_addRule 51 = .ok (.getfield 60, 3) := by decide +kernel
theorem dX2_addRule_54 : decode cX2_addRule 54 = .ok (.iload_n 1, 1) := by decide +kernel
theorem dX2_addRule_55 : decode cX2_addRule 55 = .ok (.iastore, 1) := by decide +kernel
theorem dX2_addRule_56 : decode cX2_addRule 56 = .ok (.aload_n 0, 1) := by decide +kernel
theorem dX2_addRule_57 : decode cX2_addRule 57 = .ok (.getfield 13, 3) := by decide +kernel
theorem dX2_addRule_60 : decode cX2_addRule 60 = .ok (.aload_n 0, 1) := by decide +kernel
theorem dX2_addRule_61 : decode cX2_addRule 61 = .ok (.getfield 60, 3) := by decide +kernel
theorem dX2_addRule_64 : decode cX2_addRule 64 = .ok (.iload_n 2, 1) := by decide +kernel
theorem dX2_addRule_65 : decode cX2_addRule 65 = .ok (.iastore, 1) := by decide +kernel
theorem dX2_addRule_66 : decode cX2_addRule 66 = .ok (.aload_n 0, 1) := by decide +kernel
theorem dX2_addRule_67 : decode cX2_addRule 67 = .ok (.dup, 1) := by decide +kernel
theorem dX2_addRule_68 : decode cX2_addRule 68 = .ok (.getfield 60, 3) := by decide +kernel
theorem dX2_addRule_71 : decode cX2_addRule 71 = .ok (.iconst 1, 1) := by decide +kernel
theorem dX2_addRule_72 : decode cX2_addRule 72 = .ok (.iadd, 1) := by decide +kernel
theorem dX2_addRule_73 : decode cX2_addRule 73 = .ok (.putfield 60, 3) := by decide +kernel
theorem dX2_addRule_76 : decode cX2_addRule 76 = .ok (.aload_n 0, 1) := by decide +kernel
theorem dX2_addRule_77 : decode cX2_addRule 77 = .ok (.getfield 60, 3) := by decide +kernel
theorem dX2_addRule_80 : decode cX2_addRule 80 = .ok (.iconst 1, 1) := by decide +kernel
theorem dX2_addRule_81 : decode cX2_addRule 81 = .ok (.isub, 1) := by decide +kernel
theorem dX2_addRule_82 : decode cX2_addRule 82 = .ok (.ireturn, 1) := by decide +kernel
set_option maxRecDepth 20000 in
theorem ggX2_addDefault_X2_isLiteral : GoodIn wsX2_addDefault wsX2_isLiteral := goodIn_r _ [9] (by decide +kernel) (by decide +kernel)
set_option maxRecDepth 20000 in
theorem gX2_addDefault_X2_isLiteral : GoodIn wsX2_addDefault (va_wsS RX2 46 yX2_isLiteral wsX2_isLiteral) := goodIn_app (goodIn_of _ (by decide +kernel)) ggX2_addDefault_X2_isLiteral
set_option maxRecDepth 20000 in
theorem ggX2_addDefault_X2_fail : GoodIn wsX2_addDefault wsX2_fail := goodIn_r _ [13, 1, 18, 19, 20, 21, 22, 23, 24, 25, 26, 27, 28, 29, 30, 31, 32] (by decide +kernel) (by decide +kernel)
set_option maxRecDepth 20000 in
theorem gX2_addDefault_X2_fail : GoodIn wsX2_addDefault (wsV RX2 53 RX2 yX2_fail wsX2_fail) := goodIn_app (goodIn_of _ (by decide +kernel)) ggX2_addDefault_X2_fail
set_option maxRecDepth 20000 in
theorem ggX2_addDefault_X2_isSet : GoodIn wsX2_addDefault wsX2_isSet := goodIn_r _ [16, 17] (by decide +kernel) (by decide +kernel)
set_option maxRecDepth 20000 in
theorem gX2_addDefault_X2_isSet : GoodIn wsX2_addDefault (va_wsS RX2 57 yX2_isSet wsX2_isSet) := goodIn_app (goodIn_of _ (by decide +kernel)) ggX2_addDefault_X2_isSet
theorem dX2_addDefault_0 : decode cX2_addDefault 0 = .ok (.aload_n 0, 1) := by decide +kernel
theorem dX2_addDefault_1 : decode cX2_addDefault 1 = .ok (.iconst 0, 1) := by decide +kernel
theorem dX2_addDefault_2 : decode cX2_addDefault 2 = .ok (.putfield 38, 3) := by decide +kernel
theorem dX2_addDefault_5 : decode cX2_addDefault 5 = .ok (.iload_n 3, 1) := by decide +kernel
theorem dX2_addDefault_6 : decode cX2_addDefault 6 = .ok (.invokestatic 46, 3) := by decide +kernel
theorem dX2_addDefault_9 : decode cX2_addDefault 9 = .ok (.ifCond .ne 9, 3) := by decide +kernel
theorem dX2_addDefault_12 : decode cX2_addDefault 12 = .ok (.aload_n 0, 1) := by decide +kernel
theorem dX2_addDefault_13 : decode cX2_addDefault 13 = .ok (.iconst 1, 1) := by decide +kernel
theorem dX2_addDefault_14 : decode cX2_addDefault 14 = .ok (.invokevirtual 53, 3) := by decide +kernel
theorem dX2_addDefault_17 : decode cX2_addDefault 17 = .ok (.ireturn, 1) := by decide +kernel
theorem dX2_addDefault_18 : decode cX2_addDefault 18 = .ok (.iload_n 1, 1) := by decide +kernel
theorem dX2_addDefault_19 : decode cX2_addDefault 19 = .ok (.invokestatic 57, 3) := by decide +kernel
theorem dX2_addDefault_22 : decode cX2_addDefault 22 = .ok (.ifCond .eq 10, 3) := by decide +kernel
theorem dX2_addDefault_25 : decode cX2_addDefault 25 = .ok (.iload_n 2, 1) := by decide +kernel
theorem dX2_addDefault_26 : decode cX2_addDefault 26 = .ok (.invokestatic 57, 3) := by decide +kernel
theorem dX2_addDefault_29 : decode cX2_addDefault 29 = .ok (.ifCond .ne 9, 3) := by decide +kernel
theorem dX2_addDefault_32 : decode cX2_addDefault 32 = .ok (.aload_n 0, 1) := by decide +kernel
theorem dX2_addDefault_33 : decode cX2_addDefault 33 = .ok (.iconst 2, 1) := by decide +kernel
theorem dX2_addDefault_34 : decode cX2_addDefault 34 = .ok (.invokevirtual 53, 3) := by decide +kernel
theorem dX2_addDefault_37 : decode cX2_addDefault 37 = .ok (.ireturn, 1) := by decide +kernel
theorem dX2_addDefault_38 : decode cX2_addDefault 38 = .ok (.aload_n 0, 1) := by decide +kernel
theorem dX2_addDefault_39 : decode cX2_addDefault 39 = .ok (.getfield 43, 3) := by decide +kernel
theorem dX2_addDefault_42 : decode cX2_addDefault 42 = .ok (.bipush 6, 2) := by decide +kernel
theorem dX2_addDefault_44 : decode cX2_addDefault 44 = .ok (.if_icmp .ne 9, 3) := by decide +kernel
theorem dX2_addDefault_47 : decode cX2_addDefault 47 = .ok (.aload_n 0, 1) := by decide +kernel
theorem dX2_addDefault_48 : decode cX2_addDefault 48 = .ok (.iconst 3, 1) := by decide +kernel
theorem dX2_addDefault_49 : decode cX2_addDefault 49 = .ok (.invokevirtual 53, 3) := by decide +kernel
theorem dX2_addDefault_52 : decode cX2_addDefault 52 = .ok (.ireturn, 1) := by decide +kernel
theorem dX2_addDefault_53 : decode cX2_addDefault 53 = .ok (.aload_n 0, 1) := by decide +kernel
theorem dX2_addDefault_54 : decode cX2_addDefault 54 = .ok (.getfield 16, 3) := by decide +kernel
theorem dX2_addDefault_57 : decode cX2_addDefault 57 = .ok (.aload_n 0, 1) := by decide +kernel
theorem dX2_addDefault_58 : decode cX2_addDefault 58 = .ok (.getfield 43, 3) := by decide +kernel
theorem dX2_addDefault_61 : decode cX2_addDefault 61 = .ok (.iload_n 1, 1) := by decide +kernel
theorem dX2_addDefault_62 : decode cX2_addDefault 62 = .ok (.iastore, 1) := by decide +kernel
theorem dX2_addDefault_63 : decode cX2_addDefault 63 = .ok (.aload_n 0, 1) := by decide +kernel
theorem dX2_addDefault_64 : decode cX2_addDefault 64 = .ok (.getfield 19, 3) := by decide +kernel
theorem dX2_addDefault_67 : decode cX2_addDefault 67 = .ok (.aload_n 0, 1) := by decide +kernel
theorem dX2_addDefault_68 : decode cX2_addDefault 68 = .ok (.getfield 43, 3) := by decide +kernel
theorem dX2_addDefault_71 : decode cX2_addDefault 71 = .ok (.iload_n 2, 1) := by decide +kernel
theorem dX2_addDefault_72 : decode cX2_addDefault 72 = .ok (.iastore, 1) := by decide +kernel
theorem dX2_addDefault_73 : decode cX2_addDefault 73 = .ok (.aload_n 0, 1) := by decide +kernel
theorem dX2_addDefault_74 : decode cX2_addDefault 74 = .ok (.getfield 22, 3) := by decide +kernel
theorem dX2_addDefault_77 : decode cX2_addDefault 77 = .ok (.aload_n 0, 1) := by decide +kernel
theorem dX2_addDefault_78 : decode cX2_addDefault 78 = .ok (.getfield 43, 3) := by decide +kernel
theorem dX2_addDefault_81 : decode cX2_addDefault 81 = .ok (.iload_n 3, 1) := by decide +kernel
theorem dX2_addDefault_82 : decode cX2_addDefault 82 = .ok (.iastore, 1) := by decide +kernel
theorem dX2_addDefault_83 : decode cX2_addDefault 83 = .ok (.aload_n 0, 1) := by decide +kernel
theorem dX2_addDefault_84 : decode cX2_addDefault 84 = .ok (.dup, 1) := by decide +kernel
theorem dX2_addDefault_85 : decode cX2_addDefault 85 = .ok (.getfield 43, 3) := by decide +kernel
theorem dX2_addDefault_88 : decode cX2_addDefault 88 = .ok (.iconst 1, 1) := by decide +kernel
theorem dX2_addDefault_89 : decode cX2_addDefault 89 = .ok (.iadd, 1) := by decide +kernel
theorem dX2_addDefault_90 : decode cX2_addDefault 90 = .ok (.putfield 43, 3) := by decide +kernel
theorem dX2_addDefault_93 : decode cX2_addDefault 93 = .ok (.aload_n 0, 1) := by decide +kernel
theorem dX2_addDefault_94 : decode cX2_addDefault 94 = .ok (.getfield 43, 3) := by decide +kernel
theorem dX2_addDefault_97 : decode cX2_addDefault 97 = .ok (.iconst 1, 1) := by decide +kernel
theorem dX2_addDefault_98 : decode cX2_addDefault 98 = .ok (.isub, 1) := by decide +kernel
theorem dX2_addDefault_99 : decode cX2_addDefault 99 = .ok (.ireturn, 1) := by decide +kernel
set_option maxRecDepth 20000 in
theorem ggX2_dropRule_X2_fail : GoodIn wsX2_dropRule wsX2_fail := goodIn_r _ [7, 1, 8, 9, 10, 11, 12, 13, 14, 15, 16, 17, 18, 19, 20, 21, 22] (by decide +kernel) (by decide +kernel)
set_option maxRecDepth 20000 in
theorem gX2_dropRule_X2_fail : GoodIn wsX2_dropRule (wsV RX2 53 RX2 yX2_fail wsX2_fail) := goodIn_app (goodIn_of _ (by decide +kernel)) ggX2_dropRule_X2_fail
theorem dX2_dropRule_0 : decode cX2_dropRule 0 = .ok (.aload_n 0, 1) := by decide +kernel
theorem dX2_dropRule_1 : decode cX2_dropRule 1 = .ok (.iconst 0, 1) := by decide +kernel
theorem dX2_dropRule_2 : decode cX2_dropRule 2 = .ok (.putfield 38, 3) := by decide +kernel
theorem dX2_dropRule_5 : decode cX2_dropRule 5 = .ok (.aload_n 0, 1) := by decide +kernel
theorem dX2_dropRule_6 : decode cX2_dropRule 6 = .ok (.getfield 60, 3) := by decide +kernel
theorem dX2_dropRule_9 : decode cX2_dropRule 9 = .ok (.ifCond .ne 9, 3) := by decide +kernel
theorem dX2_dropRule_12 : decode cX2_dropRule 12 = .ok (.aload_n 0, 1) := by decide +kernel
theorem dX2_dropRule_13 : decode cX2_dropRule 13 = .ok (.iconst 1, 1) := by decide +kernel
theorem dX2_dropRule_14 : decode cX2_dropRule 14 = .ok (.invokevirtual 53, 3) := by decide +kernel
theorem dX2_dropRule_17 : decode cX2_dropRule 17 = .ok (.ireturn, 1) := by decide +kernel
theorem dX2_dropRule_18 : decode cX2_dropRule 18 = .ok (.aload_n 0, 1) := by decide +kernel
theorem dX2_dropRule_19 : decode cX2_dropRule 19 = .ok (.dup, 1) := by decide +kernel
theorem dX2_dropRule_20 : decode cX2_dropRule 20 = .ok (.getfield 60, 3) := by decide +kernel
theorem dX2_dropRule_23 : decode cX2_dropRule 23 = .ok (.iconst 1, 1) := by decide +kernel
theorem dX2_dropRule_24 : decode cX2_dropRule 24 = .ok (.isub, 1) := by decide +kernel
theorem dX2_dropRule_25 : decode cX2_dropRule 25 = .ok (.putfield 60, 3) := by decide +kernel
theorem dX2_dropRule_28 : decode cX2_dropRule 28 = .ok (.aload_n 0, 1) := by decide +kernel
theorem dX2_dropRule_29 : decode cX2_dropRule 29 = .ok (.getfield 60, 3) := by decide +kernel
theorem dX2_dropRule_32 : decode cX2_dropRule 32 = .ok (.ireturn, 1) := by decide +kernel
set_option maxRecDepth 20000 in
theorem ggX2_dropDefault_X2_fail : GoodIn wsX2_dropDefault wsX2_fail := goodIn_r _ [8, 1, 9, 10, 11, 12, 13, 14, 15, 16, 17, 18, 19, 20, 21, 22, 23] (by decide +kernel) (by decide +kernel)
set_option maxRecDepth 20000 in
theorem gX2_dropDefault_X2_fail : GoodIn wsX2_dropDefault (wsV RX2 53 RX2 yX2_fail wsX2_fail) := goodIn_app (goodIn_of _ (by decide +kernel)) ggX2_dropDefault_X2_fail
theorem dX2_dropDefault_0 : decode cX2_dropDefault 0 = .ok (.aload_n 0, 1) := by decide +kernel
theorem dX2_dropDefault_1 : decode cX2_dropDefault 1 = .ok (.iconst 0, 1) := by decide +kernel
theorem dX2_dropDefault_2 : decode cX2_dropDefault 2 = .ok (.putfield 38, 3) := by decide +kernel
theorem dX2_dropDefault_5 : decode cX2_dropDefault 5 = .ok (.aload_n 0, 1) := by decide +kernel
theorem dX2_dropDefault_6 : decode cX2_dropDefault 6 = .ok (.getfield 43, 3) := by decide +kernel
theorem dX2_dropDefault_9 : decode cX2_dropDefault 9 = .ok (.ifCond .ne 9, 3) := by decide +kernel
theorem dX2_dropDefault_12 : decode cX2_dropDefault 12 = .ok (.aload_n 0, 1) := by decide +kernel
theorem dX2_dropDefault_13 : decode cX2_dropDefault 13 = .ok (.iconst 1, 1) := by decide +kernel
theorem dX2_dropDefault_14 : decode cX2_dropDefault 14 = .ok (.invokevirtual 53, 3) := by decide +kernel
theorem dX2_dropDefault_17 : decode cX2_dropDefault 17 = .ok (.ireturn, 1) := by decide +kernel
theorem dX2_dropDefault_18 : decode cX2_dropDefault 18 = .ok (.aload_n 0, 1) := by decide +kernel
theorem dX2_dropDefault_19 : decode cX2_dropDefault 19 = .ok (.dup, 1) := by decide +kernel
theorem dX2_dropDefault_20 : decode cX2_dropDefault 20 = .ok (.getfield 43, 3) := by decide +kernel
theorem dX2_dropDefault_23 : decode cX2_dropDefault 23 = .ok (.iconst 1, 1) := by decide +kernel
theorem dX2_dropDefault_24 : decode cX2_dropDefault 24 = .ok (.isub, 1) := by decide +kernel
theorem dX2_dropDefault_25 : decode cX2_dropDefault 25 = .ok (.putfield 43, 3) := by decide +kernel
theorem dX2_dropDefault_28 : decode cX2_dropDefault 28 = .ok (.iconst 0, 1) := by decide +kernel
theorem dX2_dropDefault_29 : decode cX2_dropDefault 29 = .ok (.istore_n 1, 1) := by decide +kernel
theorem dX2_dropDefault_30 : decode cX2_dropDefault 30 = .ok (.iload_n 1, 1) := by decide +kernel
theorem dX2_dropDefault_31 : decode cX2_dropDefault 31 = .ok (.bipush 6, 2) := by decide +kernel
theorem dX2_dropDefault_33 : decode cX2_dropDefault 33 = .ok (.if_icmp .ge 39, 3) := by decide +kernel
theorem dX2_dropDefault_36 : decode cX2_dropDefault 36 = .ok (.aload_n 0, 1) := by decide +kernel
theorem dX2_dropDefault_37 : decode cX2_dropDefault 37 = .ok (.getfield 25, 3) := by decide +kernel
theorem dX2_dropDefault_40 : decode cX2_dropDefault 40 = .ok (.bipush 6, 2) := by decide +kernel
theorem dX2_dropDefault_42 : decode cX2_dropDefault 42 = .ok (.aload_n 0, 1) := by decide +kernel
theorem dX2_dropDefault_43 : decode cX2_dropDefault 43 = .ok (.getfield 43, 3) := by decide +kernel
theorem dX2_dropDefault_46 : decode cX2_dropDefault 46 = .ok (.imul, 1) := by decide +kernel
theorem dX2_dropDefault_47 : decode cX2_dropDefault 47 = .ok (.iload_n 1, 1) := by decide +kernel
theorem dX2_dropDefault_48 : decode cX2_dropDefault 48 = .ok (.iadd, 1) := by decide +kernel
theorem dX2_dropDefault_49 : decode cX2_dropDefault 49 = .ok (.aload_n 0, 1) := by decide +kernel
theorem dX2_dropDefault_50 : decode cX2_dropDefault 50 = .ok (.getfield 25, 3) := by decide +kernel
theorem dX2_dropDefault_53 : decode cX2_dropDefault 53 = .ok (.bipush 6, 2) := by decide +kernel
theorem dX2_dropDefault_55 : decode cX2_dropDefault 55 = .ok (.iload_n 1, 1) := by decide +kernel
theorem dX2_dropDefault_56 : decode cX2_dropDefault 56 = .ok (.imul, 1) := by decide +kernel
theorem dX2_dropDefault_57 : decode cX2_dropDefault 57 = .ok (.aload_n 0, 1) := by decide +kernel
theorem dX2_dropDefault_58 : decode cX2_dropDefault 58 = .ok (.getfield 43, 3) := by decide +kernel
theorem dX2_dropDefault_61 : decode cX2_dropDefault 61 = .ok (.iadd, 1) := by decide +kernel
theorem dX2_dropDefault_62 : decode cX2_dropDefault 62 = .ok (.iconst 0, 1) := by decide +kernel
theorem dX2_dropDefault_63 : decode cX2_dropDefault 63 = .ok (.dup_x2, 1) := by decide +kernel
theorem dX2_dropDefault_64 : decode cX2_dropDefault 64 = .ok (.bastore, 1) := by decide +kernel
theorem dX2_dropDefault_65 : decode cX2_dropDefault 65 = .ok (.bastore, 1) := by decide +kernel
theorem dX2_dropDefault_66 : decode cX2_dropDefault 66 = .ok (.iinc 1 1, 3) := by decide +kernel
theorem dX2_dropDefault_69 : decode cX2_dropDefault 69 = .ok (.goto (-39), 3) := by decide +kernel
theorem dX2_dropDefault_72 : decode cX2_dropDefault 72 = .ok (.aload_n 0, 1) := by decide +kernel
theorem dX2_dropDefault_73 : decode cX2_dropDefault 73 = .ok (.getfield 43, 3) := by decide +kernel
theorem dX2_dropDefault_76 : decode cX2_dropDefault 76 = .ok (.ireturn, 1) := by decide +kernel
set_option maxRecDepth 20000 in
theorem ggX2_leads_X2_leads : GoodIn wsX2_leads wsX2_leads := goodIn_r _ [0, 1, 2, 3, 4, 5, 6, 7, 8, 9, 10, 11, 12, 13, 14, 15, 16, 17, 18, 19, 20, 21] (by decide +kernel) (by decide +kernel)
set_option maxRecDepth 20000 in
theorem gX2_leads_X2_leads : GoodIn wsX2_leads (wsV RX2 63 RX2 yX2_leads wsX2_leads) := goodIn_app (goodIn_of _ (by decide +kernel)) ggX2_leads_X2_leads
theorem dX2_leads_0 : decode cX2_leads 0 = .ok (.aload_n 0, 1) := by decide +kernel
theorem dX2_leads_1 : decode cX2_leads 1 = .ok (.getfield 25, 3) := by decide +kernel
theorem dX2_leads_4 : decode cX2_leads 4 = .ok (.bipush 6, 2) := by decide +kernel
theorem dX2_leads_6 : decode cX2_leads 6 = .ok (.iload_n 1, 1) := by decide +kernel
theorem dX2_leads_7 : decode cX2_leads 7 = .ok (.imul, 1) := by decide +kernel
theorem dX2_leads_8 : decode cX2_leads 8 = .ok (.iload_n 2, 1) := by decide +kernel
theorem dX2_leads_9 : decode cX2_leads 9 = .ok (.iadd, 1) := by decide +kernel
theorem dX2_leads_10 : decode cX2_leads 10 = .ok (.baload, 1) := by decide +kernel
theorem dX2_leads_11 : decode cX2_leads 11 = .ok (.ifCond .eq 5, 3) := by decide +kernel
theorem dX2_leads_14 : decode cX2_leads 14 = .ok (.iconst 1, 1) := by decide +kernel
theorem dX2_leads_15 : decode cX2_leads 15 = .ok (.ireturn, 1) := by decide +kernel
theorem dX2_leads_16 : decode cX2_leads 16 = .ok (.iconst 0, 1) := by decide +kernel
theorem dX2_leads_17 : decode cX2_leads 17 = .ok (.istore 4, 2) := by decide +kernel
theorem dX2_leads_19 : decode cX2_leads 19 = .ok (.iload 4, 2) := by decide +kernel
theorem dX2_leads_21 : decode cX2_leads 21 = .ok (.aload_n 0, 1) := by decide +kernel
theorem dX2_leads_22 : decode cX2_leads 22 = .ok (.getfield 43, 3) := by decide +kernel
theorem dX2_leads_25 : decode cX2_leads 25 = .ok (.if_icmp .ge 44, 3) := by decide +kernel
theorem dX2_leads_28 : decode cX2_leads 28 = .ok (.iload_n 3, 1) := by decide +kernel
theorem dX2_leads_29 : decode cX2_leads 29 = .ok (.iconst 1, 1) := by decide +kernel
theorem dX2_leads_30 : decode cX2_leads 30 = .ok (.if_icmp .le 39, 3) := by decide +kernel
theorem dX2_leads_33 : decode cX2_leads 33 = .ok (.aload_n 0, 1) := by decide +kernel
theorem dX2_leads_34 : decode cX2_leads 34 = .ok (.getfield 25, 3) := by decide +kernel
theorem dX2_leads_37 : decode cX2_leads 37 = .ok (.bipush 6, 2) := by decide +kernel
theorem dX2_leads_39 : decode cX2_leads 39 = .ok (.iload_n 1, 1) := by decide +kernel
theorem dX2_leads_40 : decode cX2_leads 40 = .ok (.imul, 1) := by decide +kernel
theorem dX2_leads_41 : decode cX2_leads 41 = .ok (.iload 4, 2) := by decide +kernel
theorem dX2_leads_43 : decode cX2_leads 43 = .ok (.iadd, 1) := by decide +kernel
theorem dX2_leads_44 : decode cX2_leads 44 = .ok (.baload, 1) := by decide +kernel
theorem dX2_leads_45 : decode cX2_leads 45 = .ok (.ifCond .eq 18, 3) := by decide +kernel
theorem dX2_leads_48 : decode cX2_leads 48 = .ok (.aload_n 0, 1) := by decide +kernel
theorem dX2_leads_49 : decode cX2_leads 49 = .ok (.iload 4, 2) := by decide +kernel
theorem dX2_leads_51 : decode cX2_leads 51 = .ok (.iload_n 2, 1) := by decide +kernel
theorem dX2_leads_52 : decode cX2_leads 52 = .ok (.iload_n 3, 1) := by decide +kernel
theorem dX2_leads_53 : decode cX2_leads 53 = .ok (.iconst 1, 1) := by decide +kernel
theorem dX2_leads_54 : decode cX2_leads 54 = .ok (.isub, 1) := by decide +kernel
theorem dX2_leads_55 : decode cX2_leads 55 = .ok (.invokevirtual 63, 3) := by decide +kernel
theorem dX2_leads_58 : decode cX2_leads 58 = .ok (.ifCond .eq 5, 3) := by decide +kernel
theorem dX2_leads_61 : decode cX2_leads 61 = .ok (.iconst 1, 1) := by decide +kernel
theorem dX2_leads_62 : decode cX2_leads 62 = .ok (.ireturn, 1) := by decide +kernel
theorem dX2_leads_63 : decode cX2_leads 63 = .ok (.iinc 4 1, 3) := by decide +kernel
theorem dX2_leads_66 : decode cX2_leads 66 = .ok (.goto (-47), 3) := by decide +kernel
theorem dX2_leads_69 : decode cX2_leads 69 = .ok (.iconst 0, 1) := by decide +kernel
theorem dX2_leads_70 : decode cX2_leads 70 = .ok (.ireturn, 1) := by decide +kernel
set_option maxRecDepth 20000 in
theorem ggX2_before_X2_leads : GoodIn wsX2_before wsX2_leads := goodIn_r _ [5, 6, 7, 1, 2, 3, 4, 8, 9, 10, 11, 12, 13, 14, 15, 16, 17, 18, 19, 20, 21, 22] (by decide +kernel) (by decide +kernel)
set_option maxRecDepth 20000 in
theorem gX2_before_X2_leads : GoodIn wsX2_before (wsV RX2 63 RX2 yX2_leads wsX2_leads) := goodIn_app (goodIn_of _ (by decide +kernel)) ggX2_before_X2_leads
theorem dX2_before_0 : decode cX2_before 0 = .ok (.aload_n 0, 1) := by decide +kernel
theorem dX2_before_1 : decode cX2_before 1 = .ok (.iload_n 1, 1) := by decide +kernel
theorem dX2_before_2 : decode cX2_before 2 = .ok (.iload_n 2, 1) := by decide +kernel
theorem dX2_before_3 : decode cX2_before 3 = .ok (.bipush 6, 2) := by decide +kernel
theorem dX2_before_5 : decode cX2_before 5 = .ok (.invokevirtual 63, 3) := by decide +kernel
theorem dX2_before_8 : decode cX2_before 8 = .ok (.ireturn, 1) := by decide +kernel
set_option maxRecDepth 20000 in
theorem ggX2_prefer_X2_isDefault : GoodIn wsX2_prefer wsX2_isDefault := goodIn_r _ [7, 8, 17, 18, 19, 20, 21, 22, 23, 24, 25, 26, 27, 28, 29, 30, 31] (by decide +kernel) (by decide +kernel)
set_option maxRecDepth 20000 in
theorem gX2_prefer_X2_isDefault : GoodIn wsX2_prefer (wsV RX2 67 RX2 yX2_isDefault wsX2_isDefault) := goodIn_app (goodIn_of _ (by decide +kernel)) ggX2_prefer_X2_isDefault
set_option maxRecDepth 20000 in
theorem ggX2_prefer_X2_before : GoodIn wsX2_prefer wsX2_before := goodIn_r _ [12, 13, 14, 15, 6, 16, 2, 8, 17, 18, 19, 20, 21, 22, 23, 24, 25, 26, 27, 28, 29, 30, 31] (by decide +kernel) (by decide +kernel)
set_option maxRecDepth 20000 in
theorem gX2_prefer_X2_before : GoodIn wsX2_prefer (wsV RX2 70 RX2 yX2_before wsX2_before) := goodIn_app (goodIn_of _ (by decide +kernel)) ggX2_prefer_X2_before
theorem dX2_prefer_0 : decode cX2_prefer 0 = .ok (.aload_n 0, 1) := by decide +kernel
theorem dX2_prefer_1 : decode cX2_prefer 1 = .ok (.aload_n 0, 1) := by decide +kernel
theorem dX2_prefer_2 : decode cX2_prefer 2 = .ok (.iload_n 1, 1) := by decide +kernel
theorem dX2_prefer_3 : decode cX2_prefer 3 = .ok (.invokevirtual 67, 3) := by decide +kernel
theorem dX2_prefer_6 : decode cX2_prefer 6 = .ok (.ifCond .eq 11, 3) := by decide +kernel
theorem dX2_prefer_9 : decode cX2_prefer 9 = .ok (.aload_n 0, 1) := by decide +kernel
theorem dX2_prefer_10 : decode cX2_prefer 10 = .ok (.iload_n 2, 1) := by decide +kernel
theorem dX2_prefer_11 : decode cX2_prefer 11 = .ok (.invokevirtual 67, 3) := by decide +kernel
theorem dX2_prefer_14 : decode cX2_prefer 14 = .ok (.ifCond .ne 7, 3) := by decide +kernel
theorem dX2_prefer_17 : decode cX2_prefer 17 = .ok (.iconst 1, 1) := by decide +kernel
theorem dX2_prefer_18 : decode cX2_prefer 18 = .ok (.goto 22, 3) := by decide +kernel
theorem dX2_prefer_21 : decode cX2_prefer 21 = .ok (.iload_n 1, 1) := by decide +kernel
theorem dX2_prefer_22 : decode cX2_prefer 22 = .ok (.iload_n 2, 1) := by decide +kernel
theorem dX2_prefer_23 : decode cX2_prefer 23 = .ok (.if_icmp .eq 12, 3) := by decide +kernel
theorem dX2_prefer_26 : decode cX2_prefer 26 = .ok (.aload_n 0, 1) := by decide +kernel
theorem dX2_prefer_27 : decode cX2_prefer 27 = .ok (.iload_n 2, 1) := by decide +kernel
theorem dX2_prefer_28 : decode cX2_prefer 28 = .ok (.iload_n 1, 1) := by decide +kernel
theorem dX2_prefer_29 : decode cX2_prefer 29 = .ok (.invokevirtual 70, 3) := by decide +kernel
theorem dX2_prefer_32 : decode cX2_prefer 32 = .ok (.ifCond .eq 7, 3) := by decide +kernel
theorem dX2_prefer_35 : decode cX2_prefer 35 = .ok (.iconst 2, 1) := by decide +kernel
theorem dX2_prefer_36 : decode cX2_prefer 36 = .ok (.goto 4, 3) := by decide +kernel
theorem dX2_prefer_39 : decode cX2_prefer 39 = .ok (.iconst 0, 1) := by decide +kernel
theorem dX2_prefer_40 : decode cX2_prefer 40 = .ok (.putfield 38, 3) := by decide +kernel
theorem dX2_prefer_43 : decode cX2_prefer 43 = .ok (.aload_n 0, 1) := by decide +kernel
theorem dX2_prefer_44 : decode cX2_prefer 44 = .ok (.getfield 38, 3) := by decide +kernel
theorem dX2_prefer_47 : decode cX2_prefer 47 = .ok (.ifCond .eq 5, 3) := by decide +kernel
theorem dX2_prefer_50 : decode cX2_prefer 50 = .ok (.iconst 0, 1) := by decide +kernel
theorem dX2_prefer_51 : decode cX2_prefer 51 = .ok (.ireturn, 1) := by decide +kernel
theorem dX2_prefer_52 : decode cX2_prefer 52 = .ok (.aload_n 0, 1) := by decide +kernel
theorem dX2_prefer_53 : decode cX2_prefer 53 = .ok (.iload_n 1, 1) := by decide +kernel
theorem dX2_prefer_54 : decode cX2_prefer 54 = .ok (.iload_n 2, 1) := by decide +kernel
theorem dX2_prefer_55 : decode cX2_prefer 55 = .ok (.invokevirtual 70, 3) := by decide +kernel
theorem dX2_prefer_58 : decode cX2_prefer 58 = .ok (.istore_n 3, 1) := by decide +kernel
theorem dX2_prefer_59 : decode cX2_prefer 59 = .ok (.aload_n 0, 1) := by decide +kernel
theorem dX2_prefer_60 : decode cX2_prefer 60 = .ok (.getfield 25, 3) := by decide +kernel
theorem dX2_prefer_63 : decode cX2_prefer 63 = .ok (.bipush 6, 2) := by decide +kernel
theorem dX2_prefer_65 : decode cX2_prefer 65 = .ok (.iload_n 1, 1) := by decide +kernel
theorem dX2_prefer_66 : decode cX2_prefer 66 = .ok (.imul, 1) := by decide +kernel
theorem dX2_prefer_67 : decode cX2_prefer 67 = .ok (.iload_n 2, 1) := by decide +kernel
theorem dX2_prefer_68 : decode cX2_prefer 68 = .ok (.iadd, 1) := by decide +kernel
theorem dX2_prefer_69 : decode cX2_prefer 69 = .ok (.iconst 1, 1) := by decide +kernel
theorem dX2_prefer_70 : decode cX2_prefer 70 = .ok (.bastore, 1) := by decide +kernel
theorem dX2_prefer_71 : decode cX2_prefer 71 = .ok (.iload_n 3, 1) := by decide +kernel
theorem dX2_prefer_72 : decode cX2_prefer 72 = .ok (.ireturn, 1) := by decide +kernel
set_option maxRecDepth 20000 in
theorem ggX2_forgetPriorities_X2_before : GoodIn wsX2_forgetPriorities wsX2_before := goodIn_r _ [8, 9, 10, 11, 7, 12, 3, 2, 13, 14, 15, 16, 17, 18, 19, 20, 21, 22, 23, 24, 25, 26, 27] (by decide +kernel) (by decide +kernel)
set_option maxRecDepth 20000 in
theorem gX2_forgetPriorities_X2_before : GoodIn wsX2_forgetPriorities (wsV RX2 70 RX2 yX2_before wsX2_before) := goodIn_app (goodIn_of _ (by decide +kernel)) ggX2_forgetPriorities_X2_before
theorem dX2_forgetPriorities_0 : decode cX2_forgetPriorities 0 = .ok (.aload_n 0, 1) := by decide +kernel
theorem dX2_forgetPriorities_1 : decode cX2_forgetPriorities 1 = .ok (.iconst 0, 1) := by decide +kernel
theorem dX2_forgetPriorities_2 : decode cX2_forgetPriorities 2 = .ok (.putfield 38, 3) := by decide +kernel
theorem dX2_forgetPriorities_5 : decode cX2_forgetPriorities 5 = .ok (.iconst 0, 1) := by decide +kernel
theorem dX2_forgetPriorities_6 : decode cX2_forgetPriorities 6 = .ok (.istore_n 1, 1) := by decide +kernel
theorem dX2_forgetPriorities_7 : decode cX2_forgetPriorities 7 = .ok (.iconst 0, 1) := by decide +kernel
theorem dX2_forgetPriorities_8 : decode cX2_forgetPriorities 8 = .ok (.istore_n 2, 1) := by decide +kernel
theorem dX2_forgetPriorities_9 : decode cX2_forgetPriorities 9 = .ok (.iload_n 2, 1) := by decide +kernel
theorem dX2_forgetPriorities_10 : decode cX2_forgetPriorities 10 = .ok (.aload_n 0, 1) := by decide +kernel
theorem dX2_forgetPriorities_11 : decode cX2_forgetPriorities 11 = .ok (.getfield 43, 3) := by decide +kernel
theorem dX2_forgetPriorities_14 : decode cX2_forgetPriorities 14 = .ok (.if_icmp .ge 42, 3) := by decide +kernel
theorem dX2_forgetPriorities_17 : decode cX2_forgetPriorities 17 = .ok (.iconst 0, 1) := by decide +kernel
theorem dX2_forgetPriorities_18 : decode cX2_forgetPriorities 18 = .ok (.istore_n 3, 1) := by decide +kernel
theorem dX2_forgetPriorities_19 : decode cX2_forgetPriorities 19 = .ok (.iload_n 3, 1) := by decide +kernel
theorem dX2_forgetPriorities_20 : decode cX2_forgetPriorities 20 = .ok (.aload_n 0, 1) := by decide +kernel
theorem dX2_forgetPriorities_21 : decode cX2_forgetPriorities 21 = .ok (.getfield 43, 3) := by decide +kernel
theorem dX2_forgetPriorities_24 : decode cX2_forgetPriorities 24 = .ok (.if_icmp .ge 26, 3) := by decide +kernel
theorem dX2_forgetPriorities_27 : decode cX2_forgetPriorities 27 = .ok (.iload_n 1, 1) := by decide +kernel
theorem dX2_forgetPriorities_28 : decode cX2_forgetPriorities 28 = .ok (.aload_n 0, 1) := by decide +kernel
theorem dX2_forgetPriorities_29 : decode cX2_forgetPriorities 29 = .ok (.iload_n 2, 1) := by decide +kernel
theorem dX2_forgetPriorities_30 : decode cX2_forgetPriorities 30 = .ok (.iload_n 3, 1) := by decide +kernel
theorem dX2_forgetPriorities_31 : decode cX2_forgetPriorities 31 = .ok (.invokevirtual 70, 3) := by decide +kernel
theorem dX2_forgetPriorities_34 : decode cX2_forgetPriorities 34 = .ok (.ifCond .eq 7, 3) := by decide +kernel
theorem dX2_forgetPriorities_37 : decode cX2_forgetPriorities 37 = .ok (.iconst 1, 1) := by decide +kernel
theorem dX2_forgetPriorities_38 : decode cX2_forgetPriorities 38 = .ok (.goto 4, 3) := by decide +kernel
theorem dX2_forgetPriorities_41 : decode cX2_forgetPriorities 41 = .ok (.iconst 0, 1) := by decide +kernel
theorem dX2_forgetPriorities_42 : decode cX2_forgetPriorities 42 = .ok (.iadd, 1) := by decide +kernel
theorem dX2_forgetPriorities_43 : decode cX2_forgetPriorities 43 = .ok (.istore_n 1, 1) := by decide +kernel
theorem dX2_forgetPriorities_44 : decode cX2_forgetPriorities 44 = .ok (.iinc 3 1, 3) := by decide +kernel
theorem dX2_forgetPriorities_47 : decode cX2_forgetPriorities 47 = .ok (.goto (-28), 3) := by decide +kernel
theorem dX2_forgetPriorities_50 : decode cX2_forgetPriorities 50 = .ok (.iinc 2 1, 3) := by decide +kernel
theorem dX2_forgetPriorities_53 : decode cX2_forgetPriorities 53 = .ok (.goto (-44), 3) := by decide +kernel
theorem dX2_forgetPriorities_56 : decode cX2_forgetPriorities 56 = .ok (.iconst 0, 1) := by decide +kernel
theorem dX2_forgetPriorities_57 : decode cX2_forgetPriorities 57 = .ok (.istore_n 2, 1) := by decide +kernel
theorem dX2_forgetPriorities_58 : decode cX2_forgetPriorities 58 = .ok (.iload_n 2, 1) := by decide +kernel
theorem dX2_forgetPriorities_59 : decode cX2_forgetPriorities 59 = .ok (.bipush 36, 2) := by decide +kernel
theorem dX2_forgetPriorities_61 : decode cX2_forgetPriorities 61 = .ok (.if_icmp .ge 16, 3) := by decide +kernel
theorem dX2_forgetPriorities_64 : decode cX2_forgetPriorities 64 = .ok (.aload_n 0, 1) := by decide +kernel
theorem dX2_forgetPriorities_65 : decode cX2_forgetPriorities 65 = .ok (.getfield 25, 3) := by decide +kernel
theorem dX2_forgetPriorities_68 : decode cX2_forgetPriorities 68 = .ok (.iload_n 2, 1) := by decide +kernel
theorem dX2_forgetPriorities_69 : decode cX2_forgetPriorities 69 = .ok (.iconst 0, 1) := by decide +kernel
theorem dX2_forgetPriorities_70 : decode cX2_forgetPriorities 70 = .ok (.bastore, 1) := by decide +kernel
theorem dX2_forgetPriorities_71 : decode cX2_forgetPriorities 71 = .ok (.iinc 2 1, 3) := by decide +kernel
theorem dX2_forgetPriorities_74 : decode cX2_forgetPriorities 74 = .ok (.goto (-16), 3) := by decide +kernel
theorem dX2_forgetPriorities_77 : decode cX2_forgetPriorities 77 = .ok (.iload_n 1, 1) := by decide +kernel
theorem dX2_forgetPriorities_78 : decode cX2_forgetPriorities 78 = .ok (.ireturn, 1) := by decide +kernel
set_option maxRecDepth 20000 in
theorem ggX2_isBefore_X2_isDefault : GoodIn wsX2_isBefore wsX2_isDefault := goodIn_r _ [6, 7, 17, 18, 19, 20, 21, 22, 23, 24, 25, 26, 27, 28, 29, 30, 31] (by decide +kernel) (by decide +kernel)
set_option maxRecDepth 20000 in
theorem gX2_isBefore_X2_isDefault : GoodIn wsX2_isBefore (wsV RX2 67 RX2 yX2_isDefault wsX2_isDefault) := goodIn_app (goodIn_of _ (by decide +kernel)) ggX2_isBefore_X2_isDefault
set_option maxRecDepth 20000 in
theorem ggX2_isBefore_X2_before : GoodIn wsX2_isBefore wsX2_before := goodIn_r _ [11, 12, 13, 14, 5, 15, 16, 7, 17, 18, 19, 20, 21, 22, 23, 24, 25, 26, 27, 28, 29, 30, 31] (by decide +kernel) (by decide +kernel)
set_option maxRecDepth 20000 in
theorem gX2_isBefore_X2_before : GoodIn wsX2_isBefore (wsV RX2 70 RX2 yX2_before wsX2_before) := goodIn_app (goodIn_of _ (by decide +kernel)) ggX2_isBefore_X2_before
theorem dX2_isBefore_0 : decode cX2_isBefore 0 = .ok (.aload_n 0, 1) := by decide +kernel
theorem dX2_isBefore_1 : decode cX2_isBefore 1 = .ok (.aload_n 0, 1) := by decide +kernel
theorem dX2_isBefore_2 : decode cX2_isBefore 2 = .ok (.iload_n 1, 1) := by decide +kernel
theorem dX2_isBefore_3 : decode cX2_isBefore 3 = .ok (.invokevirtual 67, 3) := by decide +kernel
theorem dX2_isBefore_6 : decode cX2_isBefore 6 = .ok (.ifCond .eq 15, 3) := by decide +kernel
theorem dX2_isBefore_9 : decode cX2_isBefore 9 = .ok (.aload_n 0, 1) := by decide +kernel
theorem dX2_isBefore_10 : decode cX2_isBefore 10 = .ok (.iload_n 2, 1) := by decide +kernel
theorem dX2_isBefore_11 : decode cX2_isBefore 11 = .ok (.invokevirtual 67, 3) := by decide +kernel
theorem dX2_isBefore_14 : decode cX2_isBefore 14 = .ok (.ifCond .eq 7, 3) := by decide +kernel
theorem dX2_isBefore_17 : decode cX2_isBefore 17 = .ok (.iconst 0, 1) := by decide +kernel
theorem dX2_isBefore_18 : decode cX2_isBefore 18 = .ok (.goto 4, 3) := by decide +kernel
theorem dX2_isBefore_21 : decode cX2_isBefore 21 = .ok (.iconst 1, 1) := by decide +kernel
theorem dX2_isBefore_22 : decode cX2_isBefore 22 = .ok (.putfield 38, 3) := by decide +kernel
theorem dX2_isBefore_25 : decode cX2_isBefore 25 = .ok (.aload_n 0, 1) := by decide +kernel
theorem dX2_isBefore_26 : decode cX2_isBefore 26 = .ok (.getfield 38, 3) := by decide +kernel
theorem dX2_isBefore_29 : decode cX2_isBefore 29 = .ok (.ifCond .ne 16, 3) := by decide +kernel
theorem dX2_isBefore_32 : decode cX2_isBefore 32 = .ok (.aload_n 0, 1) := by decide +kernel
theorem dX2_isBefore_33 : decode cX2_isBefore 33 = .ok (.iload_n 1, 1) := by decide +kernel
theorem dX2_isBefore_34 : decode cX2_isBefore 34 = .ok (.iload_n 2, 1) := by decide +kernel
theorem dX2_isBefore_35 : decode cX2_isBefore 35 = .ok (.invokevirtual 70, 3) := by decide +kernel
theorem dX2_isBefore_38 : decode cX2_isBefore 38 = .ok (.ifCond .eq 7, 3) := by decide +kernel
theorem dX2_isBefore_41 : decode cX2_isBefore 41 = .ok (.iconst 1, 1) := by decide +kernel
theorem dX2_isBefore_42 : decode cX2_isBefore 42 = .ok (.goto 4, 3) := by decide +kernel
theorem dX2_isBefore_45 : decode cX2_isBefore 45 = .ok (.iconst 0, 1) := by decide +kernel
theorem dX2_isBefore_46 : decode cX2_isBefore 46 = .ok (.ireturn, 1) := by decide +kernel
theorem dX2_facts_0 : decode cX2_facts 0 = .ok (.aload_n 0, 1) := by decide +kernel
theorem dX2_facts_1 : decode cX2_facts 1 = .ok (.iconst 0, 1) := by decide +kernel
theorem dX2_facts_2 : decode cX2_facts 2 = .ok (.putfield 38, 3) := by decide +kernel
theorem dX2_facts_5 : decode cX2_facts 5 = .ok (.aload_n 0, 1) := by decide +kernel
theorem dX2_facts_6 : decode cX2_facts 6 = .ok (.getfield 50, 3) := by decide +kernel
theorem dX2_facts_9 : decode cX2_facts 9 = .ok (.ireturn, 1) := by decide +kernel
theorem dX2_defaultCount_0 : decode cX2_defaultCount 0 = .ok (.aload_n 0, 1) := by decide +kernel
theorem dX2_defaultCount_1 : decode cX2_defaultCount 1 = .ok (.iconst 0, 1) := by decide +kernel
theorem dX2_defaultCount_2 : decode cX2_defaultCount 2 = .ok (.putfield 38, 3) := by decide +kernel
theorem dX2_defaultCount_5 : decode cX2_defaultCount 5 = .ok (.aload_n 0, 1) := by decide +kernel
theorem dX2_defaultCount_6 : decode cX2_defaultCount 6 = .ok (.getfield 43, 3) := by decide +kernel
theorem dX2_defaultCount_9 : decode cX2_defaultCount 9 = .ok (.ireturn, 1) := by decide +kernel
theorem dX2_complements_0 : decode cX2_complements 0 = .ok (.iload_n 0, 1) := by decide +kernel
theorem dX2_complements_1 : decode cX2_complements 1 = .ok (.bipush 8, 2) := by decide +kernel
theorem dX2_complements_3 : decode cX2_complements 3 = .ok (.ishr, 1) := by decide +kernel
theorem dX2_complements_4 : decode cX2_complements 4 = .ok (.iload_n 0, 1) := by decide +kernel
theorem dX2_complements_5 : decode cX2_complements 5 = .ok (.sipush 255, 3) := by decide +kernel
theorem dX2_complements_8 : decode cX2_complements 8 = .ok (.iand, 1) := by decide +kernel
theorem dX2_complements_9 : decode cX2_complements 9 = .ok (.bipush 8, 2) := by decide +kernel
theorem dX2_complements_11 : decode cX2_complements 11 = .ok (.ishl, 1) := by decide +kernel
theorem dX2_complements_12 : decode cX2_complements 12 = .ok (.ior, 1) := by decide +kernel
theorem dX2_complements_13 : decode cX2_complements 13 = .ok (.ireturn, 1) := by decide +kernel
set_option maxRecDepth 20000 in
theorem ggX2_close_X2_complements : GoodIn wsX2_close wsX2_complements := goodIn_r _ [8] (by decide +kernel) (by decide +kernel)
set_option maxRecDepth 20000 in
theorem gX2_close_X2_complements : GoodIn wsX2_close (va_wsS RX2 74 yX2_complements wsX2_complements) := goodIn_app (goodIn_of _ (by decide +kernel)) ggX2_close_X2_complements
theorem dX2_close_0 : decode cX2_close 0 = .ok (.iload_n 1, 1) := by decide +kernel
theorem dX2_close_1 : decode cX2_close 1 = .ok (.istore_n 2, 1) := by decide +kernel
theorem dX2_close_2 : decode cX2_close 2 = .ok (.iconst (-1), 1) := by decide +kernel
theorem dX2_close_3 : decode cX2_close 3 = .ok (.istore_n 3, 1) := by decide +kernel
theorem dX2_close_4 : decode cX2_close 4 = .ok (.iload_n 2, 1) := by decide +kernel
theorem dX2_close_5 : decode cX2_close 5 = .ok (.iload_n 3, 1) := by decide +kernel
theorem dX2_close_6 : decode cX2_close 6 = .ok (.if_icmp .eq 52, 3) := by decide +kernel
theorem dX2_close_9 : decode cX2_close 9 = .ok (.iload_n 2, 1) := by decide +kernel
theorem dX2_close_10 : decode cX2_close 10 = .ok (.istore_n 3, 1) := by decide +kernel
theorem dX2_close_11 : decode cX2_close 11 = .ok (.iconst 0, 1) := by decide +kernel
theorem dX2_close_12 : decode cX2_close 12 = .ok (.istore 4, 2) := by decide +kernel
theorem dX2_close_14 : decode cX2_close 14 = .ok (.iload 4, 2) := by decide +kernel
theorem dX2_close_16 : decode cX2_close 16 = .ok (.aload_n 0, 1) := by decide +kernel
theorem dX2_close_17 : decode cX2_close 17 = .ok (.getfield 60, 3) := by decide +kernel
theorem dX2_close_20 : decode cX2_close 20 = .ok (.if_icmp .ge 35, 3) := by decide +kernel
theorem dX2_close_23 : decode cX2_close 23 = .ok (.aload_n 0, 1) := by decide +kernel
theorem dX2_close_24 : decode cX2_close 24 = .ok (.getfield 9, 3) := by decide +kernel
theorem dX2_close_27 : decode cX2_close 27 = .ok (.iload 4, 2) := by decide +kernel
theorem dX2_close_29 : decode cX2_close 29 = .ok (.iaload, 1) := by decide +kernel
theorem dX2_close_30 : decode cX2_close 30 = .ok (.iload_n 2, 1) := by decide +kernel
theorem dX2_close_31 : decode cX2_close 31 = .ok (.iconst (-1), 1) := by decide +kernel
theorem dX2_close_32 : decode cX2_close 32 = .ok (.ixor, 1) := by decide +kernel
theorem dX2_close_33 : decode cX2_close 33 = .ok (.iand, 1) := by decide +kernel
theorem dX2_close_34 : decode cX2_close 34 = .ok (.ifCond .ne 15, 3) := by decide +kernel
theorem dX2_close_37 : decode cX2_close 37 = .ok (.iload_n 2, 1) := by decide +kernel
theorem dX2_close_38 : decode cX2_close 38 = .ok (.iconst 1, 1) := by decide +kernel
theorem dX2_close_39 : decode cX2_close 39 = .ok (.aload_n 0, 1) := by decide +kernel
theorem dX2_close_40 : decode cX2_close 40 = .ok (.getfield 13, 3) := by decide +kernel
theorem dX2_close_43 : decode cX2_close 43 = .ok (.iload 4, 2) := by decide +kernel
theorem dX2_close_45 : decode cX2_close 45 = .ok (.iaload, 1) := by decide +kernel
theorem dX2_close_46 : decode cX2_close 46 = .ok (.ishl, 1) := by decide +kernel
theorem dX2_close_47 : decode cX2_close 47 = .ok (.ior, 1) := by decide +kernel
theorem dX2_close_48 : decode cX2_close 48 = .ok (.istore_n 2, 1) := by decide +kernel
theorem dX2_close_49 : decode cX2_close 49 = .ok (.iinc 4 1, 3) := by decide +kernel
theorem dX2_close_52 : decode cX2_close 52 = .ok (.goto (-38), 3) := by decide +kernel
theorem dX2_close_55 : decode cX2_close 55 = .ok (.goto (-51), 3) := by decide +kernel
theorem dX2_close_58 : decode cX2_close 58 = .ok (.iload_n 2, 1) := by decide +kernel
theorem dX2_close_59 : decode cX2_close 59 = .ok (.iload_n 2, 1) := by decide +kernel
theorem dX2_close_60 : decode cX2_close 60 = .ok (.invokestatic 74, 3) := by decide +kernel
theorem dX2_close_63 : decode cX2_close 63 = .ok (.iand, 1) := by decide +kernel
theorem dX2_close_64 : decode cX2_close 64 = .ok (.ifCond .ne 7, 3) := by decide +kernel
theorem dX2_close_67 : decode cX2_close 67 = .ok (.iload_n 2, 1) := by decide +kernel
theorem dX2_close_68 : decode cX2_close 68 = .ok (.goto 5, 3) := by decide +kernel
theorem dX2_close_71 : decode cX2_close 71 = .ok (.ldc 42, 2) := by decide +kernel
theorem dX2_close_73 : decode cX2_close 73 = .ok (.ireturn, 1) := by decide +kernel
set_option maxRecDepth 20000 in
theorem ggX2_open_X2_complements : GoodIn wsX2_open wsX2_complements := goodIn_r _ [5] (by decide +kernel) (by decide +kernel)
set_option maxRecDepth 20000 in
theorem gX2_open_X2_complements : GoodIn wsX2_open (va_wsS RX2 74 yX2_complements wsX2_complements) := goodIn_app (goodIn_of _ (by decide +kernel)) ggX2_open_X2_complements
theorem dX2_open_0 : decode cX2_open 0 = .ok (.aload_n 0, 1) := by decide +kernel
theorem dX2_open_1 : decode cX2_open 1 = .ok (.getfield 19, 3) := by decide +kernel
theorem dX2_open_4 : decode cX2_open 4 = .ok (.iload_n 1, 1) := by decide +kernel
theorem dX2_open_5 : decode cX2_open 5 = .ok (.iaload, 1) := by decide +kernel
theorem dX2_open_6 : decode cX2_open 6 = .ok (.invokestatic 74, 3) := by decide +kernel
theorem dX2_open_9 : decode cX2_open 9 = .ok (.iload_n 2, 1) := by decide +kernel
theorem dX2_open_10 : decode cX2_open 10 = .ok (.iand, 1) := by decide +kernel
theorem dX2_open_11 : decode cX2_open 11 = .ok (.ifCond .ne 7, 3) := by decide +kernel
theorem dX2_open_14 : decode cX2_open 14 = .ok (.iconst 1, 1) := by decide +kernel
theorem dX2_open_15 : decode cX2_open 15 = .ok (.goto 4, 3) := by decide +kernel
theorem dX2_open_18 : decode cX2_open 18 = .ok (.iconst 0, 1) := by decide +kernel
theorem dX2_open_19 : decode cX2_open 19 = .ok (.ireturn, 1) := by decide +kernel
set_option maxRecDepth 20000 in
theorem ggX2_consequences_X2_close : GoodIn wsX2_consequences wsX2_close := goodIn_r _ [8, 9, 10, 11, 12, 13, 14, 7, 15, 16, 17, 18, 19, 20, 21, 22, 23, 24, 25, 26, 27, 28, 29, 30] (by decide +kernel) (by decide +kernel)
set_option maxRecDepth 20000 in
theorem gX2_consequences_X2_close : GoodIn wsX2_consequences (wsV RX2 77 RX2 yX2_close wsX2_close) := goodIn_app (goodIn_of _ (by decide +kernel)) ggX2_consequences_X2_close
theorem dX2_consequences_0 : decode cX2_consequences 0 = .ok (.aload_n 0, 1) := by decide +kernel
theorem dX2_consequences_1 : decode cX2_consequences 1 = .ok (.getfield 50, 3) := by decide +kernel
theorem dX2_consequences_4 : decode cX2_consequences 4 = .ok (.istore_n 2, 1) := by decide +kernel
theorem dX2_consequences_5 : decode cX2_consequences 5 = .ok (.iconst 0, 1) := by decide +kernel
theorem dX2_consequences_6 : decode cX2_consequences 6 = .ok (.istore_n 3, 1) := by decide +kernel
theorem dX2_consequences_7 : decode cX2_consequences 7 = .ok (.iload_n 3, 1) := by decide +kernel
theorem dX2_consequences_8 : decode cX2_consequences 8 = .ok (.aload_n 0, 1) := by decide +kernel
theorem dX2_consequences_9 : decode cX2_consequences 9 = .ok (.getfield 43, 3) := by decide +kernel
theorem dX2_consequences_12 : decode cX2_consequences 12 = .ok (.if_icmp .ge 29, 3) := by decide +kernel
theorem dX2_consequences_15 : decode cX2_consequences 15 = .ok (.iload_n 1, 1) := by decide +kernel
theorem dX2_consequences_16 : decode cX2_consequences 16 = .ok (.iload_n 3, 1) := by decide +kernel
theorem dX2_consequences_17 : decode cX2_consequences 17 = .ok (.ishr, 1) := by decide +kernel
theorem dX2_consequences_18 : decode cX2_consequences 18 = .ok (.iconst 1, 1) := by decide +kernel
theorem dX2_consequences_19 : decode cX2_consequences 19 = .ok (.iand, 1) := by decide +kernel
theorem dX2_consequences_20 : decode cX2_consequences 20 = .ok (.iconst 1, 1) := by decide +kernel
theorem dX2_consequences_21 : decode cX2_consequences 21 = .ok (.if_icmp .ne 14, 3) := by decide +kernel
theorem dX2_consequences_24 : decode cX2_consequences 24 = .ok (.iload_n 2, 1) := by decide +kernel
theorem dX2_consequences_25 : decode cX2_consequences 25 = .ok (.iconst 1, 1) := by decide +kernel
theorem dX2_consequences_26 : decode cX2_consequences 26 = .ok (.aload_n 0, 1) := by decide +kernel
theorem dX2_consequences_27 : decode cX2_consequences 27 = .ok (.getfield 22, 3) := by decide +kernel
theorem dX2_consequences_30 : decode cX2_consequences 30 = .ok (.iload_n 3, 1) := by decide +kernel
theorem dX2_consequences_31 : decode cX2_consequences 31 = .ok (.iaload, 1) := by decide +kernel
theorem dX2_consequences_32 : decode cX2_consequences 32 = .ok (.ishl, 1) := by decide +kernel
theorem dX2_consequences_33 : decode cX2_consequences 33 = .ok (.ior, 1) := by decide +kernel
theorem dX2_consequences_34 : decode cX2_consequences 34 = .ok (.istore_n 2, 1) := by decide +kernel
theorem dX2_consequences_35 : decode cX2_consequences 35 = .ok (.iinc 3 1, 3) := by decide +kernel
theorem dX2_consequences_38 : decode cX2_consequences 38 = .ok (.goto (-31), 3) := by decide +kernel
theorem dX2_consequences_41 : decode cX2_consequences 41 = .ok (.aload_n 0, 1) := by decide +kernel
theorem dX2_consequences_42 : decode cX2_consequences 42 = .ok (.iload_n 2, 1) := by decide +kernel
theorem dX2_consequences_43 : decode cX2_consequences 43 = .ok (.invokevirtual 77, 3) := by decide +kernel
theorem dX2_consequences_46 : decode cX2_consequences 46 = .ok (.ireturn, 1) := by decide +kernel
set_option maxRecDepth 20000 in
theorem ggX2_generators_X2_consequences : GoodIn wsX2_generators wsX2_consequences := goodIn_r _ [7, 8, 1, 9, 10, 11, 12, 6, 13, 14, 15, 16, 17, 18, 19, 20, 26, 27, 28, 29, 30, 31, 32, 33, 34, 35, 36, 37, 38, 39, 40] (by decide +kernel) (by decide +kernel)
set_option maxRecDepth 20000 in
theorem gX2_generators_X2_consequences : GoodIn wsX2_generators (wsV RX2 80 RX2 yX2_consequences wsX2_consequences) := goodIn_app (goodIn_of _ (by decide +kernel)) ggX2_generators_X2_consequences
set_option maxRecDepth 20000 in
theorem ggX2_generators_X2_open : GoodIn wsX2_generators wsX2_open := goodIn_r _ [24, 25, 18, 19, 6, 20, 26, 27, 28, 29, 30, 31, 32, 33, 34, 35, 36, 37, 38, 39, 40] (by decide +kernel) (by decide +kernel)
set_option maxRecDepth 20000 in
theorem gX2_generators_X2_open : GoodIn wsX2_generators (wsV RX2 83 RX2 yX2_open wsX2_open) := goodIn_app (goodIn_of _ (by decide +kernel)) ggX2_generators_X2_open
theorem dX2_generators_0 : decode cX2_generators 0 = .ok (.iconst 0, 1) := by decide +kernel
theorem dX2_generators_1 : decode cX2_generators 1 = .ok (.istore_n 2, 1) := by decide +kernel
theorem dX2_generators_2 : decode cX2_generators 2 = .ok (.iconst (-1), 1) := by decide +kernel
theorem dX2_generators_3 : decode cX2_generators 3 = .ok (.istore_n 3, 1) := by decide +kernel
theorem dX2_generators_4 : decode cX2_generators 4 = .ok (.iload_n 2, 1) := by decide +kernel
theorem dX2_generators_5 : decode cX2_generators 5 = .ok (.iload_n 3, 1) := by decide +kernel
theorem dX2_generators_6 : decode cX2_generators 6 = .ok (.if_icmp .eq 65, 3) := by decide +kernel
theorem dX2_generators_9 : decode cX2_generators 9 = .ok (.iload_n 2, 1) := by decide +kernel
theorem dX2_generators_10 : decode cX2_generators 10 = .ok (.istore_n 3, 1) := by decide +kernel
theorem dX2_generators_11 : decode cX2_generators 11 = .ok (.aload_n 0, 1) := by decide +kernel
theorem dX2_generators_12 : decode cX2_generators 12 = .ok (.iload_n 2, 1) := by decide +kernel
theorem dX2_generators_13 : decode cX2_generators 13 = .ok (.invokevirtual 80, 3) := by decide +kernel
theorem dX2_generators_16 : decode cX2_generators 16 = .ok (.istore 4, 2) := by decide +kernel
theorem dX2_generators_18 : decode cX2_generators 18 = .ok (.iconst 0, 1) := by decide +kernel
theorem dX2_generators_19 : decode cX2_generators 19 = .ok (.istore 5, 2) := by decide +kernel
theorem dX2_generators_21 : decode cX2_generators 21 = .ok (.iload 5, 2) := by decide +kernel
theorem dX2_generators_23 : decode cX2_generators 23 = .ok (.aload_n 0, 1) := by decide +kernel
theorem dX2_generators_24 : decode cX2_generators 24 = .ok (.getfield 43, 3) := by decide +kernel
theorem dX2_generators_27 : decode cX2_generators 27 = .ok (.if_icmp .ge 41, 3) := by decide +kernel
theorem dX2_generators_30 : decode cX2_generators 30 = .ok (.aload_n 0, 1) := by decide +kernel
theorem dX2_generators_31 : decode cX2_generators 31 = .ok (.iload 5, 2) := by decide +kernel
theorem dX2_generators_33 : decode cX2_generators 33 = .ok (.iload_n 1, 1) := by decide +kernel
theorem dX2_generators_34 : decode cX2_generators 34 = .ok (.invokevirtual 83, 3) := by decide +kernel
theorem dX2_generators_37 : decode cX2_generators 37 = .ok (.ifCond .eq 25, 3) := by decide +kernel
theorem dX2_generators_40 : decode cX2_generators 40 = .ok (.aload_n 0, 1) := by decide +kernel
theorem dX2_generators_41 : decode cX2_generators 41 = .ok (.getfield 16, 3) := by decide +kernel
theorem dX2_generators_44 : decode cX2_generators 44 = .ok (.iload 5, 2) := by decide +kernel
theorem dX2_generators_46 : decode cX2_generators 46 = .ok (.iaload, 1) := by decide +kernel
theorem dX2_generators_47 : decode cX2_generators 47 = .ok (.iload 4, 2) := by decide +kernel
theorem dX2_generators_49 : decode cX2_generators 49 = .ok (.iconst (-1), 1) := by decide +kernel
theorem dX2_generators_50 : decode cX2_generators 50 = .ok (.ixor, 1) := by decide +kernel
theorem dX2_generators_51 : decode cX2_generators 51 = .ok (.iand, 1) := by decide +kernel
theorem dX2_generators_52 : decode cX2_generators 52 = .ok (.ifCond .ne 10, 3) := by decide +kernel
theorem dX2_generators_55 : decode cX2_generators 55 = .ok (.iload_n 2, 1) := by decide +kernel
theorem dX2_generators_56 : decode cX2_generators 56 = .ok (.iconst 1, 1) := by decide +kernel
theorem dX2_generators_57 : decode cX2_generators 57 = .ok (.iload 5, 2) := by decide +kernel
theorem dX2_generators_59 : decode cX2_generators 59 = .ok (.ishl, 1) := by decide +kernel
theorem dX2_generators_60 : decode cX2_generators 60 = .ok (.ior, 1) := by decide +kernel
theorem dX2_generators_61 : decode cX2_generators 61 = .ok (.istore_n 2, 1) := by decide +kernel
theorem dX2_generators_62 : decode cX2_generators 62 = .ok (.iinc 5 1, 3) := by decide +kernel
theorem dX2_generators_65 : decode cX2_generators 65 = .ok (.goto (-44), 3) := by decide +kernel
theorem dX2_generators_68 : decode cX2_generators 68 = .ok (.goto (-64), 3) := by decide +kernel
theorem dX2_generators_71 : decode cX2_generators 71 = .ok (.iload_n 2, 1) := by decide +kernel
theorem dX2_generators_72 : decode cX2_generators 72 = .ok (.ireturn, 1) := by decide +kernel
set_option maxRecDepth 20000 in
theorem ggX2_isStable_X2_generators : GoodIn wsX2_isStable wsX2_generators := goodIn_r _ [5, 6, 7, 8, 9, 10, 4, 11, 12, 13, 14, 15, 16, 17, 18, 19, 20, 21, 22, 23, 24, 25, 26, 27, 28, 29, 30, 31, 32, 33, 34, 35, 36, 37, 38, 39, 40, 41, 42, 43, 44] (by decide +kernel) (by decide +kernel)
set_option maxRecDepth 20000 in
theorem gX2_isStable_X2_generators : GoodIn wsX2_isStable (wsV RX2 86 RX2 yX2_generators wsX2_generators) := goodIn_app (goodIn_of _ (by decide +kernel)) ggX2_isStable_X2_generators
set_option maxRecDepth 20000 in
theorem ggX2_isStable_X2_consequences : GoodIn wsX2_isStable wsX2_consequences := goodIn_r _ [11, 12, 6, 13, 14, 15, 16, 4, 17, 18, 19, 20, 21, 22, 23, 24, 30, 31, 32, 33, 34, 35, 36, 37, 38, 39, 40, 41, 42, 43, 44] (by decide +kernel) (by decide +kernel)
set_option maxRecDepth 20000 in
theorem gX2_isStable_X2_consequences : GoodIn wsX2_isStable (wsV RX2 80 RX2 yX2_consequences wsX2_consequences) := goodIn_app (goodIn_of _ (by decide +kernel)) ggX2_isStable_X2_consequences
theorem dX2_isStable_0 : decode cX2_isStable 0 = .ok (.aload_n 0, 1) := by decide +kernel
theorem dX2_isStable_1 : decode cX2_isStable 1 = .ok (.aload_n 0, 1) := by decide +kernel
theorem dX2_isStable_2 : decode cX2_isStable 2 = .ok (.iload_n 1, 1) := by decide +kernel
theorem dX2_isStable_3 : decode cX2_isStable 3 = .ok (.invokevirtual 86, 3) := by decide +kernel
theorem dX2_isStable_6 : decode cX2_isStable 6 = .ok (.invokevirtual 80, 3) := by decide +kernel
theorem dX2_isStable_9 : decode cX2_isStable 9 = .ok (.iload_n 1, 1) := by decide +kernel
theorem dX2_isStable_10 : decode cX2_isStable 10 = .ok (.if_icmp .ne 7, 3) := by decide +kernel
theorem dX2_isStable_13 : decode cX2_isStable 13 = .ok (.iconst 1, 1) := by decide +kernel
theorem dX2_isStable_14 : decode cX2_isStable 14 = .ok (.goto 4, 3) := by decide +kernel
theorem dX2_isStable_17 : decode cX2_isStable 17 = .ok (.iconst 0, 1) := by decide +kernel
theorem dX2_isStable_18 : decode cX2_isStable 18 = .ok (.ireturn, 1) := by decide +kernel
set_option maxRecDepth 20000 in
theorem ggX2_closure_X2_isSet : GoodIn wsX2_closure wsX2_isSet := goodIn_r _ [5, 6] (by decide +kernel) (by decide +kernel)
set_option maxRecDepth 20000 in
theorem gX2_closure_X2_isSet : GoodIn wsX2_closure (va_wsS RX2 57 yX2_isSet wsX2_isSet) := goodIn_app (goodIn_of _ (by decide +kernel)) ggX2_closure_X2_isSet
set_option maxRecDepth 20000 in
theorem ggX2_closure_X2_close : GoodIn wsX2_closure wsX2_close := goodIn_r _ [10, 11, 12, 13, 6, 14, 15, 4, 16, 21, 22, 23, 24, 25, 26, 27, 28, 29, 30, 31, 32, 33, 34, 35] (by decide +kernel) (by decide +kernel)
set_option maxRecDepth 20000 in
theorem gX2_closure_X2_close : GoodIn wsX2_closure (wsV RX2 77 RX2 yX2_close wsX2_close) := goodIn_app (goodIn_of _ (by decide +kernel)) ggX2_closure_X2_close
set_option maxRecDepth 20000 in
theorem ggX2_closure_X2_fail : GoodIn wsX2_closure wsX2_fail := goodIn_r _ [20, 1, 21, 22, 23, 24, 25, 26, 27, 28, 29, 30, 31, 32, 33, 34, 35] (by decide +kernel) (by decide +kernel)
set_option maxRecDepth 20000 in
theorem gX2_closure_X2_fail : GoodIn wsX2_closure (wsV RX2 53 RX2 yX2_fail wsX2_fail) := goodIn_app (goodIn_of _ (by decide +kernel)) ggX2_closure_X2_fail
theorem dX2_closure_0 : decode cX2_closure 0 = .ok (.aload_n 0, 1) := by decide +kernel
theorem dX2_closure_1 : decode cX2_closure 1 = .ok (.iconst 0, 1) := by decide +kernel
theorem dX2_closure_2 : decode cX2_closure 2 = .ok (.putfield 38, 3) := by decide +kernel
theorem dX2_closure_5 : decode cX2_closure 5 = .ok (.iload_n 1, 1) := by decide +kernel
theorem dX2_closure_6 : decode cX2_closure 6 = .ok (.invokestatic 57, 3) := by decide +kernel
theorem dX2_closure_9 : decode cX2_closure 9 = .ok (.ifCond .eq 11, 3) := by decide +kernel
theorem dX2_closure_12 : decode cX2_closure 12 = .ok (.aload_n 0, 1) := by decide +kernel
theorem dX2_closure_13 : decode cX2_closure 13 = .ok (.iload_n 1, 1) := by decide +kernel
theorem dX2_closure_14 : decode cX2_closure 14 = .ok (.invokevirtual 77, 3) := by decide +kernel
theorem dX2_closure_17 : decode cX2_closure 17 = .ok (.goto 8, 3) := by decide +kernel
theorem dX2_closure_20 : decode cX2_closure 20 = .ok (.aload_n 0, 1) := by decide +kernel
theorem dX2_closure_21 : decode cX2_closure 21 = .ok (.iconst 1, 1) := by decide +kernel
theorem dX2_closure_22 : decode cX2_closure 22 = .ok (.invokevirtual 53, 3) := by decide +kernel
theorem dX2_closure_25 : decode cX2_closure 25 = .ok (.ireturn, 1) := by decide +kernel
set_option maxRecDepth 20000 in
theorem ggX2_isOpen_X2_isDefault : GoodIn wsX2_isOpen wsX2_isDefault := goodIn_r _ [6, 7, 20, 21, 22, 23, 24, 25, 26, 27, 28, 29, 30, 31, 32, 33, 34] (by decide +kernel) (by decide +kernel)
set_option maxRecDepth 20000 in
theorem gX2_isOpen_X2_isDefault : GoodIn wsX2_isOpen (wsV RX2 67 RX2 yX2_isDefault wsX2_isDefault) := goodIn_app (goodIn_of _ (by decide +kernel)) ggX2_isOpen_X2_isDefault
set_option maxRecDepth 20000 in
theorem ggX2_isOpen_X2_isSet : GoodIn wsX2_isOpen wsX2_isSet := goodIn_r _ [10, 11] (by decide +kernel) (by decide +kernel)
set_option maxRecDepth 20000 in
theorem gX2_isOpen_X2_isSet : GoodIn wsX2_isOpen (va_wsS RX2 57 yX2_isSet wsX2_isSet) := goodIn_app (goodIn_of _ (by decide +kernel)) ggX2_isOpen_X2_isSet
set_option maxRecDepth 20000 in
theorem ggX2_isOpen_X2_open : GoodIn wsX2_isOpen wsX2_open := goodIn_r _ [15, 16, 17, 18, 5, 19, 20, 21, 22, 23, 24, 25, 26, 27, 28, 29, 30, 31, 32, 33, 34] (by decide +kernel) (by decide +kernel)
set_option maxRecDepth 20000 in
theorem gX2_isOpen_X2_open : GoodIn wsX2_isOpen (wsV RX2 83 RX2 yX2_open wsX2_open) := goodIn_app (goodIn_of _ (by decide +kernel)) ggX2_isOpen_X2_open
theorem dX2_isOpen_0 : decode cX2_isOpen 0 = .ok (.aload_n 0, 1) := by decide +kernel
theorem dX2_isOpen_1 : decode cX2_isOpen 1 = .ok (.aload_n 0, 1) := by decide +kernel
theorem dX2_isOpen_2 : decode cX2_isOpen 2 = .ok (.iload_n 1, 1) := by decide +kernel
theorem dX2_isOpen_3 : decode cX2_isOpen 3 = .ok (.invokevirtual 67, 3) := by decide +kernel
theorem dX2_isOpen_6 : decode cX2_isOpen 6 = .ok (.ifCond .ne 7, 3) := by decide +kernel
theorem dX2_isOpen_9 : decode cX2_isOpen 9 = .ok (.iconst 1, 1) := by decide +kernel
theorem dX2_isOpen_10 : decode cX2_isOpen 10 = .ok (.goto 15, 3) := by decide +kernel
theorem dX2_isOpen_13 : decode cX2_isOpen 13 = .ok (.iload_n 2, 1) := by decide +kernel
theorem dX2_isOpen_14 : decode cX2_isOpen 14 = .ok (.invokestatic 57, 3) := by decide +kernel
theorem dX2_isOpen_17 : decode cX2_isOpen 17 = .ok (.ifCond .ne 7, 3) := by decide +kernel
theorem dX2_isOpen_20 : decode cX2_isOpen 20 = .ok (.iconst 2, 1) := by decide +kernel
theorem dX2_isOpen_21 : decode cX2_isOpen 21 = .ok (.goto 4, 3) := by decide +kernel
theorem dX2_isOpen_24 : decode cX2_isOpen 24 = .ok (.iconst 0, 1) := by decide +kernel
theorem dX2_isOpen_25 : decode cX2_isOpen 25 = .ok (.putfield 38, 3) := by decide +kernel
theorem dX2_isOpen_28 : decode cX2_isOpen 28 = .ok (.aload_n 0, 1) := by decide +kernel
theorem dX2_isOpen_29 : decode cX2_isOpen 29 = .ok (.getfield 38, 3) := by decide +kernel
theorem dX2_isOpen_32 : decode cX2_isOpen 32 = .ok (.ifCond .ne 16, 3) := by decide +kernel
theorem dX2_isOpen_35 : decode cX2_isOpen 35 = .ok (.aload_n 0, 1) := by decide +kernel
theorem dX2_isOpen_36 : decode cX2_isOpen 36 = .ok (.iload_n 1, 1) := by decide +kernel
theorem dX2_isOpen_37 : decode cX2_isOpen 37 = .ok (.iload_n 2, 1) := by decide +kernel
theorem dX2_isOpen_38 : decode cX2_isOpen 38 = .ok (.invokevirtual 83, 3) := by decide +kernel
theorem dX2_isOpen_41 : decode cX2_isOpen 41 = .ok (.ifCond .eq 7, 3) := by decide +kernel
theorem dX2_isOpen_44 : decode cX2_isOpen 44 = .ok (.iconst 1, 1) := by decide +kernel
theorem dX2_isOpen_45 : decode cX2_isOpen 45 = .ok (.goto 4, 3) := by decide +kernel
theorem dX2_isOpen_48 : decode cX2_isOpen 48 = .ok (.iconst 0, 1) := by decide +kernel
theorem dX2_isOpen_49 : decode cX2_isOpen 49 = .ok (.ireturn, 1) := by decide +kernel
set_option maxRecDepth 20000 in
theorem ggX2_generatorsOf_X2_isSet : GoodIn wsX2_generatorsOf wsX2_isSet := goodIn_r _ [5, 6] (by decide +kernel) (by decide +kernel)
set_option maxRecDepth 20000 in
theorem gX2_generatorsOf_X2_isSet : GoodIn wsX2_generatorsOf (va_wsS RX2 57 yX2_isSet wsX2_isSet) := goodIn_app (goodIn_of _ (by decide +kernel)) ggX2_generatorsOf_X2_isSet
set_option maxRecDepth 20000 in
theorem ggX2_generatorsOf_X2_generators : GoodIn wsX2_generatorsOf wsX2_generators := goodIn_r _ [10, 11, 12, 13, 14, 15, 4, 16, 17, 18, 19, 20, 21, 22, 23, 24, 25, 6, 26, 27, 28, 29, 30, 31, 32, 33, 38, 39, 40, 41, 42, 43, 44, 45, 46, 47, 48, 49, 50, 51, 52] (by decide +kernel) (by decide +kernel)
set_option maxRecDepth 20000 in
theorem gX2_generatorsOf_X2_generators : GoodIn wsX2_generatorsOf (wsV RX2 86 RX2 yX2_generators wsX2_generators) := goodIn_app (goodIn_of _ (by decide +kernel)) ggX2_generatorsOf_X2_generators
set_option maxRecDepth 20000 in
theorem ggX2_generatorsOf_X2_fail : GoodIn wsX2_generatorsOf wsX2_fail := goodIn_r _ [37, 1, 38, 39, 40, 41, 42, 43, 44, 45, 46, 47, 48, 49, 50, 51, 52] (by decide +kernel) (by decide +kernel)
set_option maxRecDepth 20000 in
theorem gX2_generatorsOf_X2_fail : GoodIn wsX2_generatorsOf (wsV RX2 53 RX2 yX2_fail wsX2_fail) := goodIn_app (goodIn_of _ (by decide +kernel)) ggX2_generatorsOf_X2_fail
theorem dX2_generatorsOf_0 : decode cX2_generatorsOf 0 = .ok (.aload_n 0, 1) := by decide +kernel
theorem dX2_generatorsOf_1 : decode cX2_generatorsOf 1 = .ok (.iconst 0, 1) := by decide +kernel
theorem dX2_generatorsOf_2 : decode cX2_generatorsOf 2 = .ok (.putfield 38, 3) := by decide +kernel
theorem dX2_generatorsOf_5 : decode cX2_generatorsOf 5 = .ok (.iload_n 1, 1) := by decide +kernel
theorem dX2_generatorsOf_6 : decode cX2_generatorsOf 6 = .ok (.invokestatic 57, 3) := by decide +kernel
theorem dX2_generatorsOf_9 : decode cX2_generatorsOf 9 = .ok (.ifCond .eq 11, 3) := by decide +kernel
theorem dX2_generatorsOf_12 : decode cX2_generatorsOf 12 = .ok (.aload_n 0, 1) := by decide +kernel
theorem dX2_generatorsOf_13 : decode cX2_generatorsOf 13 = .ok (.iload_n 1, 1) := by decide +kernel
theorem dX2_generatorsOf_14 : decode cX2_generatorsOf 14 = .ok (.invokevirtual 86, 3) := by decide +kernel
theorem dX2_generatorsOf_17 : decode cX2_generatorsOf 17 = .ok (.goto 8, 3) := by decide +kernel
theorem dX2_generatorsOf_20 : decode cX2_generatorsOf 20 = .ok (.aload_n 0, 1) := by decide +kernel
theorem dX2_generatorsOf_21 : decode cX2_generatorsOf 21 = .ok (.iconst 1, 1) := by decide +kernel
theorem dX2_generatorsOf_22 : decode cX2_generatorsOf 22 = .ok (.invokevirtual 53, 3) := by decide +kernel
theorem dX2_generatorsOf_25 : decode cX2_generatorsOf 25 = .ok (.ireturn, 1) := by decide +kernel
set_option maxRecDepth 20000 in
theorem ggX2_isExtension_X2_isSet : GoodIn wsX2_isExtension wsX2_isSet := goodIn_r _ [5, 6] (by decide +kernel) (by decide +kernel)
set_option maxRecDepth 20000 in
theorem gX2_isExtension_X2_isSet : GoodIn wsX2_isExtension (va_wsS RX2 57 yX2_isSet wsX2_isSet) := goodIn_app (goodIn_of _ (by decide +kernel)) ggX2_isExtension_X2_isSet
set_option maxRecDepth 20000 in
theorem ggX2_isExtension_X2_isStable : GoodIn wsX2_isExtension wsX2_isStable := goodIn_r _ [10, 11, 12, 13, 4, 14, 15, 16, 17, 18, 19, 20, 21, 22, 23, 24, 25, 26, 27, 28, 29, 6, 30, 31, 32, 33, 34, 35, 36, 37, 38, 39, 40, 41, 42, 43, 44, 45, 46, 47, 48, 49, 50, 51, 52] (by decide +kernel) (by decide +kernel)
set_option maxRecDepth 20000 in
theorem gX2_isExtension_X2_isStable : GoodIn wsX2_isExtension (wsV RX2 89 RX2 yX2_isStable wsX2_isStable) := goodIn_app (goodIn_of _ (by decide +kernel)) ggX2_isExtension_X2_isStable
theorem dX2_isExtension_0 : decode cX2_isExtension 0 = .ok (.aload_n 0, 1) := by decide +kernel
theorem dX2_isExtension_1 : decode cX2_isExtension 1 = .ok (.iload_n 1, 1) := by decide +kernel
theorem dX2_isExtension_2 : decode cX2_isExtension 2 = .ok (.invokestatic 57, 3) := by decide +kernel
theorem dX2_isExtension_5 : decode cX2_isExtension 5 = .ok (.ifCond .eq 7, 3) := by decide +kernel
theorem dX2_isExtension_8 : decode cX2_isExtension 8 = .ok (.iconst 0, 1) := by decide +kernel
theorem dX2_isExtension_9 : decode cX2_isExtension 9 = .ok (.goto 4, 3) := by decide +kernel
theorem dX2_isExtension_12 : decode cX2_isExtension 12 = .ok (.iconst 1, 1) := by decide +kernel
theorem dX2_isExtension_13 : decode cX2_isExtension 13 = .ok (.putfield 38, 3) := by decide +kernel
theorem dX2_isExtension_16 : decode cX2_isExtension 16 = .ok (.aload_n 0, 1) := by decide +kernel
theorem dX2_isExtension_17 : decode cX2_isExtension 17 = .ok (.getfield 38, 3) := by decide +kernel
theorem dX2_isExtension_20 : decode cX2_isExtension 20 = .ok (.ifCond .ne 15, 3) := by decide +kernel
theorem dX2_isExtension_23 : decode cX2_isExtension 23 = .ok (.aload_n 0, 1) := by decide +kernel
theorem dX2_isExtension_24 : decode cX2_isExtension 24 = .ok (.iload_n 1, 1) := by decide +kernel
theorem dX2_isExtension_25 : decode cX2_isExtension 25 = .ok (.invokevirtual 89, 3) := by decide +kernel
theorem dX2_isExtension_28 : decode cX2_isExtension 28 = .ok (.ifCond .eq 7, 3) := by decide +kernel
theorem dX2_isExtension_31 : decode cX2_isExtension 31 = .ok (.iconst 1, 1) := by decide +kernel
theorem dX2_isExtension_32 : decode cX2_isExtension 32 = .ok (.goto 4, 3) := by decide +kernel
theorem dX2_isExtension_35 : decode cX2_isExtension 35 = .ok (.iconst 0, 1) := by decide +kernel
theorem dX2_isExtension_36 : decode cX2_isExtension 36 = .ok (.ireturn, 1) := by decide +kernel
set_option maxRecDepth 20000 in
theorem ggX2_find_X2_consequences : GoodIn wsX2_find wsX2_consequences := goodIn_r _ [8, 9, 2, 10, 11, 12, 13, 7, 14, 15, 16, 17, 18, 19, 20, 21, 32, 33, 34, 35, 36, 37, 38, 39, 40, 41, 42, 43, 44, 45, 46] (by decide +kernel) (by decide +kernel)
set_option maxRecDepth 20000 in
theorem gX2_find_X2_consequences : GoodIn wsX2_find (wsV RX2 80 RX2 yX2_consequences wsX2_consequences) := goodIn_app (goodIn_of _ (by decide +kernel)) ggX2_find_X2_consequences
set_option maxRecDepth 20000 in
theorem ggX2_find_X2_generators : GoodIn wsX2_find wsX2_generators := goodIn_r _ [25, 2, 26, 4, 5, 6, 7, 8, 9, 10, 11, 12, 13, 14, 15, 16, 17, 18, 19, 20, 21, 27, 28, 29, 30, 31, 32, 33, 34, 35, 36, 37, 38, 39, 40, 41, 42, 43, 44, 45, 46] (by decide +kernel) (by decide +kernel)
set_option maxRecDepth 20000 in
theorem gX2_find_X2_generators : GoodIn wsX2_find (wsV RX2 86 RX2 yX2_generators wsX2_generators) := goodIn_app (goodIn_of _ (by decide +kernel)) ggX2_find_X2_generators
theorem dX2_find_0 : decode cX2_find 0 = .ok (.aload_n 0, 1) := by decide +kernel
theorem dX2_find_1 : decode cX2_find 1 = .ok (.iconst 0, 1) := by decide +kernel
theorem dX2_find_2 : decode cX2_find 2 = .ok (.putfield 92, 3) := by decide +kernel
theorem dX2_find_5 : decode cX2_find 5 = .ok (.iconst 0, 1) := by decide +kernel
theorem dX2_find_6 : decode cX2_find 6 = .ok (.istore_n 1, 1) := by decide +kernel
theorem dX2_find_7 : decode cX2_find 7 = .ok (.iload_n 1, 1) := by decide +kernel
theorem dX2_find_8 : decode cX2_find 8 = .ok (.iconst 1, 1) := by decide +kernel
theorem dX2_find_9 : decode cX2_find 9 = .ok (.aload_n 0, 1) := by decide +kernel
theorem dX2_find_10 : decode cX2_find 10 = .ok (.getfield 43, 3) := by decide +kernel
theorem dX2_find_13 : decode cX2_find 13 = .ok (.ishl, 1) := by decide +kernel
theorem dX2_find_14 : decode cX2_find 14 = .ok (.if_icmp .ge 85, 3) := by decide +kernel
theorem dX2_find_17 : decode cX2_find 17 = .ok (.aload_n 0, 1) := by decide +kernel
theorem dX2_find_18 : decode cX2_find 18 = .ok (.iload_n 1, 1) := by decide +kernel
theorem dX2_find_19 : decode cX2_find 19 = .ok (.invokevirtual 80, 3) := by decide +kernel
theorem dX2_find_22 : decode cX2_find 22 = .ok (.istore_n 2, 1) := by decide +kernel
theorem dX2_find_23 : decode cX2_find 23 = .ok (.aload_n 0, 1) := by decide +kernel
theorem dX2_find_24 : decode cX2_find 24 = .ok (.iload_n 2, 1) := by decide +kernel
theorem dX2_find_25 : decode cX2_find 25 = .ok (.invokevirtual 86, 3) := by decide +kernel
theorem dX2_find_28 : decode cX2_find 28 = .ok (.iload_n 1, 1) := by decide +kernel
theorem dX2_find_29 : decode cX2_find 29 = .ok (.if_icmp .eq 6, 3) := by decide +kernel
theorem dX2_find_32 : decode cX2_find 32 = .ok (.goto 61, 3) := by decide +kernel
theorem dX2_find_35 : decode cX2_find 35 = .ok (.aload_n 0, 1) := by decide +kernel
theorem dX2_find_36 : decode cX2_find 36 = .ok (.getfield 92, 3) := by decide +kernel
theorem dX2_find_39 : decode cX2_find 39 = .ok (.istore_n 3, 1) := by decide +kernel
theorem dX2_find_40 : decode cX2_find 40 = .ok (.iload_n 3, 1) := by decide +kernel
theorem dX2_find_41 : decode cX2_find 41 = .ok (.ifCond .le 35, 3) := by decide +kernel
theorem dX2_find_44 : decode cX2_find 44 = .ok (.aload_n 0, 1) := by decide +kernel
theorem dX2_find_45 : decode cX2_find 45 = .ok (.getfield 32, 3) := by decide +kernel
theorem dX2_find_48 : decode cX2_find 48 = .ok (.iload_n 3, 1) := by decide +kernel
theorem dX2_find_49 : decode cX2_find 49 = .ok (.iconst 1, 1) := by decide +kernel
theorem dX2_find_50 : decode cX2_find 50 = .ok (.isub, 1) := by decide +kernel
theorem dX2_find_51 : decode cX2_find 51 = .ok (.iaload, 1) := by decide +kernel
theorem dX2_find_52 : decode cX2_find 52 = .ok (.iload_n 2, 1) := by decide +kernel
theorem dX2_find_53 : decode cX2_find 53 = .ok (.if_icmp .le 23, 3) := by decide +kernel
theorem dX2_find_56 : decode cX2_find 56 = .ok (.aload_n 0, 1) := by decide +kernel
theorem dX2_find_57 : decode cX2_find 57 = .ok (.getfield 32, 3) := by decide +kernel
theorem dX2_find_60 : decode cX2_find 60 = .ok (.iload_n 3, 1) := by decide +kernel
theorem dX2_find_61 : decode cX2_find 61 = .ok (.aload_n 0, 1) := by decide +kernel
theorem dX2_find_62 : decode cX2_find 62 = .ok (.getfield 32, 3) := by decide +kernel
theorem dX2_find_65 : decode cX2_find 65 = .ok (.iload_n 3, 1) := by decide +kernel
theorem dX2_find_66 : decode cX2_find 66 = .ok (.iconst 1, 1) := by decide +kernel
theorem dX2_find_67 : decode cX2_find 67 = .ok (.isub, 1) := by decide +kernel
theorem dX2_find_68 : decode cX2_find 68 = .ok (.iaload, 1) := by decide +kernel
theorem dX2_find_69 : decode cX2_find 69 = .ok (.iastore, 1) := by decide +kernel
theorem dX2_find_70 : decode cX2_find 70 = .ok (.iinc 3 (-1), 3) := by decide +kernel
theorem dX2_find_73 : decode cX2_find 73 = .ok (.goto (-33), 3) := by decide +kernel
theorem dX2_find_76 : decode cX2_find 76 = .ok (.aload_n 0, 1) := by decide +kernel
theorem dX2_find_77 : decode cX2_find 77 = .ok (.getfield 32, 3) := by decide +kernel
theorem dX2_find_80 : decode cX2_find 80 = .ok (.iload_n 3, 1) := by decide +kernel
theorem dX2_find_81 : decode cX2_find 81 = .ok (.iload_n 2, 1) := by decide +kernel
theorem dX2_find_82 : decode cX2_find 82 = .ok (.iastore, 1) := by decide +kernel
theorem dX2_find_83 : decode cX2_find 83 = .ok (.aload_n 0, 1) := by decide +kernel
theorem dX2_find_84 : decode cX2_find 84 = .ok (.dup, 1) := by decide +kernel
theorem dX2_find_85 : decode cX2_find 85 = .ok (.getfield 92, 3) := by decide +kernel
theorem dX2_find_88 : decode cX2_find 88 = .ok (.iconst 1, 1) := by decide +kernel
theorem dX2_find_89 : decode cX2_find 89 = .ok (.iadd, 1) := by decide +kernel
theorem dX2_find_90 : decode cX2_find 90 = .ok (.putfield 92, 3) := by decide +kernel
theorem dX2_find_93 : decode cX2_find 93 = .ok (.iinc 1 1, 3) := by decide +kernel
theorem dX2_find_96 : decode cX2_find 96 = .ok (.goto (-89), 3) := by decide +kernel
theorem dX2_find_99 : decode cX2_find 99 = .ok (.return_, 1) := by decide +kernel
set_option maxRecDepth 20000 in
theorem ggX2_findPreferred_X2_find : GoodIn wsX2_findPreferred wsX2_find := goodIn_r _ [9, 1, 10, 4, 11, 12, 13, 8, 14, 15, 16, 17, 18, 19, 20, 21, 22, 23, 24, 25, 26, 27, 28, 29, 30, 31, 32, 33, 34, 35, 36, 37, 68, 69, 70, 71, 72, 73, 74, 75, 76, 77, 78, 79, 80, 81, 82] (by decide +kernel) (by decide +kernel)
set_option maxRecDepth 20000 in
theorem gX2_findPreferred_X2_find : GoodIn wsX2_findPreferred (wsV RX2 95 RX2 yX2_find wsX2_find) := goodIn_app (goodIn_of _ (by decide +kernel)) ggX2_findPreferred_X2_find
set_option maxRecDepth 20000 in
theorem ggX2_findPreferred_X2_orders : GoodIn wsX2_findPreferred wsX2_orders := goodIn_r _ [41, 10, 68, 69, 70, 71, 72, 73, 74, 75, 76, 77, 78, 79, 80, 81, 82] (by decide +kernel) (by decide +kernel)
set_option maxRecDepth 20000 in
theorem gX2_findPreferred_X2_orders : GoodIn wsX2_findPreferred (wsV RX2 98 RX2 yX2_orders wsX2_orders) := goodIn_app (goodIn_of _ (by decide +kernel)) ggX2_findPreferred_X2_orders
set_option maxRecDepth 20000 in
theorem ggX2_findPreferred_X2_setOrder : GoodIn wsX2_findPreferred wsX2_setOrder := goodIn_r _ [45, 46, 10, 38, 39, 40, 8, 41, 68, 69, 70, 71, 72, 73, 74, 75, 76, 77, 78, 79, 80, 81, 82] (by decide +kernel) (by decide +kernel)
set_option maxRecDepth 20000 in
theorem gX2_findPreferred_X2_setOrder : GoodIn wsX2_findPreferred (wsV RX2 102 RX2 yX2_setOrder wsX2_setOrder) := goodIn_app (goodIn_of _ (by decide +kernel)) ggX2_findPreferred_X2_setOrder
set_option maxRecDepth 20000 in
theorem ggX2_findPreferred_X2_respects : GoodIn wsX2_findPreferred wsX2_respects := goodIn_r _ [50, 10, 51, 52, 53, 8, 54, 55, 56, 57, 58, 59, 68, 69, 70, 71, 72, 73, 74, 75, 76, 77, 78, 79, 80, 81, 82] (by decide +kernel) (by decide +kernel)
set_option maxRecDepth 20000 in
theorem gX2_findPreferred_X2_respects : GoodIn wsX2_findPreferred (wsV RX2 106 RX2 yX2_respects wsX2_respects) := goodIn_app (goodIn_of _ (by decide +kernel)) ggX2_findPreferred_X2_respects
set_option maxRecDepth 20000 in
theorem ggX2_findPreferred_X2_walk : GoodIn wsX2_findPreferred wsX2_walk := goodIn_r _ [63, 15, 16, 17, 18, 19, 8, 20, 21, 22, 23, 24, 25, 26, 27, 64, 65, 66, 67, 10, 32, 33, 34, 35, 36, 37, 68, 69, 70, 71, 72, 73, 74, 75, 76, 77, 78, 79, 80, 81, 82] (by decide +kernel) (by decide +kernel)
set_option maxRecDepth 20000 in
theorem gX2_findPreferred_X2_walk : GoodIn wsX2_findPreferred (wsV RX2 110 RX2 yX2_walk wsX2_walk) := goodIn_app (goodIn_of _ (by decide +kernel)) ggX2_findPreferred_X2_walk
theorem dX2_findPreferred_0 : decode cX2_findPreferred 0 = .ok (.aload_n 0, 1) := by decide +kernel
theorem dX2_findPreferred_1 : decode cX2_findPreferred 1 = .ok (.invokevirtual 95, 3) := by decide +kernel
theorem dX2_findPreferred_4 : decode cX2_findPreferred 4 = .ok (.iconst 0, 1) := by decide +kernel
theorem dX2_findPreferred_5 : decode cX2_findPreferred 5 = .ok (.istore_n 1, 1) := by decide +kernel
theorem dX2_findPreferred_6 : decode cX2_findPreferred 6 = .ok (.iload_n 1, 1) := by decide +kernel
theorem dX2_findPreferred_7 : decode cX2_findPreferred 7 = .ok (.aload_n 0, 1) := by decide +kernel
theorem dX2_findPreferred_8 : decode cX2_findPreferred 8 = .ok (.getfield 92, 3) := by decide +kernel
theorem dX2_findPreferred_11 : decode cX2_findPreferred 11 = .ok (.if_icmp .ge 16, 3) := by decide +kernel
theorem dX2_findPreferred_14 : decode cX2_findPreferred 14 = .ok (.aload_n 0, 1) := by decide +kernel
theorem dX2_findPreferred_15 : decode cX2_findPreferred 15 = .ok (.getfield 35, 3) := by decide +kernel
theorem dX2_findPreferred_18 : decode cX2_findPreferred 18 = .ok (.iload_n 1, 1) := by decide +kernel
theorem dX2_findPreferred_19 : decode cX2_findPreferred 19 = .ok (.iconst 0, 1) := by decide +kernel
theorem dX2_findPreferred_20 : decode cX2_findPreferred 20 = .ok (.bastore, 1) := by decide +kernel
theorem dX2_findPreferred_21 : decode cX2_findPreferred 21 = .ok (.iinc 1 1, 3) := by decide +kernel
theorem dX2_findPreferred_24 : decode cX2_findPreferred 24 = .ok (.goto (-18), 3) := by decide +kernel
theorem dX2_findPreferred_27 : decode cX2_findPreferred 27 = .ok (.bipush 6, 2) := by decide +kernel
theorem dX2_findPreferred_29 : decode cX2_findPreferred 29 = .ok (.newarray .int, 2) := by decide +kernel
theorem dX2_findPreferred_31 : decode cX2_findPreferred 31 = .ok (.astore_n 1, 1) := by decide +kernel
theorem dX2_findPreferred_32 : decode cX2_findPreferred 32 = .ok (.iconst 0, 1) := by decide +kernel
theorem dX2_findPreferred_33 : decode cX2_findPreferred 33 = .ok (.istore_n 2, 1) := by decide +kernel
theorem dX2_findPreferred_34 : decode cX2_findPreferred 34 = .ok (.iload_n 2, 1) := by decide +kernel
theorem dX2_findPreferred_35 : decode cX2_findPreferred 35 = .ok (.aload_n 0, 1) := by decide +kernel
theorem dX2_findPreferred_36 : decode cX2_findPreferred 36 = .ok (.invokevirtual 98, 3) := by decide +kernel
theorem dX2_findPreferred_39 : decode cX2_findPreferred 39 = .ok (.if_icmp .ge 87, 3) := by decide +kernel
theorem dX2_findPreferred_42 : decode cX2_findPreferred 42 = .ok (.aload_n 0, 1) := by decide +kernel
theorem dX2_findPreferred_43 : decode cX2_findPreferred 43 = .ok (.aload_n 1, 1) := by decide +kernel
theorem dX2_findPreferred_44 : decode cX2_findPreferred 44 = .ok (.iload_n 2, 1) := by decide +kernel
theorem dX2_findPreferred_45 : decode cX2_findPreferred 45 = .ok (.invokevirtual 102, 3) := by decide +kernel
theorem dX2_findPreferred_48 : decode cX2_findPreferred 48 = .ok (.aload_n 0, 1) := by decide +kernel
theorem dX2_findPreferred_49 : decode cX2_findPreferred 49 = .ok (.aload_n 1, 1) := by decide +kernel
theorem dX2_findPreferred_50 : decode cX2_findPreferred 50 = .ok (.invokevirtual 106, 3) := by decide +kernel
theorem dX2_findPreferred_53 : decode cX2_findPreferred 53 = .ok (.ifCond .ne 6, 3) := by decide +kernel
theorem dX2_findPreferred_56 : decode cX2_findPreferred 56 = .ok (.goto 64, 3) := by decide +kernel
theorem dX2_findPreferred_59 : decode cX2_findPreferred 59 = .ok (.aload_n 0, 1) := by decide +kernel
theorem dX2_findPreferred_60 : decode cX2_findPreferred 60 = .ok (.aload_n 1, 1) := by decide +kernel
theorem dX2_findPreferred_61 : decode cX2_findPreferred 61 = .ok (.bipush 7, 2) := by decide +kernel
theorem dX2_findPreferred_63 : decode cX2_findPreferred 63 = .ok (.newarray .int, 2) := by decide +kernel
theorem dX2_findPreferred_65 : decode cX2_findPreferred 65 = .ok (.invokevirtual 110, 3) := by decide +kernel
theorem dX2_findPreferred_68 : decode cX2_findPreferred 68 = .ok (.istore_n 3, 1) := by decide +kernel
theorem dX2_findPreferred_69 : decode cX2_findPreferred 69 = .ok (.iconst 0, 1) := by decide +kernel
theorem dX2_findPreferred_70 : decode cX2_findPreferred 70 = .ok (.istore 4, 2) := by decide +kernel
theorem dX2_findPreferred_72 : decode cX2_findPreferred 72 = .ok (.iload 4, 2) := by decide +kernel
theorem dX2_findPreferred_74 : decode cX2_findPreferred 74 = .ok (.aload_n 0, 1) := by decide +kernel
theorem dX2_findPreferred_75 : decode cX2_findPreferred 75 = .ok (.getfield 92, 3) := by decide +kernel
theorem dX2_findPreferred_78 : decode cX2_findPreferred 78 = .ok (.if_icmp .ge 42, 3) := by decide +kernel
theorem dX2_findPreferred_81 : decode cX2_findPreferred 81 = .ok (.aload_n 0, 1) := by decide +kernel
theorem dX2_findPreferred_82 : decode cX2_findPreferred 82 = .ok (.getfield 35, 3) := by decide +kernel
theorem dX2_findPreferred_85 : decode cX2_findPreferred 85 = .ok (.iload 4, 2) := by decide +kernel
theorem dX2_findPreferred_87 : decode cX2_findPreferred 87 = .ok (.aload_n 0, 1) := by decide +kernel
theorem dX2_findPreferred_88 : decode cX2_findPreferred 88 = .ok (.getfield 35, 3) := by decide +kernel
theorem dX2_findPreferred_91 : decode cX2_findPreferred 91 = .ok (.iload 4, 2) := by decide +kernel
theorem dX2_findPreferred_93 : decode cX2_findPreferred 93 = .ok (.baload, 1) := by decide +kernel
theorem dX2_findPreferred_94 : decode cX2_findPreferred 94 = .ok (.ifCond .ne 14, 3) := by decide +kernel
theorem dX2_findPreferred_97 : decode cX2_findPreferred 97 = .ok (.aload_n 0, 1) := by decide +kernel
theorem dX2_findPreferred_98 : decode cX2_findPreferred 98 = .ok (.getfield 32, 3) := by decide +kernel
theorem dX2_findPreferred_101 : decode cX2_findPreferred 101 = .ok (.iload 4, 2) := by decide +kernel
theorem dX2_findPreferred_103 : decode cX2_findPreferred 103 = .ok (.iaload, 1) := by decide +kernel
theorem dX2_findPreferred_104 : decode cX2_findPreferred 104 = .ok (.iload_n 3, 1) := by decide +kernel
theorem dX2_findPreferred_105 : decode cX2_findPreferred 105 = .ok (.if_icmp .ne 7, 3) := by decide +kernel
theorem dX2_findPreferred_108 : decode cX2_findPreferred 108 = .ok (.iconst 1, 1) := by decide +kernel
theorem dX2_findPreferred_109 : decode cX2_findPreferred 109 = .ok (.goto 4, 3) := by decide +kernel
theorem dX2_findPreferred_112 : decode cX2_findPreferred 112 = .ok (.iconst 0, 1) := by decide +kernel
theorem dX2_findPreferred_113 : decode cX2_findPreferred 113 = .ok (.bastore, 1) := by decide +kernel
theorem dX2_findPreferred_114 : decode cX2_findPreferred 114 = .ok (.iinc 4 1, 3) := by decide +kernel
theorem dX2_findPreferred_117 : decode cX2_findPreferred 117 = .ok (.goto (-45), 3) := by decide +kernel
theorem dX2_findPreferred_120 : decode cX2_findPreferred 120 = .ok (.iinc 2 1, 3) := by decide +kernel
theorem dX2_findPreferred_123 : decode cX2_findPreferred 123 = .ok (.goto (-89), 3) := by decide +kernel
theorem dX2_findPreferred_126 : decode cX2_findPreferred 126 = .ok (.return_, 1) := by decide +kernel
set_option maxRecDepth 20000 in
theorem ggX2_extensionCount_X2_find : GoodIn wsX2_extensionCount wsX2_find := goodIn_r _ [7, 2, 8, 9, 10, 11, 12, 6, 13, 14, 15, 16, 17, 18, 19, 20, 21, 22, 23, 24, 25, 26, 27, 28, 29, 30, 31, 32, 33, 34, 35, 36, 37, 38, 39, 40, 41, 42, 43, 44, 45, 46, 47, 48, 49, 50, 51] (by decide +kernel) (by decide +kernel)
set_option maxRecDepth 20000 in
theorem gX2_extensionCount_X2_find : GoodIn wsX2_extensionCount (wsV RX2 95 RX2 yX2_find wsX2_find) := goodIn_app (goodIn_of _ (by decide +kernel)) ggX2_extensionCount_X2_find
theorem dX2_extensionCount_0 : decode cX2_extensionCount 0 = .ok (.aload_n 0, 1) := by decide +kernel
