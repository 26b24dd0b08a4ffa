theorem dX2_extensionCount_1 : decode cX2_extensionCount 1 = .ok (.iconst 0, 1) := by decide +kernel
theorem dX2_extensionCount_2 : decode cX2_extensionCount 2 = .ok (.putfield 38, 3) := by decide +kernel
theorem dX2_extensionCount_5 : decode cX2_extensionCount 5 = .ok (.aload_n 0, 1) := by decide +kernel
theorem dX2_extensionCount_6 : decode cX2_extensionCount 6 = .ok (.invokevirtual 95, 3) := by decide +kernel
theorem dX2_extensionCount_9 : decode cX2_extensionCount 9 = .ok (.aload_n 0, 1) := by decide +kernel
theorem dX2_extensionCount_10 : decode cX2_extensionCount 10 = .ok (.getfield 92, 3) := by decide +kernel
theorem dX2_extensionCount_13 : decode cX2_extensionCount 13 = .ok (.ireturn, 1) := by decide +kernel
set_option maxRecDepth 20000 in
theorem ggX2_asks_X2_find : GoodIn wsX2_asks wsX2_find := goodIn_r _ [7, 1, 8, 9, 10, 11, 12, 6, 13, 14, 15, 16, 17, 18, 19, 20, 21, 22, 23, 24, 25, 26, 27, 28, 29, 30, 31, 32, 33, 34, 35, 36, 37, 38, 39, 40, 41, 42, 43, 44, 45, 46, 47, 48, 49, 50, 51] (by decide +kernel) (by decide +kernel)
set_option maxRecDepth 20000 in
theorem gX2_asks_X2_find : GoodIn wsX2_asks (wsV RX2 95 RX2 yX2_find wsX2_find) := goodIn_app (goodIn_of _ (by decide +kernel)) ggX2_asks_X2_find
theorem dX2_asks_0 : decode cX2_asks 0 = .ok (.aload_n 0, 1) := by decide +kernel
theorem dX2_asks_1 : decode cX2_asks 1 = .ok (.invokevirtual 95, 3) := by decide +kernel
theorem dX2_asks_4 : decode cX2_asks 4 = .ok (.aload_n 0, 1) := by decide +kernel
theorem dX2_asks_5 : decode cX2_asks 5 = .ok (.iload_n 1, 1) := by decide +kernel
theorem dX2_asks_6 : decode cX2_asks 6 = .ok (.ifCond .lt 15, 3) := by decide +kernel
theorem dX2_asks_9 : decode cX2_asks 9 = .ok (.iload_n 1, 1) := by decide +kernel
theorem dX2_asks_10 : decode cX2_asks 10 = .ok (.aload_n 0, 1) := by decide +kernel
theorem dX2_asks_11 : decode cX2_asks 11 = .ok (.getfield 92, 3) := by decide +kernel
theorem dX2_asks_14 : decode cX2_asks 14 = .ok (.if_icmp .ge 7, 3) := by decide +kernel
theorem dX2_asks_17 : decode cX2_asks 17 = .ok (.iconst 0, 1) := by decide +kernel
theorem dX2_asks_18 : decode cX2_asks 18 = .ok (.goto 4, 3) := by decide +kernel
theorem dX2_asks_21 : decode cX2_asks 21 = .ok (.iconst 1, 1) := by decide +kernel
theorem dX2_asks_22 : decode cX2_asks 22 = .ok (.putfield 38, 3) := by decide +kernel
theorem dX2_asks_25 : decode cX2_asks 25 = .ok (.aload_n 0, 1) := by decide +kernel
theorem dX2_asks_26 : decode cX2_asks 26 = .ok (.getfield 38, 3) := by decide +kernel
theorem dX2_asks_29 : decode cX2_asks 29 = .ok (.ifCond .ne 7, 3) := by decide +kernel
theorem dX2_asks_32 : decode cX2_asks 32 = .ok (.iconst 1, 1) := by decide +kernel
theorem dX2_asks_33 : decode cX2_asks 33 = .ok (.goto 4, 3) := by decide +kernel
theorem dX2_asks_36 : decode cX2_asks 36 = .ok (.iconst 0, 1) := by decide +kernel
theorem dX2_asks_37 : decode cX2_asks 37 = .ok (.ireturn, 1) := by decide +kernel
set_option maxRecDepth 20000 in
theorem ggX2_extension_X2_asks : GoodIn wsX2_extension wsX2_asks := goodIn_r _ [6, 7, 8, 9, 10, 11, 5, 12, 13, 1, 14, 15, 16, 17, 18, 19, 20, 21, 22, 23, 24, 25, 26, 27, 28, 29, 30, 31, 32, 33, 34, 35, 36, 37, 38, 39, 40, 41, 42, 43, 44, 45, 46, 47, 48, 49, 50, 51, 52, 53, 54, 55] (by decide +kernel) (by decide +kernel)
set_option maxRecDepth 20000 in
theorem gX2_extension_X2_asks : GoodIn wsX2_extension (wsV RX2 114 RX2 yX2_asks wsX2_asks) := goodIn_app (goodIn_of _ (by decide +kernel)) ggX2_extension_X2_asks
theorem dX2_extension_0 : decode cX2_extension 0 = .ok (.aload_n 0, 1) := by decide +kernel
theorem dX2_extension_1 : decode cX2_extension 1 = .ok (.iload_n 1, 1) := by decide +kernel
theorem dX2_extension_2 : decode cX2_extension 2 = .ok (.invokevirtual 114, 3) := by decide +kernel
theorem dX2_extension_5 : decode cX2_extension 5 = .ok (.ifCond .eq 12, 3) := by decide +kernel
theorem dX2_extension_8 : decode cX2_extension 8 = .ok (.aload_n 0, 1) := by decide +kernel
theorem dX2_extension_9 : decode cX2_extension 9 = .ok (.getfield 32, 3) := by decide +kernel
theorem dX2_extension_12 : decode cX2_extension 12 = .ok (.iload_n 1, 1) := by decide +kernel
theorem dX2_extension_13 : decode cX2_extension 13 = .ok (.iaload, 1) := by decide +kernel
theorem dX2_extension_14 : decode cX2_extension 14 = .ok (.goto 4, 3) := by decide +kernel
theorem dX2_extension_17 : decode cX2_extension 17 = .ok (.iconst 0, 1) := by decide +kernel
theorem dX2_extension_18 : decode cX2_extension 18 = .ok (.ireturn, 1) := by decide +kernel
set_option maxRecDepth 20000 in
theorem ggX2_isPreferred_X2_asks : GoodIn wsX2_isPreferred wsX2_asks := goodIn_r _ [6, 7, 8, 9, 10, 11, 5, 12, 13, 14, 15, 16, 17, 18, 19, 20, 21, 22, 23, 24, 25, 26, 27, 28, 29, 30, 31, 32, 33, 34, 35, 36, 37, 38, 39, 40, 41, 77, 78, 79, 80, 81, 82, 83, 84, 85, 86, 87, 88, 89, 90, 91] (by decide +kernel) (by decide +kernel)
set_option maxRecDepth 20000 in
theorem gX2_isPreferred_X2_asks : GoodIn wsX2_isPreferred (wsV RX2 114 RX2 yX2_asks wsX2_asks) := goodIn_app (goodIn_of _ (by decide +kernel)) ggX2_isPreferred_X2_asks
set_option maxRecDepth 20000 in
theorem ggX2_isPreferred_X2_findPreferred : GoodIn wsX2_isPreferred wsX2_findPreferred := goodIn_r _ [45, 7, 1, 46, 14, 9, 10, 11, 5, 12, 13, 15, 16, 17, 18, 19, 20, 21, 22, 23, 24, 25, 26, 27, 28, 29, 30, 31, 32, 33, 34, 35, 36, 37, 38, 39, 40, 41, 47, 48, 49, 50, 51, 52, 53, 54, 55, 56, 57, 58, 59, 60, 61, 62, 63, 64, 65, 66, 67, 68, 69, 70, 71, 72, 73, 74, 75, 76, 77, 78, 79, 80, 81, 82, 83, 84, 85, 86, 87, 88, 89, 90, 91] (by decide +kernel) (by decide +kernel)
set_option maxRecDepth 20000 in
theorem gX2_isPreferred_X2_findPreferred : GoodIn wsX2_isPreferred (wsV RX2 117 RX2 yX2_findPreferred wsX2_findPreferred) := goodIn_app (goodIn_of _ (by decide +kernel)) ggX2_isPreferred_X2_findPreferred
theorem dX2_isPreferred_0 : decode cX2_isPreferred 0 = .ok (.aload_n 0, 1) := by decide +kernel
theorem dX2_isPreferred_1 : decode cX2_isPreferred 1 = .ok (.iload_n 1, 1) := by decide +kernel
theorem dX2_isPreferred_2 : decode cX2_isPreferred 2 = .ok (.invokevirtual 114, 3) := by decide +kernel
theorem dX2_isPreferred_5 : decode cX2_isPreferred 5 = .ok (.ifCond .ne 5, 3) := by decide +kernel
theorem dX2_isPreferred_8 : decode cX2_isPreferred 8 = .ok (.iconst 0, 1) := by decide +kernel
theorem dX2_isPreferred_9 : decode cX2_isPreferred 9 = .ok (.ireturn, 1) := by decide +kernel
theorem dX2_isPreferred_10 : decode cX2_isPreferred 10 = .ok (.aload_n 0, 1) := by decide +kernel
theorem dX2_isPreferred_11 : decode cX2_isPreferred 11 = .ok (.invokevirtual 117, 3) := by decide +kernel
theorem dX2_isPreferred_14 : decode cX2_isPreferred 14 = .ok (.aload_n 0, 1) := by decide +kernel
theorem dX2_isPreferred_15 : decode cX2_isPreferred 15 = .ok (.getfield 35, 3) := by decide +kernel
theorem dX2_isPreferred_18 : decode cX2_isPreferred 18 = .ok (.iload_n 1, 1) := by decide +kernel
theorem dX2_isPreferred_19 : decode cX2_isPreferred 19 = .ok (.baload, 1) := by decide +kernel
theorem dX2_isPreferred_20 : decode cX2_isPreferred 20 = .ok (.ireturn, 1) := by decide +kernel
set_option maxRecDepth 20000 in
theorem ggX2_preferred_X2_findPreferred : GoodIn wsX2_preferred wsX2_findPreferred := goodIn_r _ [7, 1, 2, 8, 9, 10, 11, 12, 6, 13, 14, 15, 16, 17, 18, 19, 20, 21, 22, 23, 24, 25, 26, 27, 28, 29, 30, 31, 32, 33, 34, 35, 36, 37, 38, 39, 40, 41, 42, 43, 44, 45, 46, 47, 48, 49, 50, 51, 52, 53, 54, 55, 56, 57, 58, 59, 60, 61, 62, 63, 64, 65, 66, 67, 68, 69, 70, 71, 72, 73, 74, 75, 76, 77, 78, 79, 80, 81, 82, 83, 84, 85, 86] (by decide +kernel) (by decide +kernel)
set_option maxRecDepth 20000 in
theorem gX2_preferred_X2_findPreferred : GoodIn wsX2_preferred (wsV RX2 117 RX2 yX2_findPreferred wsX2_findPreferred) := goodIn_app (goodIn_of _ (by decide +kernel)) ggX2_preferred_X2_findPreferred
theorem dX2_preferred_0 : decode cX2_preferred 0 = .ok (.aload_n 0, 1) := by decide +kernel
theorem dX2_preferred_1 : decode cX2_preferred 1 = .ok (.invokevirtual 117, 3) := by decide +kernel
theorem dX2_preferred_4 : decode cX2_preferred 4 = .ok (.iconst 0, 1) := by decide +kernel
theorem dX2_preferred_5 : decode cX2_preferred 5 = .ok (.istore_n 1, 1) := by decide +kernel
theorem dX2_preferred_6 : decode cX2_preferred 6 = .ok (.iconst 0, 1) := by decide +kernel
theorem dX2_preferred_7 : decode cX2_preferred 7 = .ok (.istore_n 2, 1) := by decide +kernel
theorem dX2_preferred_8 : decode cX2_preferred 8 = .ok (.iload_n 2, 1) := by decide +kernel
theorem dX2_preferred_9 : decode cX2_preferred 9 = .ok (.aload_n 0, 1) := by decide +kernel
theorem dX2_preferred_10 : decode cX2_preferred 10 = .ok (.getfield 92, 3) := by decide +kernel
theorem dX2_preferred_13 : decode cX2_preferred 13 = .ok (.if_icmp .ge 26, 3) := by decide +kernel
theorem dX2_preferred_16 : decode cX2_preferred 16 = .ok (.iload_n 1, 1) := by decide +kernel
theorem dX2_preferred_17 : decode cX2_preferred 17 = .ok (.aload_n 0, 1) := by decide +kernel
theorem dX2_preferred_18 : decode cX2_preferred 18 = .ok (.getfield 35, 3) := by decide +kernel
theorem dX2_preferred_21 : decode cX2_preferred 21 = .ok (.iload_n 2, 1) := by decide +kernel
theorem dX2_preferred_22 : decode cX2_preferred 22 = .ok (.baload, 1) := by decide +kernel
theorem dX2_preferred_23 : decode cX2_preferred 23 = .ok (.ifCond .eq 7, 3) := by decide +kernel
theorem dX2_preferred_26 : decode cX2_preferred 26 = .ok (.iconst 1, 1) := by decide +kernel
theorem dX2_preferred_27 : decode cX2_preferred 27 = .ok (.goto 4, 3) := by decide +kernel
theorem dX2_preferred_30 : decode cX2_preferred 30 = .ok (.iconst 0, 1) := by decide +kernel
theorem dX2_preferred_31 : decode cX2_preferred 31 = .ok (.iadd, 1) := by decide +kernel
theorem dX2_preferred_32 : decode cX2_preferred 32 = .ok (.istore_n 1, 1) := by decide +kernel
theorem dX2_preferred_33 : decode cX2_preferred 33 = .ok (.iinc 2 1, 3) := by decide +kernel
theorem dX2_preferred_36 : decode cX2_preferred 36 = .ok (.goto (-28), 3) := by decide +kernel
theorem dX2_preferred_39 : decode cX2_preferred 39 = .ok (.iload_n 1, 1) := by decide +kernel
theorem dX2_preferred_40 : decode cX2_preferred 40 = .ok (.ireturn, 1) := by decide +kernel
set_option maxRecDepth 20000 in
theorem ggX2_preferredCount_X2_preferred : GoodIn wsX2_preferredCount wsX2_preferred := goodIn_r _ [6, 7, 8, 9, 10, 11, 5, 12, 13, 14, 15, 16, 17, 18, 19, 20, 21, 22, 23, 24, 25, 26, 27, 28, 29, 30, 31, 32, 33, 34, 35, 36, 37, 38, 39, 40, 41, 42, 43, 44, 45, 46, 47, 48, 49, 50, 51, 52, 53, 54, 55, 56, 57, 58, 59, 60, 61, 62, 63, 64, 65, 66, 67, 68, 69, 70, 71, 72, 73, 74, 75, 76, 77, 78, 79, 80, 81, 82, 83, 84, 85, 86, 87, 88, 89, 90, 91] (by decide +kernel) (by decide +kernel)
set_option maxRecDepth 20000 in
theorem gX2_preferredCount_X2_preferred : GoodIn wsX2_preferredCount (wsV RX2 120 RX2 yX2_preferred wsX2_preferred) := goodIn_app (goodIn_of _ (by decide +kernel)) ggX2_preferredCount_X2_preferred
theorem dX2_preferredCount_0 : decode cX2_preferredCount 0 = .ok (.aload_n 0, 1) := by decide +kernel
theorem dX2_preferredCount_1 : decode cX2_preferredCount 1 = .ok (.iconst 0, 1) := by decide +kernel
theorem dX2_preferredCount_2 : decode cX2_preferredCount 2 = .ok (.putfield 38, 3) := by decide +kernel
theorem dX2_preferredCount_5 : decode cX2_preferredCount 5 = .ok (.aload_n 0, 1) := by decide +kernel
theorem dX2_preferredCount_6 : decode cX2_preferredCount 6 = .ok (.invokevirtual 120, 3) := by decide +kernel
theorem dX2_preferredCount_9 : decode cX2_preferredCount 9 = .ok (.ireturn, 1) := by decide +kernel
set_option maxRecDepth 20000 in
theorem ggX2_supports_X2_isLiteral : GoodIn wsX2_supports wsX2_isLiteral := goodIn_r _ [7] (by decide +kernel) (by decide +kernel)
set_option maxRecDepth 20000 in
theorem gX2_supports_X2_isLiteral : GoodIn wsX2_supports (va_wsS RX2 46 yX2_isLiteral wsX2_isLiteral) := goodIn_app (goodIn_of _ (by decide +kernel)) ggX2_supports_X2_isLiteral
set_option maxRecDepth 20000 in
theorem ggX2_supports_X2_fail : GoodIn wsX2_supports wsX2_fail := goodIn_r _ [11, 1, 44, 45, 46, 47, 48, 49, 50, 51, 52, 53, 54, 55, 56, 57, 58] (by decide +kernel) (by decide +kernel)
set_option maxRecDepth 20000 in
theorem gX2_supports_X2_fail : GoodIn wsX2_supports (wsV RX2 53 RX2 yX2_fail wsX2_fail) := goodIn_app (goodIn_of _ (by decide +kernel)) ggX2_supports_X2_fail
set_option maxRecDepth 20000 in
theorem ggX2_supports_X2_find : GoodIn wsX2_supports wsX2_find := goodIn_r _ [15, 2, 16, 3, 17, 18, 19, 6, 20, 21, 22, 23, 24, 25, 26, 27, 28, 29, 30, 31, 32, 33, 34, 35, 36, 37, 38, 39, 40, 41, 42, 43, 44, 45, 46, 47, 48, 49, 50, 51, 52, 53, 54, 55, 56, 57, 58] (by decide +kernel) (by decide +kernel)
set_option maxRecDepth 20000 in
theorem gX2_supports_X2_find : GoodIn wsX2_supports (wsV RX2 95 RX2 yX2_find wsX2_find) := goodIn_app (goodIn_of _ (by decide +kernel)) ggX2_supports_X2_find
theorem dX2_supports_0 : decode cX2_supports 0 = .ok (.aload_n 0, 1) := by decide +kernel
theorem dX2_supports_1 : decode cX2_supports 1 = .ok (.iconst 0, 1) := by decide +kernel
theorem dX2_supports_2 : decode cX2_supports 2 = .ok (.putfield 38, 3) := by decide +kernel
theorem dX2_supports_5 : decode cX2_supports 5 = .ok (.iload_n 1, 1) := by decide +kernel
theorem dX2_supports_6 : decode cX2_supports 6 = .ok (.invokestatic 46, 3) := by decide +kernel
theorem dX2_supports_9 : decode cX2_supports 9 = .ok (.ifCond .ne 9, 3) := by decide +kernel
theorem dX2_supports_12 : decode cX2_supports 12 = .ok (.aload_n 0, 1) := by decide +kernel
theorem dX2_supports_13 : decode cX2_supports 13 = .ok (.iconst 1, 1) := by decide +kernel
theorem dX2_supports_14 : decode cX2_supports 14 = .ok (.invokevirtual 53, 3) := by decide +kernel
theorem dX2_supports_17 : decode cX2_supports 17 = .ok (.ireturn, 1) := by decide +kernel
theorem dX2_supports_18 : decode cX2_supports 18 = .ok (.aload_n 0, 1) := by decide +kernel
theorem dX2_supports_19 : decode cX2_supports 19 = .ok (.invokevirtual 95, 3) := by decide +kernel
theorem dX2_supports_22 : decode cX2_supports 22 = .ok (.iconst 0, 1) := by decide +kernel
theorem dX2_supports_23 : decode cX2_supports 23 = .ok (.istore_n 2, 1) := by decide +kernel
theorem dX2_supports_24 : decode cX2_supports 24 = .ok (.iconst 0, 1) := by decide +kernel
theorem dX2_supports_25 : decode cX2_supports 25 = .ok (.istore_n 3, 1) := by decide +kernel
theorem dX2_supports_26 : decode cX2_supports 26 = .ok (.iload_n 3, 1) := by decide +kernel
theorem dX2_supports_27 : decode cX2_supports 27 = .ok (.aload_n 0, 1) := by decide +kernel
theorem dX2_supports_28 : decode cX2_supports 28 = .ok (.getfield 92, 3) := by decide +kernel
theorem dX2_supports_31 : decode cX2_supports 31 = .ok (.if_icmp .ge 22, 3) := by decide +kernel
theorem dX2_supports_34 : decode cX2_supports 34 = .ok (.iload_n 2, 1) := by decide +kernel
theorem dX2_supports_35 : decode cX2_supports 35 = .ok (.aload_n 0, 1) := by decide +kernel
theorem dX2_supports_36 : decode cX2_supports 36 = .ok (.getfield 32, 3) := by decide +kernel
theorem dX2_supports_39 : decode cX2_supports 39 = .ok (.iload_n 3, 1) := by decide +kernel
theorem dX2_supports_40 : decode cX2_supports 40 = .ok (.iaload, 1) := by decide +kernel
theorem dX2_supports_41 : decode cX2_supports 41 = .ok (.iload_n 1, 1) := by decide +kernel
theorem dX2_supports_42 : decode cX2_supports 42 = .ok (.ishr, 1) := by decide +kernel
theorem dX2_supports_43 : decode cX2_supports 43 = .ok (.iconst 1, 1) := by decide +kernel
theorem dX2_supports_44 : decode cX2_supports 44 = .ok (.iand, 1) := by decide +kernel
theorem dX2_supports_45 : decode cX2_supports 45 = .ok (.iadd, 1) := by decide +kernel
theorem dX2_supports_46 : decode cX2_supports 46 = .ok (.istore_n 2, 1) := by decide +kernel
theorem dX2_supports_47 : decode cX2_supports 47 = .ok (.iinc 3 1, 3) := by decide +kernel
theorem dX2_supports_50 : decode cX2_supports 50 = .ok (.goto (-24), 3) := by decide +kernel
theorem dX2_supports_53 : decode cX2_supports 53 = .ok (.iload_n 2, 1) := by decide +kernel
theorem dX2_supports_54 : decode cX2_supports 54 = .ok (.ireturn, 1) := by decide +kernel
set_option maxRecDepth 20000 in
theorem ggX2_common_X2_findPreferred : GoodIn wsX2_common wsX2_findPreferred := goodIn_r _ [10, 3, 4, 11, 5, 12, 13, 14, 9, 15, 16, 17, 18, 19, 20, 21, 22, 23, 24, 25, 26, 27, 28, 29, 2, 30, 31, 32, 33, 34, 35, 36, 37, 38, 39, 40, 41, 42, 43, 44, 45, 46, 47, 48, 49, 50, 51, 52, 53, 54, 55, 56, 57, 58, 59, 60, 61, 62, 63, 64, 65, 66, 67, 68, 69, 70, 71, 72, 73, 74, 75, 76, 77, 78, 79, 80, 81, 82, 83, 84, 85, 86, 87] (by decide +kernel) (by decide +kernel)
set_option maxRecDepth 20000 in
theorem gX2_common_X2_findPreferred : GoodIn wsX2_common (wsV RX2 117 RX2 yX2_findPreferred wsX2_findPreferred) := goodIn_app (goodIn_of _ (by decide +kernel)) ggX2_common_X2_findPreferred
theorem dX2_common_0 : decode cX2_common 0 = .ok (.aload_n 0, 1) := by decide +kernel
theorem dX2_common_1 : decode cX2_common 1 = .ok (.iconst 0, 1) := by decide +kernel
theorem dX2_common_2 : decode cX2_common 2 = .ok (.putfield 38, 3) := by decide +kernel
theorem dX2_common_5 : decode cX2_common 5 = .ok (.aload_n 0, 1) := by decide +kernel
theorem dX2_common_6 : decode cX2_common 6 = .ok (.invokevirtual 117, 3) := by decide +kernel
theorem dX2_common_9 : decode cX2_common 9 = .ok (.ldc 42, 2) := by decide +kernel
theorem dX2_common_11 : decode cX2_common 11 = .ok (.istore_n 2, 1) := by decide +kernel
theorem dX2_common_12 : decode cX2_common 12 = .ok (.iconst 0, 1) := by decide +kernel
theorem dX2_common_13 : decode cX2_common 13 = .ok (.istore_n 3, 1) := by decide +kernel
theorem dX2_common_14 : decode cX2_common 14 = .ok (.iload_n 3, 1) := by decide +kernel
theorem dX2_common_15 : decode cX2_common 15 = .ok (.aload_n 0, 1) := by decide +kernel
theorem dX2_common_16 : decode cX2_common 16 = .ok (.getfield 92, 3) := by decide +kernel
theorem dX2_common_19 : decode cX2_common 19 = .ok (.if_icmp .ge 31, 3) := by decide +kernel
theorem dX2_common_22 : decode cX2_common 22 = .ok (.aload_n 0, 1) := by decide +kernel
theorem dX2_common_23 : decode cX2_common 23 = .ok (.getfield 35, 3) := by decide +kernel
theorem dX2_common_26 : decode cX2_common 26 = .ok (.iload_n 3, 1) := by decide +kernel
theorem dX2_common_27 : decode cX2_common 27 = .ok (.baload, 1) := by decide +kernel
theorem dX2_common_28 : decode cX2_common 28 = .ok (.ifCond .ne 7, 3) := by decide +kernel
theorem dX2_common_31 : decode cX2_common 31 = .ok (.iload_n 1, 1) := by decide +kernel
theorem dX2_common_32 : decode cX2_common 32 = .ok (.ifCond .ne 12, 3) := by decide +kernel
theorem dX2_common_35 : decode cX2_common 35 = .ok (.iload_n 2, 1) := by decide +kernel
theorem dX2_common_36 : decode cX2_common 36 = .ok (.aload_n 0, 1) := by decide +kernel
theorem dX2_common_37 : decode cX2_common 37 = .ok (.getfield 32, 3) := by decide +kernel
theorem dX2_common_40 : decode cX2_common 40 = .ok (.iload_n 3, 1) := by decide +kernel
theorem dX2_common_41 : decode cX2_common 41 = .ok (.iaload, 1) := by decide +kernel
theorem dX2_common_42 : decode cX2_common 42 = .ok (.iand, 1) := by decide +kernel
theorem dX2_common_43 : decode cX2_common 43 = .ok (.istore_n 2, 1) := by decide +kernel
theorem dX2_common_44 : decode cX2_common 44 = .ok (.iinc 3 1, 3) := by decide +kernel
theorem dX2_common_47 : decode cX2_common 47 = .ok (.goto (-33), 3) := by decide +kernel
theorem dX2_common_50 : decode cX2_common 50 = .ok (.iload_n 2, 1) := by decide +kernel
theorem dX2_common_51 : decode cX2_common 51 = .ok (.ireturn, 1) := by decide +kernel
set_option maxRecDepth 20000 in
theorem ggX2_share_X2_isLiteral : GoodIn wsX2_share wsX2_isLiteral := goodIn_r _ [8] (by decide +kernel) (by decide +kernel)
set_option maxRecDepth 20000 in
theorem gX2_share_X2_isLiteral : GoodIn wsX2_share (va_wsS RX2 46 yX2_isLiteral wsX2_isLiteral) := goodIn_app (goodIn_of _ (by decide +kernel)) ggX2_share_X2_isLiteral
set_option maxRecDepth 20000 in
theorem ggX2_share_X2_preferred : GoodIn wsX2_share wsX2_preferred := goodIn_r _ [12, 2, 3, 13, 14, 15, 7, 16, 17, 4, 18, 19, 20, 21, 22, 23, 24, 25, 26, 27, 28, 29, 30, 31, 32, 33, 34, 35, 36, 37, 38, 39, 40, 41, 42, 43, 44, 45, 46, 47, 48, 49, 50, 51, 52, 53, 54, 55, 56, 57, 58, 59, 60, 61, 62, 63, 64, 65, 66, 67, 68, 69, 70, 71, 72, 73, 74, 75, 76, 77, 78, 79, 80, 81, 82, 83, 84, 85, 86, 87, 88, 89, 90, 91, 92, 93, 94] (by decide +kernel) (by decide +kernel)
set_option maxRecDepth 20000 in
theorem gX2_share_X2_preferred : GoodIn wsX2_share (wsV RX2 120 RX2 yX2_preferred wsX2_preferred) := goodIn_app (goodIn_of _ (by decide +kernel)) ggX2_share_X2_preferred
theorem dX2_share_0 : decode cX2_share 0 = .ok (.aload_n 0, 1) := by decide +kernel
theorem dX2_share_1 : decode cX2_share 1 = .ok (.iload_n 1, 1) := by decide +kernel
theorem dX2_share_2 : decode cX2_share 2 = .ok (.invokestatic 46, 3) := by decide +kernel
theorem dX2_share_5 : decode cX2_share 5 = .ok (.ifCond .eq 7, 3) := by decide +kernel
theorem dX2_share_8 : decode cX2_share 8 = .ok (.iconst 0, 1) := by decide +kernel
theorem dX2_share_9 : decode cX2_share 9 = .ok (.goto 4, 3) := by decide +kernel
theorem dX2_share_12 : decode cX2_share 12 = .ok (.iconst 1, 1) := by decide +kernel
theorem dX2_share_13 : decode cX2_share 13 = .ok (.putfield 38, 3) := by decide +kernel
theorem dX2_share_16 : decode cX2_share 16 = .ok (.aload_n 0, 1) := by decide +kernel
theorem dX2_share_17 : decode cX2_share 17 = .ok (.getfield 38, 3) := by decide +kernel
theorem dX2_share_20 : decode cX2_share 20 = .ok (.ifCond .eq 5, 3) := by decide +kernel
theorem dX2_share_23 : decode cX2_share 23 = .ok (.dconst 0, 1) := by decide +kernel
theorem dX2_share_24 : decode cX2_share 24 = .ok (.dreturn, 1) := by decide +kernel
theorem dX2_share_25 : decode cX2_share 25 = .ok (.aload_n 0, 1) := by decide +kernel
theorem dX2_share_26 : decode cX2_share 26 = .ok (.invokevirtual 120, 3) := by decide +kernel
theorem dX2_share_29 : decode cX2_share 29 = .ok (.istore_n 2, 1) := by decide +kernel
theorem dX2_share_30 : decode cX2_share 30 = .ok (.iconst 0, 1) := by decide +kernel
theorem dX2_share_31 : decode cX2_share 31 = .ok (.istore_n 3, 1) := by decide +kernel
theorem dX2_share_32 : decode cX2_share 32 = .ok (.iconst 0, 1) := by decide +kernel
theorem dX2_share_33 : decode cX2_share 33 = .ok (.istore 4, 2) := by decide +kernel
theorem dX2_share_35 : decode cX2_share 35 = .ok (.iload 4, 2) := by decide +kernel
theorem dX2_share_37 : decode cX2_share 37 = .ok (.aload_n 0, 1) := by decide +kernel
theorem dX2_share_38 : decode cX2_share 38 = .ok (.getfield 92, 3) := by decide +kernel
theorem dX2_share_41 : decode cX2_share 41 = .ok (.if_icmp .ge 37, 3) := by decide +kernel
theorem dX2_share_44 : decode cX2_share 44 = .ok (.iload_n 3, 1) := by decide +kernel
theorem dX2_share_45 : decode cX2_share 45 = .ok (.aload_n 0, 1) := by decide +kernel
theorem dX2_share_46 : decode cX2_share 46 = .ok (.getfield 35, 3) := by decide +kernel
theorem dX2_share_49 : decode cX2_share 49 = .ok (.iload 4, 2) := by decide +kernel
theorem dX2_share_51 : decode cX2_share 51 = .ok (.baload, 1) := by decide +kernel
theorem dX2_share_52 : decode cX2_share 52 = .ok (.ifCond .eq 17, 3) := by decide +kernel
theorem dX2_share_55 : decode cX2_share 55 = .ok (.aload_n 0, 1) := by decide +kernel
theorem dX2_share_56 : decode cX2_share 56 = .ok (.getfield 32, 3) := by decide +kernel
theorem dX2_share_59 : decode cX2_share 59 = .ok (.iload 4, 2) := by decide +kernel
theorem dX2_share_61 : decode cX2_share 61 = .ok (.iaload, 1) := by decide +kernel
theorem dX2_share_62 : decode cX2_share 62 = .ok (.iload_n 1, 1) := by decide +kernel
theorem dX2_share_63 : decode cX2_share 63 = .ok (.ishr, 1) := by decide +kernel
theorem dX2_share_64 : decode cX2_share 64 = .ok (.iconst 1, 1) := by decide +kernel
theorem dX2_share_65 : decode cX2_share 65 = .ok (.iand, 1) := by decide +kernel
theorem dX2_share_66 : decode cX2_share 66 = .ok (.goto 4, 3) := by decide +kernel
theorem dX2_share_69 : decode cX2_share 69 = .ok (.iconst 0, 1) := by decide +kernel
theorem dX2_share_70 : decode cX2_share 70 = .ok (.iadd, 1) := by decide +kernel
theorem dX2_share_71 : decode cX2_share 71 = .ok (.istore_n 3, 1) := by decide +kernel
theorem dX2_share_72 : decode cX2_share 72 = .ok (.iinc 4 1, 3) := by decide +kernel
theorem dX2_share_75 : decode cX2_share 75 = .ok (.goto (-40), 3) := by decide +kernel
theorem dX2_share_78 : decode cX2_share 78 = .ok (.iload_n 2, 1) := by decide +kernel
theorem dX2_share_79 : decode cX2_share 79 = .ok (.ifCond .ne 7, 3) := by decide +kernel
theorem dX2_share_82 : decode cX2_share 82 = .ok (.dconst 0, 1) := by decide +kernel
theorem dX2_share_83 : decode cX2_share 83 = .ok (.goto 8, 3) := by decide +kernel
theorem dX2_share_86 : decode cX2_share 86 = .ok (.iload_n 3, 1) := by decide +kernel
theorem dX2_share_87 : decode cX2_share 87 = .ok (.i2d, 1) := by decide +kernel
theorem dX2_share_88 : decode cX2_share 88 = .ok (.iload_n 2, 1) := by decide +kernel
theorem dX2_share_89 : decode cX2_share 89 = .ok (.i2d, 1) := by decide +kernel
theorem dX2_share_90 : decode cX2_share 90 = .ok (.ddiv, 1) := by decide +kernel
theorem dX2_share_91 : decode cX2_share 91 = .ok (.dreturn, 1) := by decide +kernel
theorem dX2_orders_0 : decode cX2_orders 0 = .ok (.iconst 1, 1) := by decide +kernel
theorem dX2_orders_1 : decode cX2_orders 1 = .ok (.istore_n 1, 1) := by decide +kernel
theorem dX2_orders_2 : decode cX2_orders 2 = .ok (.iconst 2, 1) := by decide +kernel
theorem dX2_orders_3 : decode cX2_orders 3 = .ok (.istore_n 2, 1) := by decide +kernel
theorem dX2_orders_4 : decode cX2_orders 4 = .ok (.iload_n 2, 1) := by decide +kernel
theorem dX2_orders_5 : decode cX2_orders 5 = .ok (.aload_n 0, 1) := by decide +kernel
theorem dX2_orders_6 : decode cX2_orders 6 = .ok (.getfield 43, 3) := by decide +kernel
theorem dX2_orders_9 : decode cX2_orders 9 = .ok (.if_icmp .gt 13, 3) := by decide +kernel
theorem dX2_orders_12 : decode cX2_orders 12 = .ok (.iload_n 1, 1) := by decide +kernel
theorem dX2_orders_13 : decode cX2_orders 13 = .ok (.iload_n 2, 1) := by decide +kernel
theorem dX2_orders_14 : decode cX2_orders 14 = .ok (.imul, 1) := by decide +kernel
theorem dX2_orders_15 : decode cX2_orders 15 = .ok (.istore_n 1, 1) := by decide +kernel
theorem dX2_orders_16 : decode cX2_orders 16 = .ok (.iinc 2 1, 3) := by decide +kernel
theorem dX2_orders_19 : decode cX2_orders 19 = .ok (.goto (-15), 3) := by decide +kernel
theorem dX2_orders_22 : decode cX2_orders 22 = .ok (.iload_n 1, 1) := by decide +kernel
theorem dX2_orders_23 : decode cX2_orders 23 = .ok (.ireturn, 1) := by decide +kernel
set_option maxRecDepth 20000 in
theorem ggX2_setOrder_X2_orders : GoodIn wsX2_setOrder wsX2_orders := goodIn_r _ [7, 2, 8, 9, 10, 11, 12, 13, 14, 15, 16, 17, 18, 19, 20, 21, 22] (by decide +kernel) (by decide +kernel)
set_option maxRecDepth 20000 in
theorem gX2_setOrder_X2_orders : GoodIn wsX2_setOrder (wsV RX2 98 RX2 yX2_orders wsX2_orders) := goodIn_app (goodIn_of _ (by decide +kernel)) ggX2_setOrder_X2_orders
theorem dX2_setOrder_0 : decode cX2_setOrder 0 = .ok (.bipush 6, 2) := by decide +kernel
theorem dX2_setOrder_2 : decode cX2_setOrder 2 = .ok (.newarray .boolean, 2) := by decide +kernel
theorem dX2_setOrder_4 : decode cX2_setOrder 4 = .ok (.astore_n 3, 1) := by decide +kernel
theorem dX2_setOrder_5 : decode cX2_setOrder 5 = .ok (.iload_n 2, 1) := by decide +kernel
theorem dX2_setOrder_6 : decode cX2_setOrder 6 = .ok (.istore 4, 2) := by decide +kernel
theorem dX2_setOrder_8 : decode cX2_setOrder 8 = .ok (.aload_n 0, 1) := by decide +kernel
theorem dX2_setOrder_9 : decode cX2_setOrder 9 = .ok (.invokevirtual 98, 3) := by decide +kernel
theorem dX2_setOrder_12 : decode cX2_setOrder 12 = .ok (.istore 5, 2) := by decide +kernel
theorem dX2_setOrder_14 : decode cX2_setOrder 14 = .ok (.iconst 0, 1) := by decide +kernel
theorem dX2_setOrder_15 : decode cX2_setOrder 15 = .ok (.istore 6, 2) := by decide +kernel
theorem dX2_setOrder_17 : decode cX2_setOrder 17 = .ok (.iload 6, 2) := by decide +kernel
theorem dX2_setOrder_19 : decode cX2_setOrder 19 = .ok (.aload_n 0, 1) := by decide +kernel
theorem dX2_setOrder_20 : decode cX2_setOrder 20 = .ok (.getfield 43, 3) := by decide +kernel
theorem dX2_setOrder_23 : decode cX2_setOrder 23 = .ok (.if_icmp .ge 84, 3) := by decide +kernel
theorem dX2_setOrder_26 : decode cX2_setOrder 26 = .ok (.iload 5, 2) := by decide +kernel
theorem dX2_setOrder_28 : decode cX2_setOrder 28 = .ok (.aload_n 0, 1) := by decide +kernel
theorem dX2_setOrder_29 : decode cX2_setOrder 29 = .ok (.getfield 43, 3) := by decide +kernel
theorem dX2_setOrder_32 : decode cX2_setOrder 32 = .ok (.iload 6, 2) := by decide +kernel
theorem dX2_setOrder_34 : decode cX2_setOrder 34 = .ok (.isub, 1) := by decide +kernel
theorem dX2_setOrder_35 : decode cX2_setOrder 35 = .ok (.idiv, 1) := by decide +kernel
theorem dX2_setOrder_36 : decode cX2_setOrder 36 = .ok (.istore 5, 2) := by decide +kernel
theorem dX2_setOrder_38 : decode cX2_setOrder 38 = .ok (.iload 4, 2) := by decide +kernel
theorem dX2_setOrder_40 : decode cX2_setOrder 40 = .ok (.iload 5, 2) := by decide +kernel
theorem dX2_setOrder_42 : decode cX2_setOrder 42 = .ok (.idiv, 1) := by decide +kernel
theorem dX2_setOrder_43 : decode cX2_setOrder 43 = .ok (.istore 7, 2) := by decide +kernel
theorem dX2_setOrder_45 : decode cX2_setOrder 45 = .ok (.iload 4, 2) := by decide +kernel
theorem dX2_setOrder_47 : decode cX2_setOrder 47 = .ok (.iload 5, 2) := by decide +kernel
theorem dX2_setOrder_49 : decode cX2_setOrder 49 = .ok (.irem, 1) := by decide +kernel
theorem dX2_setOrder_50 : decode cX2_setOrder 50 = .ok (.istore 4, 2) := by decide +kernel
theorem dX2_setOrder_52 : decode cX2_setOrder 52 = .ok (.iconst 0, 1) := by decide +kernel
theorem dX2_setOrder_53 : decode cX2_setOrder 53 = .ok (.istore 8, 2) := by decide +kernel
theorem dX2_setOrder_55 : decode cX2_setOrder 55 = .ok (.aload_n 3, 1) := by decide +kernel
theorem dX2_setOrder_56 : decode cX2_setOrder 56 = .ok (.iload 8, 2) := by decide +kernel
theorem dX2_setOrder_58 : decode cX2_setOrder 58 = .ok (.baload, 1) := by decide +kernel
theorem dX2_setOrder_59 : decode cX2_setOrder 59 = .ok (.ifCond .ne 8, 3) := by decide +kernel
theorem dX2_setOrder_62 : decode cX2_setOrder 62 = .ok (.iload 7, 2) := by decide +kernel
theorem dX2_setOrder_64 : decode cX2_setOrder 64 = .ok (.ifCond .le 26, 3) := by decide +kernel
theorem dX2_setOrder_67 : decode cX2_setOrder 67 = .ok (.iload 7, 2) := by decide +kernel
theorem dX2_setOrder_69 : decode cX2_setOrder 69 = .ok (.aload_n 3, 1) := by decide +kernel
theorem dX2_setOrder_70 : decode cX2_setOrder 70 = .ok (.iload 8, 2) := by decide +kernel
theorem dX2_setOrder_72 : decode cX2_setOrder 72 = .ok (.baload, 1) := by decide +kernel
theorem dX2_setOrder_73 : decode cX2_setOrder 73 = .ok (.ifCond .eq 7, 3) := by decide +kernel
theorem dX2_setOrder_76 : decode cX2_setOrder 76 = .ok (.iconst 0, 1) := by decide +kernel
theorem dX2_setOrder_77 : decode cX2_setOrder 77 = .ok (.goto 4, 3) := by decide +kernel
theorem dX2_setOrder_80 : decode cX2_setOrder 80 = .ok (.iconst 1, 1) := by decide +kernel
theorem dX2_setOrder_81 : decode cX2_setOrder 81 = .ok (.isub, 1) := by decide +kernel
theorem dX2_setOrder_82 : decode cX2_setOrder 82 = .ok (.istore 7, 2) := by decide +kernel
theorem dX2_setOrder_84 : decode cX2_setOrder 84 = .ok (.iinc 8 1, 3) := by decide +kernel
theorem dX2_setOrder_87 : decode cX2_setOrder 87 = .ok (.goto (-32), 3) := by decide +kernel
theorem dX2_setOrder_90 : decode cX2_setOrder 90 = .ok (.aload_n 3, 1) := by decide +kernel
theorem dX2_setOrder_91 : decode cX2_setOrder 91 = .ok (.iload 8, 2) := by decide +kernel
theorem dX2_setOrder_93 : decode cX2_setOrder 93 = .ok (.iconst 1, 1) := by decide +kernel
theorem dX2_setOrder_94 : decode cX2_setOrder 94 = .ok (.bastore, 1) := by decide +kernel
theorem dX2_setOrder_95 : decode cX2_setOrder 95 = .ok (.aload_n 1, 1) := by decide +kernel
theorem dX2_setOrder_96 : decode cX2_setOrder 96 = .ok (.iload 6, 2) := by decide +kernel
theorem dX2_setOrder_98 : decode cX2_setOrder 98 = .ok (.iload 8, 2) := by decide +kernel
theorem dX2_setOrder_100 : decode cX2_setOrder 100 = .ok (.iastore, 1) := by decide +kernel
theorem dX2_setOrder_101 : decode cX2_setOrder 101 = .ok (.iinc 6 1, 3) := by decide +kernel
theorem dX2_setOrder_104 : decode cX2_setOrder 104 = .ok (.goto (-87), 3) := by decide +kernel
theorem dX2_setOrder_107 : decode cX2_setOrder 107 = .ok (.return_, 1) := by decide +kernel
set_option maxRecDepth 20000 in
theorem ggX2_respects_X2_before : GoodIn wsX2_respects wsX2_before := goodIn_r _ [6, 7, 8, 9, 5, 10, 11, 1, 12, 13, 14, 15, 16, 17, 18, 19, 20, 21, 22, 23, 24, 25, 26] (by decide +kernel) (by decide +kernel)
set_option maxRecDepth 20000 in
theorem gX2_respects_X2_before : GoodIn wsX2_respects (wsV RX2 70 RX2 yX2_before wsX2_before) := goodIn_app (goodIn_of _ (by decide +kernel)) ggX2_respects_X2_before
theorem dX2_respects_0 : decode cX2_respects 0 = .ok (.iconst 0, 1) := by decide +kernel
theorem dX2_respects_1 : decode cX2_respects 1 = .ok (.istore_n 2, 1) := by decide +kernel
theorem dX2_respects_2 : decode cX2_respects 2 = .ok (.iload_n 2, 1) := by decide +kernel
theorem dX2_respects_3 : decode cX2_respects 3 = .ok (.aload_n 0, 1) := by decide +kernel
theorem dX2_respects_4 : decode cX2_respects 4 = .ok (.getfield 43, 3) := by decide +kernel
theorem dX2_respects_7 : decode cX2_respects 7 = .ok (.if_icmp .ge 42, 3) := by decide +kernel
theorem dX2_respects_10 : decode cX2_respects 10 = .ok (.iload_n 2, 1) := by decide +kernel
theorem dX2_respects_11 : decode cX2_respects 11 = .ok (.iconst 1, 1) := by decide +kernel
theorem dX2_respects_12 : decode cX2_respects 12 = .ok (.iadd, 1) := by decide +kernel
theorem dX2_respects_13 : decode cX2_respects 13 = .ok (.istore_n 3, 1) := by decide +kernel
theorem dX2_respects_14 : decode cX2_respects 14 = .ok (.iload_n 3, 1) := by decide +kernel
theorem dX2_respects_15 : decode cX2_respects 15 = .ok (.aload_n 0, 1) := by decide +kernel
theorem dX2_respects_16 : decode cX2_respects 16 = .ok (.getfield 43, 3) := by decide +kernel
theorem dX2_respects_19 : decode cX2_respects 19 = .ok (.if_icmp .ge 24, 3) := by decide +kernel
theorem dX2_respects_22 : decode cX2_respects 22 = .ok (.aload_n 0, 1) := by decide +kernel
theorem dX2_respects_23 : decode cX2_respects 23 = .ok (.aload_n 1, 1) := by decide +kernel
theorem dX2_respects_24 : decode cX2_respects 24 = .ok (.iload_n 3, 1) := by decide +kernel
theorem dX2_respects_25 : decode cX2_respects 25 = .ok (.iaload, 1) := by decide +kernel
theorem dX2_respects_26 : decode cX2_respects 26 = .ok (.aload_n 1, 1) := by decide +kernel
theorem dX2_respects_27 : decode cX2_respects 27 = .ok (.iload_n 2, 1) := by decide +kernel
theorem dX2_respects_28 : decode cX2_respects 28 = .ok (.iaload, 1) := by decide +kernel
theorem dX2_respects_29 : decode cX2_respects 29 = .ok (.invokevirtual 70, 3) := by decide +kernel
theorem dX2_respects_32 : decode cX2_respects 32 = .ok (.ifCond .eq 5, 3) := by decide +kernel
theorem dX2_respects_35 : decode cX2_respects 35 = .ok (.iconst 0, 1) := by decide +kernel
theorem dX2_respects_36 : decode cX2_respects 36 = .ok (.ireturn, 1) := by decide +kernel
theorem dX2_respects_37 : decode cX2_respects 37 = .ok (.iinc 3 1, 3) := by decide +kernel
theorem dX2_respects_40 : decode cX2_respects 40 = .ok (.goto (-26), 3) := by decide +kernel
theorem dX2_respects_43 : decode cX2_respects 43 = .ok (.iinc 2 1, 3) := by decide +kernel
theorem dX2_respects_46 : decode cX2_respects 46 = .ok (.goto (-44), 3) := by decide +kernel
theorem dX2_respects_49 : decode cX2_respects 49 = .ok (.iconst 1, 1) := by decide +kernel
theorem dX2_respects_50 : decode cX2_respects 50 = .ok (.ireturn, 1) := by decide +kernel
set_option maxRecDepth 20000 in
theorem ggX2_walk_X2_close : GoodIn wsX2_walk wsX2_close := goodIn_r _ [7, 8, 9, 10, 11, 12, 13, 6, 14, 26, 27, 28, 29, 30, 31, 32, 33, 34, 35, 36, 37, 38, 39, 40] (by decide +kernel) (by decide +kernel)
set_option maxRecDepth 20000 in
theorem gX2_walk_X2_close : GoodIn wsX2_walk (wsV RX2 77 RX2 yX2_close wsX2_close) := goodIn_app (goodIn_of _ (by decide +kernel)) ggX2_walk_X2_close
set_option maxRecDepth 20000 in
theorem ggX2_walk_X2_first : GoodIn wsX2_walk wsX2_first := goodIn_r _ [18, 19, 20, 2, 21, 22, 23, 6, 24, 25, 12, 13, 14, 26, 27, 28, 29, 30, 31, 32, 33, 34, 35, 36, 37, 38, 39, 40] (by decide +kernel) (by decide +kernel)
set_option maxRecDepth 20000 in
theorem gX2_walk_X2_first : GoodIn wsX2_walk (wsV RX2 123 RX2 yX2_first wsX2_first) := goodIn_app (goodIn_of _ (by decide +kernel)) ggX2_walk_X2_first
theorem dX2_walk_0 : decode cX2_walk 0 = .ok (.aload_n 0, 1) := by decide +kernel
theorem dX2_walk_1 : decode cX2_walk 1 = .ok (.aload_n 0, 1) := by decide +kernel
theorem dX2_walk_2 : decode cX2_walk 2 = .ok (.getfield 50, 3) := by decide +kernel
theorem dX2_walk_5 : decode cX2_walk 5 = .ok (.invokevirtual 77, 3) := by decide +kernel
theorem dX2_walk_8 : decode cX2_walk 8 = .ok (.istore_n 3, 1) := by decide +kernel
theorem dX2_walk_9 : decode cX2_walk 9 = .ok (.aload_n 0, 1) := by decide +kernel
theorem dX2_walk_10 : decode cX2_walk 10 = .ok (.aload_n 1, 1) := by decide +kernel
theorem dX2_walk_11 : decode cX2_walk 11 = .ok (.iload_n 3, 1) := by decide +kernel
theorem dX2_walk_12 : decode cX2_walk 12 = .ok (.invokevirtual 123, 3) := by decide +kernel
theorem dX2_walk_15 : decode cX2_walk 15 = .ok (.istore 4, 2) := by decide +kernel
theorem dX2_walk_17 : decode cX2_walk 17 = .ok (.iload 4, 2) := by decide +kernel
theorem dX2_walk_19 : decode cX2_walk 19 = .ok (.iconst (-1), 1) := by decide +kernel
theorem dX2_walk_20 : decode cX2_walk 20 = .ok (.if_icmp .eq 44, 3) := by decide +kernel
theorem dX2_walk_23 : decode cX2_walk 23 = .ok (.aload_n 2, 1) := by decide +kernel
theorem dX2_walk_24 : decode cX2_walk 24 = .ok (.iconst 0, 1) := by decide +kernel
theorem dX2_walk_25 : decode cX2_walk 25 = .ok (.dup2, 1) := by decide +kernel
theorem dX2_walk_26 : decode cX2_walk 26 = .ok (.iaload, 1) := by decide +kernel
theorem dX2_walk_27 : decode cX2_walk 27 = .ok (.iconst 1, 1) := by decide +kernel
theorem dX2_walk_28 : decode cX2_walk 28 = .ok (.iadd, 1) := by decide +kernel
theorem dX2_walk_29 : decode cX2_walk 29 = .ok (.iastore, 1) := by decide +kernel
theorem dX2_walk_30 : decode cX2_walk 30 = .ok (.aload_n 2, 1) := by decide +kernel
theorem dX2_walk_31 : decode cX2_walk 31 = .ok (.aload_n 2, 1) := by decide +kernel
theorem dX2_walk_32 : decode cX2_walk 32 = .ok (.iconst 0, 1) := by decide +kernel
theorem dX2_walk_33 : decode cX2_walk 33 = .ok (.iaload, 1) := by decide +kernel
theorem dX2_walk_34 : decode cX2_walk 34 = .ok (.iload 4, 2) := by decide +kernel
theorem dX2_walk_36 : decode cX2_walk 36 = .ok (.iastore, 1) := by decide +kernel
theorem dX2_walk_37 : decode cX2_walk 37 = .ok (.aload_n 0, 1) := by decide +kernel
theorem dX2_walk_38 : decode cX2_walk 38 = .ok (.iload_n 3, 1) := by decide +kernel
theorem dX2_walk_39 : decode cX2_walk 39 = .ok (.iconst 1, 1) := by decide +kernel
theorem dX2_walk_40 : decode cX2_walk 40 = .ok (.aload_n 0, 1) := by decide +kernel
theorem dX2_walk_41 : decode cX2_walk 41 = .ok (.getfield 22, 3) := by decide +kernel
theorem dX2_walk_44 : decode cX2_walk 44 = .ok (.iload 4, 2) := by decide +kernel
theorem dX2_walk_46 : decode cX2_walk 46 = .ok (.iaload, 1) := by decide +kernel
theorem dX2_walk_47 : decode cX2_walk 47 = .ok (.ishl, 1) := by decide +kernel
theorem dX2_walk_48 : decode cX2_walk 48 = .ok (.ior, 1) := by decide +kernel
theorem dX2_walk_49 : decode cX2_walk 49 = .ok (.invokevirtual 77, 3) := by decide +kernel
theorem dX2_walk_52 : decode cX2_walk 52 = .ok (.istore_n 3, 1) := by decide +kernel
theorem dX2_walk_53 : decode cX2_walk 53 = .ok (.aload_n 0, 1) := by decide +kernel
theorem dX2_walk_54 : decode cX2_walk 54 = .ok (.aload_n 1, 1) := by decide +kernel
theorem dX2_walk_55 : decode cX2_walk 55 = .ok (.iload_n 3, 1) := by decide +kernel
theorem dX2_walk_56 : decode cX2_walk 56 = .ok (.invokevirtual 123, 3) := by decide +kernel
theorem dX2_walk_59 : decode cX2_walk 59 = .ok (.istore 4, 2) := by decide +kernel
theorem dX2_walk_61 : decode cX2_walk 61 = .ok (.goto (-44), 3) := by decide +kernel
theorem dX2_walk_64 : decode cX2_walk 64 = .ok (.iload_n 3, 1) := by decide +kernel
theorem dX2_walk_65 : decode cX2_walk 65 = .ok (.ireturn, 1) := by decide +kernel
set_option maxRecDepth 20000 in
theorem ggX2_first_X2_open : GoodIn wsX2_first wsX2_open := goodIn_r _ [8, 9, 10, 11, 7, 12, 13, 14, 15, 16, 17, 18, 19, 20, 21, 22, 23, 24, 25, 26, 27] (by decide +kernel) (by decide +kernel)
set_option maxRecDepth 20000 in
theorem gX2_first_X2_open : GoodIn wsX2_first (wsV RX2 83 RX2 yX2_open wsX2_open) := goodIn_app (goodIn_of _ (by decide +kernel)) ggX2_first_X2_open
theorem dX2_first_0 : decode cX2_first 0 = .ok (.iconst 0, 1) := by decide +kernel
theorem dX2_first_1 : decode cX2_first 1 = .ok (.istore_n 3, 1) := by decide +kernel
theorem dX2_first_2 : decode cX2_first 2 = .ok (.iload_n 3, 1) := by decide +kernel
theorem dX2_first_3 : decode cX2_first 3 = .ok (.aload_n 0, 1) := by decide +kernel
theorem dX2_first_4 : decode cX2_first 4 = .ok (.getfield 43, 3) := by decide +kernel
theorem dX2_first_7 : decode cX2_first 7 = .ok (.if_icmp .ge 55, 3) := by decide +kernel
theorem dX2_first_10 : decode cX2_first 10 = .ok (.aload_n 1, 1) := by decide +kernel
theorem dX2_first_11 : decode cX2_first 11 = .ok (.iload_n 3, 1) := by decide +kernel
theorem dX2_first_12 : decode cX2_first 12 = .ok (.iaload, 1) := by decide +kernel
theorem dX2_first_13 : decode cX2_first 13 = .ok (.istore 4, 2) := by decide +kernel
theorem dX2_first_15 : decode cX2_first 15 = .ok (.aload_n 0, 1) := by decide +kernel
theorem dX2_first_16 : decode cX2_first 16 = .ok (.getfield 16, 3) := by decide +kernel
theorem dX2_first_19 : decode cX2_first 19 = .ok (.iload 4, 2) := by decide +kernel
theorem dX2_first_21 : decode cX2_first 21 = .ok (.iaload, 1) := by decide +kernel
theorem dX2_first_22 : decode cX2_first 22 = .ok (.iload_n 2, 1) := by decide +kernel
theorem dX2_first_23 : decode cX2_first 23 = .ok (.iconst (-1), 1) := by decide +kernel
theorem dX2_first_24 : decode cX2_first 24 = .ok (.ixor, 1) := by decide +kernel
theorem dX2_first_25 : decode cX2_first 25 = .ok (.iand, 1) := by decide +kernel
theorem dX2_first_26 : decode cX2_first 26 = .ok (.ifCond .ne 30, 3) := by decide +kernel
theorem dX2_first_29 : decode cX2_first 29 = .ok (.aload_n 0, 1) := by decide +kernel
theorem dX2_first_30 : decode cX2_first 30 = .ok (.iload 4, 2) := by decide +kernel
theorem dX2_first_32 : decode cX2_first 32 = .ok (.iload_n 2, 1) := by decide +kernel
theorem dX2_first_33 : decode cX2_first 33 = .ok (.invokevirtual 83, 3) := by decide +kernel
theorem dX2_first_36 : decode cX2_first 36 = .ok (.ifCond .eq 20, 3) := by decide +kernel
theorem dX2_first_39 : decode cX2_first 39 = .ok (.iload_n 2, 1) := by decide +kernel
theorem dX2_first_40 : decode cX2_first 40 = .ok (.aload_n 0, 1) := by decide +kernel
theorem dX2_first_41 : decode cX2_first 41 = .ok (.getfield 22, 3) := by decide +kernel
theorem dX2_first_44 : decode cX2_first 44 = .ok (.iload 4, 2) := by decide +kernel
theorem dX2_first_46 : decode cX2_first 46 = .ok (.iaload, 1) := by decide +kernel
theorem dX2_first_47 : decode cX2_first 47 = .ok (.ishr, 1) := by decide +kernel
theorem dX2_first_48 : decode cX2_first 48 = .ok (.iconst 1, 1) := by decide +kernel
theorem dX2_first_49 : decode cX2_first 49 = .ok (.iand, 1) := by decide +kernel
theorem dX2_first_50 : decode cX2_first 50 = .ok (.ifCond .ne 6, 3) := by decide +kernel
theorem dX2_first_53 : decode cX2_first 53 = .ok (.iload 4, 2) := by decide +kernel
theorem dX2_first_55 : decode cX2_first 55 = .ok (.ireturn, 1) := by decide +kernel
theorem dX2_first_56 : decode cX2_first 56 = .ok (.iinc 3 1, 3) := by decide +kernel
theorem dX2_first_59 : decode cX2_first 59 = .ok (.goto (-57), 3) := by decide +kernel
theorem dX2_first_62 : decode cX2_first 62 = .ok (.iconst (-1), 1) := by decide +kernel
theorem dX2_first_63 : decode cX2_first 63 = .ok (.ireturn, 1) := by decide +kernel
set_option maxRecDepth 20000 in
theorem ggX2_isOrder_X2_orders : GoodIn wsX2_isOrder wsX2_orders := goodIn_r _ [6, 7, 8, 9, 10, 11, 12, 13, 14, 15, 16, 17, 18, 19, 20, 21, 22] (by decide +kernel) (by decide +kernel)
set_option maxRecDepth 20000 in
theorem gX2_isOrder_X2_orders : GoodIn wsX2_isOrder (wsV RX2 98 RX2 yX2_orders wsX2_orders) := goodIn_app (goodIn_of _ (by decide +kernel)) ggX2_isOrder_X2_orders
theorem dX2_isOrder_0 : decode cX2_isOrder 0 = .ok (.aload_n 0, 1) := by decide +kernel
theorem dX2_isOrder_1 : decode cX2_isOrder 1 = .ok (.iload_n 1, 1) := by decide +kernel
theorem dX2_isOrder_2 : decode cX2_isOrder 2 = .ok (.ifCond .lt 15, 3) := by decide +kernel
theorem dX2_isOrder_5 : decode cX2_isOrder 5 = .ok (.iload_n 1, 1) := by decide +kernel
theorem dX2_isOrder_6 : decode cX2_isOrder 6 = .ok (.aload_n 0, 1) := by decide +kernel
theorem dX2_isOrder_7 : decode cX2_isOrder 7 = .ok (.invokevirtual 98, 3) := by decide +kernel
theorem dX2_isOrder_10 : decode cX2_isOrder 10 = .ok (.if_icmp .ge 7, 3) := by decide +kernel
theorem dX2_isOrder_13 : decode cX2_isOrder 13 = .ok (.iconst 0, 1) := by decide +kernel
theorem dX2_isOrder_14 : decode cX2_isOrder 14 = .ok (.goto 4, 3) := by decide +kernel
theorem dX2_isOrder_17 : decode cX2_isOrder 17 = .ok (.iconst 1, 1) := by decide +kernel
theorem dX2_isOrder_18 : decode cX2_isOrder 18 = .ok (.putfield 38, 3) := by decide +kernel
theorem dX2_isOrder_21 : decode cX2_isOrder 21 = .ok (.aload_n 0, 1) := by decide +kernel
theorem dX2_isOrder_22 : decode cX2_isOrder 22 = .ok (.getfield 38, 3) := by decide +kernel
theorem dX2_isOrder_25 : decode cX2_isOrder 25 = .ok (.ifCond .ne 7, 3) := by decide +kernel
theorem dX2_isOrder_28 : decode cX2_isOrder 28 = .ok (.iconst 1, 1) := by decide +kernel
theorem dX2_isOrder_29 : decode cX2_isOrder 29 = .ok (.goto 4, 3) := by decide +kernel
theorem dX2_isOrder_32 : decode cX2_isOrder 32 = .ok (.iconst 0, 1) := by decide +kernel
theorem dX2_isOrder_33 : decode cX2_isOrder 33 = .ok (.ireturn, 1) := by decide +kernel
set_option maxRecDepth 20000 in
theorem ggX2_walk__X2_isOrder : GoodIn wsX2_walk_ wsX2_isOrder := goodIn_r _ [8, 9, 10, 11, 12, 7, 13, 14, 47, 48, 49, 50, 51, 52, 53, 54, 55, 56, 57, 58, 59, 60, 61] (by decide +kernel) (by decide +kernel)
set_option maxRecDepth 20000 in
theorem gX2_walk__X2_isOrder : GoodIn wsX2_walk_ (wsV RX2 127 RX2 yX2_isOrder wsX2_isOrder) := goodIn_app (goodIn_of _ (by decide +kernel)) ggX2_walk__X2_isOrder
set_option maxRecDepth 20000 in
theorem ggX2_walk__X2_setOrder : GoodIn wsX2_walk_ wsX2_setOrder := goodIn_r _ [18, 19, 14, 10, 11, 12, 7, 13, 47, 48, 49, 50, 51, 52, 53, 54, 55, 56, 57, 58, 59, 60, 61] (by decide +kernel) (by decide +kernel)
set_option maxRecDepth 20000 in
theorem gX2_walk__X2_setOrder : GoodIn wsX2_walk_ (wsV RX2 102 RX2 yX2_setOrder wsX2_setOrder) := goodIn_app (goodIn_of _ (by decide +kernel)) ggX2_walk__X2_setOrder
set_option maxRecDepth 20000 in
theorem ggX2_walk__X2_walk : GoodIn wsX2_walk_ wsX2_walk := goodIn_r _ [23, 24, 25, 26, 27, 28, 7, 29, 30, 31, 32, 33, 34, 35, 36, 37, 38, 39, 40, 14, 41, 42, 43, 44, 45, 46, 47, 48, 49, 50, 51, 52, 53, 54, 55, 56, 57, 58, 59, 60, 61] (by decide +kernel) (by decide +kernel)
set_option maxRecDepth 20000 in
theorem gX2_walk__X2_walk : GoodIn wsX2_walk_ (wsV RX2 110 RX2 yX2_walk wsX2_walk) := goodIn_app (goodIn_of _ (by decide +kernel)) ggX2_walk__X2_walk
theorem dX2_walk__0 : decode cX2_walk_ 0 = .ok (.aload_n 0, 1) := by decide +kernel
theorem dX2_walk__1 : decode cX2_walk_ 1 = .ok (.iload_n 1, 1) := by decide +kernel
theorem dX2_walk__2 : decode cX2_walk_ 2 = .ok (.invokevirtual 127, 3) := by decide +kernel
theorem dX2_walk__5 : decode cX2_walk_ 5 = .ok (.ifCond .ne 5, 3) := by decide +kernel
theorem dX2_walk__8 : decode cX2_walk_ 8 = .ok (.iconst 0, 1) := by decide +kernel
theorem dX2_walk__9 : decode cX2_walk_ 9 = .ok (.ireturn, 1) := by decide +kernel
theorem dX2_walk__10 : decode cX2_walk_ 10 = .ok (.bipush 6, 2) := by decide +kernel
theorem dX2_walk__12 : decode cX2_walk_ 12 = .ok (.newarray .int, 2) := by decide +kernel
theorem dX2_walk__14 : decode cX2_walk_ 14 = .ok (.astore_n 2, 1) := by decide +kernel
theorem dX2_walk__15 : decode cX2_walk_ 15 = .ok (.aload_n 0, 1) := by decide +kernel
theorem dX2_walk__16 : decode cX2_walk_ 16 = .ok (.aload_n 2, 1) := by decide +kernel
theorem dX2_walk__17 : decode cX2_walk_ 17 = .ok (.iload_n 1, 1) := by decide +kernel
theorem dX2_walk__18 : decode cX2_walk_ 18 = .ok (.invokevirtual 102, 3) := by decide +kernel
theorem dX2_walk__21 : decode cX2_walk_ 21 = .ok (.bipush 7, 2) := by decide +kernel
theorem dX2_walk__23 : decode cX2_walk_ 23 = .ok (.newarray .int, 2) := by decide +kernel
theorem dX2_walk__25 : decode cX2_walk_ 25 = .ok (.astore_n 3, 1) := by decide +kernel
theorem dX2_walk__26 : decode cX2_walk_ 26 = .ok (.aload_n 0, 1) := by decide +kernel
theorem dX2_walk__27 : decode cX2_walk_ 27 = .ok (.aload_n 2, 1) := by decide +kernel
theorem dX2_walk__28 : decode cX2_walk_ 28 = .ok (.aload_n 3, 1) := by decide +kernel
theorem dX2_walk__29 : decode cX2_walk_ 29 = .ok (.invokevirtual 110, 3) := by decide +kernel
theorem dX2_walk__32 : decode cX2_walk_ 32 = .ok (.istore 4, 2) := by decide +kernel
theorem dX2_walk__34 : decode cX2_walk_ 34 = .ok (.aload_n 0, 1) := by decide +kernel
theorem dX2_walk__35 : decode cX2_walk_ 35 = .ok (.aload_n 3, 1) := by decide +kernel
theorem dX2_walk__36 : decode cX2_walk_ 36 = .ok (.iconst 0, 1) := by decide +kernel
theorem dX2_walk__37 : decode cX2_walk_ 37 = .ok (.iaload, 1) := by decide +kernel
theorem dX2_walk__38 : decode cX2_walk_ 38 = .ok (.putfield 130, 3) := by decide +kernel
theorem dX2_walk__41 : decode cX2_walk_ 41 = .ok (.iconst 0, 1) := by decide +kernel
theorem dX2_walk__42 : decode cX2_walk_ 42 = .ok (.istore 5, 2) := by decide +kernel
theorem dX2_walk__44 : decode cX2_walk_ 44 = .ok (.iload 5, 2) := by decide +kernel
theorem dX2_walk__46 : decode cX2_walk_ 46 = .ok (.aload_n 0, 1) := by decide +kernel
theorem dX2_walk__47 : decode cX2_walk_ 47 = .ok (.getfield 130, 3) := by decide +kernel
theorem dX2_walk__50 : decode cX2_walk_ 50 = .ok (.if_icmp .ge 22, 3) := by decide +kernel
theorem dX2_walk__53 : decode cX2_walk_ 53 = .ok (.aload_n 0, 1) := by decide +kernel
theorem dX2_walk__54 : decode cX2_walk_ 54 = .ok (.getfield 29, 3) := by decide +kernel
theorem dX2_walk__57 : decode cX2_walk_ 57 = .ok (.iload 5, 2) := by decide +kernel
theorem dX2_walk__59 : decode cX2_walk_ 59 = .ok (.aload_n 3, 1) := by decide +kernel
theorem dX2_walk__60 : decode cX2_walk_ 60 = .ok (.iload 5, 2) := by decide +kernel
theorem dX2_walk__62 : decode cX2_walk_ 62 = .ok (.iconst 1, 1) := by decide +kernel
theorem dX2_walk__63 : decode cX2_walk_ 63 = .ok (.iadd, 1) := by decide +kernel
theorem dX2_walk__64 : decode cX2_walk_ 64 = .ok (.iaload, 1) := by decide +kernel
theorem dX2_walk__65 : decode cX2_walk_ 65 = .ok (.iastore, 1) := by decide +kernel
theorem dX2_walk__66 : decode cX2_walk_ 66 = .ok (.iinc 5 1, 3) := by decide +kernel
theorem dX2_walk__69 : decode cX2_walk_ 69 = .ok (.goto (-25), 3) := by decide +kernel
theorem dX2_walk__72 : decode cX2_walk_ 72 = .ok (.iload 4, 2) := by decide +kernel
theorem dX2_walk__74 : decode cX2_walk_ 74 = .ok (.ireturn, 1) := by decide +kernel
theorem dX2_appliedCount_0 : decode cX2_appliedCount 0 = .ok (.aload_n 0, 1) := by decide +kernel
theorem dX2_appliedCount_1 : decode cX2_appliedCount 1 = .ok (.iconst 0, 1) := by decide +kernel
theorem dX2_appliedCount_2 : decode cX2_appliedCount 2 = .ok (.putfield 38, 3) := by decide +kernel
theorem dX2_appliedCount_5 : decode cX2_appliedCount 5 = .ok (.aload_n 0, 1) := by decide +kernel
theorem dX2_appliedCount_6 : decode cX2_appliedCount 6 = .ok (.getfield 130, 3) := by decide +kernel
theorem dX2_appliedCount_9 : decode cX2_appliedCount 9 = .ok (.ireturn, 1) := by decide +kernel
set_option maxRecDepth 20000 in
theorem ggX2_applied_X2_fail : GoodIn wsX2_applied wsX2_fail := goodIn_r _ [8, 1, 9, 10, 11, 12, 13, 14, 15, 16, 17, 18, 19, 20, 21, 22, 23] (by decide +kernel) (by decide +kernel)
set_option maxRecDepth 20000 in
theorem gX2_applied_X2_fail : GoodIn wsX2_applied (wsV RX2 53 RX2 yX2_fail wsX2_fail) := goodIn_app (goodIn_of _ (by decide +kernel)) ggX2_applied_X2_fail
theorem dX2_applied_0 : decode cX2_applied 0 = .ok (.aload_n 0, 1) := by decide +kernel
theorem dX2_applied_1 : decode cX2_applied 1 = .ok (.iconst 0, 1) := by decide +kernel
theorem dX2_applied_2 : decode cX2_applied 2 = .ok (.putfield 38, 3) := by decide +kernel
theorem dX2_applied_5 : decode cX2_applied 5 = .ok (.iload_n 1, 1) := by decide +kernel
theorem dX2_applied_6 : decode cX2_applied 6 = .ok (.ifCond .lt 20, 3) := by decide +kernel
theorem dX2_applied_9 : decode cX2_applied 9 = .ok (.iload_n 1, 1) := by decide +kernel
theorem dX2_applied_10 : decode cX2_applied 10 = .ok (.aload_n 0, 1) := by decide +kernel
theorem dX2_applied_11 : decode cX2_applied 11 = .ok (.getfield 130, 3) := by decide +kernel
theorem dX2_applied_14 : decode cX2_applied 14 = .ok (.if_icmp .ge 12, 3) := by decide +kernel
theorem dX2_applied_17 : decode cX2_applied 17 = .ok (.aload_n 0, 1) := by decide +kernel
theorem dX2_applied_18 : decode cX2_applied 18 = .ok (.getfield 29, 3) := by decide +kernel
theorem dX2_applied_21 : decode cX2_applied 21 = .ok (.iload_n 1, 1) := by decide +kernel
theorem dX2_applied_22 : decode cX2_applied 22 = .ok (.iaload, 1) := by decide +kernel
theorem dX2_applied_23 : decode cX2_applied 23 = .ok (.goto 8, 3) := by decide +kernel
theorem dX2_applied_26 : decode cX2_applied 26 = .ok (.aload_n 0, 1) := by decide +kernel
theorem dX2_applied_27 : decode cX2_applied 27 = .ok (.iconst 1, 1) := by decide +kernel
theorem dX2_applied_28 : decode cX2_applied 28 = .ok (.invokevirtual 53, 3) := by decide +kernel
theorem dX2_applied_31 : decode cX2_applied 31 = .ok (.ireturn, 1) := by decide +kernel
set_option maxRecDepth 20000 in
theorem ggX2_respects__X2_isOrder : GoodIn wsX2_respects_ wsX2_isOrder := goodIn_r _ [6, 7, 8, 9, 10, 5, 11, 12, 31, 32, 33, 34, 35, 36, 37, 38, 39, 40, 41, 42, 43, 44, 45] (by decide +kernel) (by decide +kernel)
set_option maxRecDepth 20000 in
theorem gX2_respects__X2_isOrder : GoodIn wsX2_respects_ (wsV RX2 127 RX2 yX2_isOrder wsX2_isOrder) := goodIn_app (goodIn_of _ (by decide +kernel)) ggX2_respects__X2_isOrder
set_option maxRecDepth 20000 in
theorem ggX2_respects__X2_setOrder : GoodIn wsX2_respects_ wsX2_setOrder := goodIn_r _ [16, 17, 12, 8, 9, 10, 5, 11, 31, 32, 33, 34, 35, 36, 37, 38, 39, 40, 41, 42, 43, 44, 45] (by decide +kernel) (by decide +kernel)
set_option maxRecDepth 20000 in
theorem gX2_respects__X2_setOrder : GoodIn wsX2_respects_ (wsV RX2 102 RX2 yX2_setOrder wsX2_setOrder) := goodIn_app (goodIn_of _ (by decide +kernel)) ggX2_respects__X2_setOrder
set_option maxRecDepth 20000 in
theorem ggX2_respects__X2_respects : GoodIn wsX2_respects_ wsX2_respects := goodIn_r _ [21, 12, 22, 23, 24, 5, 25, 26, 27, 28, 29, 30, 31, 32, 33, 34, 35, 36, 37, 38, 39, 40, 41, 42, 43, 44, 45] (by decide +kernel) (by decide +kernel)
set_option maxRecDepth 20000 in
theorem gX2_respects__X2_respects : GoodIn wsX2_respects_ (wsV RX2 106 RX2 yX2_respects wsX2_respects) := goodIn_app (goodIn_of _ (by decide +kernel)) ggX2_respects__X2_respects
theorem dX2_respects__0 : decode cX2_respects_ 0 = .ok (.aload_n 0, 1) := by decide +kernel
theorem dX2_respects__1 : decode cX2_respects_ 1 = .ok (.iload_n 1, 1) := by decide +kernel
theorem dX2_respects__2 : decode cX2_respects_ 2 = .ok (.invokevirtual 127, 3) := by decide +kernel
theorem dX2_respects__5 : decode cX2_respects_ 5 = .ok (.ifCond .ne 5, 3) := by decide +kernel
theorem dX2_respects__8 : decode cX2_respects_ 8 = .ok (.iconst 0, 1) := by decide +kernel
theorem dX2_respects__9 : decode cX2_respects_ 9 = .ok (.ireturn, 1) := by decide +kernel
theorem dX2_respects__10 : decode cX2_respects_ 10 = .ok (.bipush 6, 2) := by decide +kernel
theorem dX2_respects__12 : decode cX2_respects_ 12 = .ok (.newarray .int, 2) := by decide +kernel
theorem dX2_respects__14 : decode cX2_respects_ 14 = .ok (.astore_n 2, 1) := by decide +kernel
theorem dX2_respects__15 : decode cX2_respects_ 15 = .ok (.aload_n 0, 1) := by decide +kernel
theorem dX2_respects__16 : decode cX2_respects_ 16 = .ok (.aload_n 2, 1) := by decide +kernel
theorem dX2_respects__17 : decode cX2_respects_ 17 = .ok (.iload_n 1, 1) := by decide +kernel
theorem dX2_respects__18 : decode cX2_respects_ 18 = .ok (.invokevirtual 102, 3) := by decide +kernel
theorem dX2_respects__21 : decode cX2_respects_ 21 = .ok (.aload_n 0, 1) := by decide +kernel
theorem dX2_respects__22 : decode cX2_respects_ 22 = .ok (.aload_n 2, 1) := by decide +kernel
theorem dX2_respects__23 : decode cX2_respects_ 23 = .ok (.invokevirtual 106, 3) := by decide +kernel
theorem dX2_respects__26 : decode cX2_respects_ 26 = .ok (.ireturn, 1) := by decide +kernel
set_option maxRecDepth 20000 in
theorem ggX2_digest_X2_before : GoodIn wsX2_digest wsX2_before := goodIn_r _ [18, 19, 20, 21, 17, 22, 23, 8, 24, 25, 26, 27, 28, 29, 30, 31, 32, 33, 34, 35, 36, 37, 38] (by decide +kernel) (by decide +kernel)
set_option maxRecDepth 20000 in
theorem gX2_digest_X2_before : GoodIn wsX2_digest (wsV RX2 70 RX2 yX2_before wsX2_before) := goodIn_app (goodIn_of _ (by decide +kernel)) ggX2_digest_X2_before
theorem dX2_digest_0 : decode cX2_digest 0 = .ok (.aload_n 0, 1) := by decide +kernel
theorem dX2_digest_1 : decode cX2_digest 1 = .ok (.iconst 0, 1) := by decide +kernel
theorem dX2_digest_2 : decode cX2_digest 2 = .ok (.putfield 38, 3) := by decide +kernel
theorem dX2_digest_5 : decode cX2_digest 5 = .ok (.ldc2_w 133, 3) := by decide +kernel
theorem dX2_digest_8 : decode cX2_digest 8 = .ok (.aload_n 0, 1) := by decide +kernel
theorem dX2_digest_9 : decode cX2_digest 9 = .ok (.getfield 50, 3) := by decide +kernel
theorem dX2_digest_12 : decode cX2_digest 12 = .ok (.i2l, 1) := by decide +kernel
theorem dX2_digest_13 : decode cX2_digest 13 = .ok (.ladd, 1) := by decide +kernel
theorem dX2_digest_14 : decode cX2_digest 14 = .ok (.ldc2_w 135, 3) := by decide +kernel
theorem dX2_digest_17 : decode cX2_digest 17 = .ok (.lmul, 1) := by decide +kernel
theorem dX2_digest_18 : decode cX2_digest 18 = .ok (.aload_n 0, 1) := by decide +kernel
theorem dX2_digest_19 : decode cX2_digest 19 = .ok (.getfield 60, 3) := by decide +kernel
theorem dX2_digest_22 : decode cX2_digest 22 = .ok (.i2l, 1) := by decide +kernel
theorem dX2_digest_23 : decode cX2_digest 23 = .ok (.ladd, 1) := by decide +kernel
theorem dX2_digest_24 : decode cX2_digest 24 = .ok (.lstore_n 1, 1) := by decide +kernel
theorem dX2_digest_25 : decode cX2_digest 25 = .ok (.iconst 0, 1) := by decide +kernel
theorem dX2_digest_26 : decode cX2_digest 26 = .ok (.istore_n 3, 1) := by decide +kernel
theorem dX2_digest_27 : decode cX2_digest 27 = .ok (.iload_n 3, 1) := by decide +kernel
theorem dX2_digest_28 : decode cX2_digest 28 = .ok (.aload_n 0, 1) := by decide +kernel
theorem dX2_digest_29 : decode cX2_digest 29 = .ok (.getfield 60, 3) := by decide +kernel
theorem dX2_digest_32 : decode cX2_digest 32 = .ok (.if_icmp .ge 35, 3) := by decide +kernel
theorem dX2_digest_35 : decode cX2_digest 35 = .ok (.lload_n 1, 1) := by decide +kernel
theorem dX2_digest_36 : decode cX2_digest 36 = .ok (.ldc2_w 135, 3) := by decide +kernel
theorem dX2_digest_39 : decode cX2_digest 39 = .ok (.lmul, 1) := by decide +kernel
theorem dX2_digest_40 : decode cX2_digest 40 = .ok (.aload_n 0, 1) := by decide +kernel
theorem dX2_digest_41 : decode cX2_digest 41 = .ok (.getfield 9, 3) := by decide +kernel
theorem dX2_digest_44 : decode cX2_digest 44 = .ok (.iload_n 3, 1) := by decide +kernel
theorem dX2_digest_45 : decode cX2_digest 45 = .ok (.iaload, 1) := by decide +kernel
theorem dX2_digest_46 : decode cX2_digest 46 = .ok (.i2l, 1) := by decide +kernel
theorem dX2_digest_47 : decode cX2_digest 47 = .ok (.ladd, 1) := by decide +kernel
theorem dX2_digest_48 : decode cX2_digest 48 = .ok (.ldc2_w 135, 3) := by decide +kernel
theorem dX2_digest_51 : decode cX2_digest 51 = .ok (.lmul, 1) := by decide +kernel
theorem dX2_digest_52 : decode cX2_digest 52 = .ok (.aload_n 0, 1) := by decide +kernel
theorem dX2_digest_53 : decode cX2_digest 53 = .ok (.getfield 13, 3) := by decide +kernel
theorem dX2_digest_56 : decode cX2_digest 56 = .ok (.iload_n 3, 1) := by decide +kernel
theorem dX2_digest_57 : decode cX2_digest 57 = .ok (.iaload, 1) := by decide +kernel
theorem dX2_digest_58 : decode cX2_digest 58 = .ok (.i2l, 1) := by decide +kernel
theorem dX2_digest_59 : decode cX2_digest 59 = .ok (.ladd, 1) := by decide +kernel
theorem dX2_digest_60 : decode cX2_digest 60 = .ok (.lstore_n 1, 1) := by decide +kernel
theorem dX2_digest_61 : decode cX2_digest 61 = .ok (.iinc 3 1, 3) := by decide +kernel
theorem dX2_digest_64 : decode cX2_digest 64 = .ok (.goto (-37), 3) := by decide +kernel
theorem dX2_digest_67 : decode cX2_digest 67 = .ok (.lload_n 1, 1) := by decide +kernel
theorem dX2_digest_68 : decode cX2_digest 68 = .ok (.ldc2_w 135, 3) := by decide +kernel
theorem dX2_digest_71 : decode cX2_digest 71 = .ok (.lmul, 1) := by decide +kernel
theorem dX2_digest_72 : decode cX2_digest 72 = .ok (.aload_n 0, 1) := by decide +kernel
theorem dX2_digest_73 : decode cX2_digest 73 = .ok (.getfield 43, 3) := by decide +kernel
theorem dX2_digest_76 : decode cX2_digest 76 = .ok (.i2l, 1) := by decide +kernel
theorem dX2_digest_77 : decode cX2_digest 77 = .ok (.ladd, 1) := by decide +kernel
theorem dX2_digest_78 : decode cX2_digest 78 = .ok (.lstore_n 1, 1) := by decide +kernel
theorem dX2_digest_79 : decode cX2_digest 79 = .ok (.iconst 0, 1) := by decide +kernel
theorem dX2_digest_80 : decode cX2_digest 80 = .ok (.istore_n 3, 1) := by decide +kernel
theorem dX2_digest_81 : decode cX2_digest 81 = .ok (.iload_n 3, 1) := by decide +kernel
theorem dX2_digest_82 : decode cX2_digest 82 = .ok (.aload_n 0, 1) := by decide +kernel
theorem dX2_digest_83 : decode cX2_digest 83 = .ok (.getfield 43, 3) := by decide +kernel
theorem dX2_digest_86 : decode cX2_digest 86 = .ok (.if_icmp .ge 47, 3) := by decide +kernel
theorem dX2_digest_89 : decode cX2_digest 89 = .ok (.lload_n 1, 1) := by decide +kernel
theorem dX2_digest_90 : decode cX2_digest 90 = .ok (.ldc2_w 135, 3) := by decide +kernel
theorem dX2_digest_93 : decode cX2_digest 93 = .ok (.lmul, 1) := by decide +kernel
theorem dX2_digest_94 : decode cX2_digest 94 = .ok (.aload_n 0, 1) := by decide +kernel
theorem dX2_digest_95 : decode cX2_digest 95 = .ok (.getfield 16, 3) := by decide +kernel
theorem dX2_digest_98 : decode cX2_digest 98 = .ok (.iload_n 3, 1) := by decide +kernel
theorem dX2_digest_99 : decode cX2_digest 99 = .ok (.iaload, 1) := by decide +kernel
theorem dX2_digest_100 : decode cX2_digest 100 = .ok (.i2l, 1) := by decide +kernel
theorem dX2_digest_101 : decode cX2_digest 101 = .ok (.ladd, 1) := by decide +kernel
theorem dX2_digest_102 : decode cX2_digest 102 = .ok (.ldc2_w 135, 3) := by decide +kernel
theorem dX2_digest_105 : decode cX2_digest 105 = .ok (.lmul, 1) := by decide +kernel
theorem dX2_digest_106 : decode cX2_digest 106 = .ok (.aload_n 0, 1) := by decide +kernel
theorem dX2_digest_107 : decode cX2_digest 107 = .ok (.getfield 19, 3) := by decide +kernel
theorem dX2_digest_110 : decode cX2_digest 110 = .ok (.iload_n 3, 1) := by decide +kernel
theorem dX2_digest_111 : decode cX2_digest 111 = .ok (.iaload, 1) := by decide +kernel
theorem dX2_digest_112 : decode cX2_digest 112 = .ok (.i2l, 1) := by decide +kernel
theorem dX2_digest_113 : decode cX2_digest 113 = .ok (.ladd, 1) := by decide +kernel
theorem dX2_digest_114 : decode cX2_digest 114 = .ok (.ldc2_w 135, 3) := by decide +kernel
theorem dX2_digest_117 : decode cX2_digest 117 = .ok (.lmul, 1) := by decide +kernel
theorem dX2_digest_118 : decode cX2_digest 118 = .ok (.aload_n 0, 1) := by decide +kernel
theorem dX2_digest_119 : decode cX2_digest 119 = .ok (.getfield 22, 3) := by decide +kernel
theorem dX2_digest_122 : decode cX2_digest 122 = .ok (.iload_n 3, 1) := by decide +kernel
theorem dX2_digest_123 : decode cX2_digest 123 = .ok (.iaload, 1) := by decide +kernel
theorem dX2_digest_124 : decode cX2_digest 124 = .ok (.i2l, 1) := by decide +kernel
theorem dX2_digest_125 : decode cX2_digest 125 = .ok (.ladd, 1) := by decide +kernel
theorem dX2_digest_126 : decode cX2_digest 126 = .ok (.lstore_n 1, 1) := by decide +kernel
theorem dX2_digest_127 : decode cX2_digest 127 = .ok (.iinc 3 1, 3) := by decide +kernel
theorem dX2_digest_130 : decode cX2_digest 130 = .ok (.goto (-49), 3) := by decide +kernel
theorem dX2_digest_133 : decode cX2_digest 133 = .ok (.iconst 0, 1) := by decide +kernel
theorem dX2_digest_134 : decode cX2_digest 134 = .ok (.istore_n 3, 1) := by decide +kernel
theorem dX2_digest_135 : decode cX2_digest 135 = .ok (.iload_n 3, 1) := by decide +kernel
theorem dX2_digest_136 : decode cX2_digest 136 = .ok (.aload_n 0, 1) := by decide +kernel
theorem dX2_digest_137 : decode cX2_digest 137 = .ok (.getfield 43, 3) := by decide +kernel
theorem dX2_digest_140 : decode cX2_digest 140 = .ok (.if_icmp .ge 49, 3) := by decide +kernel
theorem dX2_digest_143 : decode cX2_digest 143 = .ok (.iconst 0, 1) := by decide +kernel
theorem dX2_digest_144 : decode cX2_digest 144 = .ok (.istore 4, 2) := by decide +kernel
theorem dX2_digest_146 : decode cX2_digest 146 = .ok (.iload 4, 2) := by decide +kernel
theorem dX2_digest_148 : decode cX2_digest 148 = .ok (.aload_n 0, 1) := by decide +kernel
theorem dX2_digest_149 : decode cX2_digest 149 = .ok (.getfield 43, 3) := by decide +kernel
theorem dX2_digest_152 : decode cX2_digest 152 = .ok (.if_icmp .ge 31, 3) := by decide +kernel
theorem dX2_digest_155 : decode cX2_digest 155 = .ok (.lload_n 1, 1) := by decide +kernel
theorem dX2_digest_156 : decode cX2_digest 156 = .ok (.ldc2_w 135, 3) := by decide +kernel
theorem dX2_digest_159 : decode cX2_digest 159 = .ok (.lmul, 1) := by decide +kernel
theorem dX2_digest_160 : decode cX2_digest 160 = .ok (.aload_n 0, 1) := by decide +kernel
theorem dX2_digest_161 : decode cX2_digest 161 = .ok (.iload_n 3, 1) := by decide +kernel
theorem dX2_digest_162 : decode cX2_digest 162 = .ok (.iload 4, 2) := by decide +kernel
theorem dX2_digest_164 : decode cX2_digest 164 = .ok (.invokevirtual 70, 3) := by decide +kernel
theorem dX2_digest_167 : decode cX2_digest 167 = .ok (.ifCond .eq 7, 3) := by decide +kernel
theorem dX2_digest_170 : decode cX2_digest 170 = .ok (.lconst 1, 1) := by decide +kernel
theorem dX2_digest_171 : decode cX2_digest 171 = .ok (.goto 4, 3) := by decide +kernel
theorem dX2_digest_174 : decode cX2_digest 174 = .ok (.lconst 0, 1) := by decide +kernel
theorem dX2_digest_175 : decode cX2_digest 175 = .ok (.ladd, 1) := by decide +kernel
theorem dX2_digest_176 : decode cX2_digest 176 = .ok (.lstore_n 1, 1) := by decide +kernel
theorem dX2_digest_177 : decode cX2_digest 177 = .ok (.iinc 4 1, 3) := by decide +kernel
theorem dX2_digest_180 : decode cX2_digest 180 = .ok (.goto (-34), 3) := by decide +kernel
theorem dX2_digest_183 : decode cX2_digest 183 = .ok (.iinc 3 1, 3) := by decide +kernel
theorem dX2_digest_186 : decode cX2_digest 186 = .ok (.goto (-51), 3) := by decide +kernel
theorem dX2_digest_189 : decode cX2_digest 189 = .ok (.lload_n 1, 1) := by decide +kernel
theorem dX2_digest_190 : decode cX2_digest 190 = .ok (.ldc2_w 135, 3) := by decide +kernel
theorem dX2_digest_193 : decode cX2_digest 193 = .ok (.lmul, 1) := by decide +kernel
theorem dX2_digest_194 : decode cX2_digest 194 = .ok (.aload_n 0, 1) := by decide +kernel
theorem dX2_digest_195 : decode cX2_digest 195 = .ok (.getfield 130, 3) := by decide +kernel
theorem dX2_digest_198 : decode cX2_digest 198 = .ok (.i2l, 1) := by decide +kernel
theorem dX2_digest_199 : decode cX2_digest 199 = .ok (.ladd, 1) := by decide +kernel
theorem dX2_digest_200 : decode cX2_digest 200 = .ok (.lstore_n 1, 1) := by decide +kernel
theorem dX2_digest_201 : decode cX2_digest 201 = .ok (.iconst 0, 1) := by decide +kernel
theorem dX2_digest_202 : decode cX2_digest 202 = .ok (.istore_n 3, 1) := by decide +kernel
theorem dX2_digest_203 : decode cX2_digest 203 = .ok (.iload_n 3, 1) := by decide +kernel
theorem dX2_digest_204 : decode cX2_digest 204 = .ok (.aload_n 0, 1) := by decide +kernel
theorem dX2_digest_205 : decode cX2_digest 205 = .ok (.getfield 130, 3) := by decide +kernel
theorem dX2_digest_208 : decode cX2_digest 208 = .ok (.if_icmp .ge 23, 3) := by decide +kernel
theorem dX2_digest_211 : decode cX2_digest 211 = .ok (.lload_n 1, 1) := by decide +kernel
theorem dX2_digest_212 : decode cX2_digest 212 = .ok (.ldc2_w 135, 3) := by decide +kernel
theorem dX2_digest_215 : decode cX2_digest 215 = .ok (.lmul, 1) := by decide +kernel
theorem dX2_digest_216 : decode cX2_digest 216 = .ok (.aload_n 0, 1) := by decide +kernel
theorem dX2_digest_217 : decode cX2_digest 217 = .ok (.getfield 29, 3) := by decide +kernel
theorem dX2_digest_220 : decode cX2_digest 220 = .ok (.iload_n 3, 1) := by decide +kernel
theorem dX2_digest_221 : decode cX2_digest 221 = .ok (.iaload, 1) := by decide +kernel
theorem dX2_digest_222 : decode cX2_digest 222 = .ok (.i2l, 1) := by decide +kernel
theorem dX2_digest_223 : decode cX2_digest 223 = .ok (.ladd, 1) := by decide +kernel
theorem dX2_digest_224 : decode cX2_digest 224 = .ok (.lstore_n 1, 1) := by decide +kernel
theorem dX2_digest_225 : decode cX2_digest 225 = .ok (.iinc 3 1, 3) := by decide +kernel
theorem dX2_digest_228 : decode cX2_digest 228 = .ok (.goto (-25), 3) := by decide +kernel
theorem dX2_digest_231 : decode cX2_digest 231 = .ok (.lload_n 1, 1) := by decide +kernel
theorem dX2_digest_232 : decode cX2_digest 232 = .ok (.lreturn, 1) := by decide +kernel
theorem dJ6_bitCount_0f7a4_0 : decode cJ6_bitCount_0f7a4 0 = .ok (.iload_n 0, 1) := by decide +kernel
theorem dJ6_bitCount_0f7a4_1 : decode cJ6_bitCount_0f7a4 1 = .ok (.iload_n 0, 1) := by decide +kernel
theorem dJ6_bitCount_0f7a4_2 : decode cJ6_bitCount_0f7a4 2 = .ok (.iconst 1, 1) := by decide +kernel
theorem dJ6_bitCount_0f7a4_3 : decode cJ6_bitCount_0f7a4 3 = .ok (.iushr, 1) := by decide +kernel
theorem dJ6_bitCount_0f7a4_4 : decode cJ6_bitCount_0f7a4 4 = .ok (.ldc_w 265, 3) := by decide +kernel
theorem dJ6_bitCount_0f7a4_7 : decode cJ6_bitCount_0f7a4 7 = .ok (.iand, 1) := by decide +kernel
theorem dJ6_bitCount_0f7a4_8 : decode cJ6_bitCount_0f7a4 8 = .ok (.isub, 1) := by decide +kernel
theorem dJ6_bitCount_0f7a4_9 : decode cJ6_bitCount_0f7a4 9 = .ok (.istore_n 0, 1) := by decide +kernel
theorem dJ6_bitCount_0f7a4_10 : decode cJ6_bitCount_0f7a4 10 = .ok (.iload_n 0, 1) := by decide +kernel
theorem dJ6_bitCount_0f7a4_11 : decode cJ6_bitCount_0f7a4 11 = .ok (.ldc_w 266, 3) := by decide +kernel
theorem dJ6_bitCount_0f7a4_14 : decode cJ6_bitCount_0f7a4 14 = .ok (.iand, 1) := by decide +kernel
theorem dJ6_bitCount_0f7a4_15 : decode cJ6_bitCount_0f7a4 15 = .ok (.iload_n 0, 1) := by decide +kernel
theorem dJ6_bitCount_0f7a4_16 : decode cJ6_bitCount_0f7a4 16 = .ok (.iconst 2, 1) := by decide +kernel
theorem dJ6_bitCount_0f7a4_17 : decode cJ6_bitCount_0f7a4 17 = .ok (.iushr, 1) := by decide +kernel
theorem dJ6_bitCount_0f7a4_18 : decode cJ6_bitCount_0f7a4 18 = .ok (.ldc_w 266, 3) := by decide +kernel
theorem dJ6_bitCount_0f7a4_21 : decode cJ6_bitCount_0f7a4 21 = .ok (.iand, 1) := by decide +kernel
theorem dJ6_bitCount_0f7a4_22 : decode cJ6_bitCount_0f7a4 22 = .ok (.iadd, 1) := by decide +kernel
theorem dJ6_bitCount_0f7a4_23 : decode cJ6_bitCount_0f7a4 23 = .ok (.istore_n 0, 1) := by decide +kernel
theorem dJ6_bitCount_0f7a4_24 : decode cJ6_bitCount_0f7a4 24 = .ok (.iload_n 0, 1) := by decide +kernel
theorem dJ6_bitCount_0f7a4_25 : decode cJ6_bitCount_0f7a4 25 = .ok (.iload_n 0, 1) := by decide +kernel
theorem dJ6_bitCount_0f7a4_26 : decode cJ6_bitCount_0f7a4 26 = .ok (.iconst 4, 1) := by decide +kernel
theorem dJ6_bitCount_0f7a4_27 : decode cJ6_bitCount_0f7a4 27 = .ok (.iushr, 1) := by decide +kernel
theorem dJ6_bitCount_0f7a4_28 : decode cJ6_bitCount_0f7a4 28 = .ok (.iadd, 1) := by decide +kernel
theorem dJ6_bitCount_0f7a4_29 : decode cJ6_bitCount_0f7a4 29 = .ok (.ldc_w 267, 3) := by decide +kernel
theorem dJ6_bitCount_0f7a4_32 : decode cJ6_bitCount_0f7a4 32 = .ok (.iand, 1) := by decide +kernel
theorem dJ6_bitCount_0f7a4_33 : decode cJ6_bitCount_0f7a4 33 = .ok (.istore_n 0, 1) := by decide +kernel
theorem dJ6_bitCount_0f7a4_34 : decode cJ6_bitCount_0f7a4 34 = .ok (.iload_n 0, 1) := by decide +kernel
theorem dJ6_bitCount_0f7a4_35 : decode cJ6_bitCount_0f7a4 35 = .ok (.iload_n 0, 1) := by decide +kernel
theorem dJ6_bitCount_0f7a4_36 : decode cJ6_bitCount_0f7a4 36 = .ok (.bipush 8, 2) := by decide +kernel
theorem dJ6_bitCount_0f7a4_38 : decode cJ6_bitCount_0f7a4 38 = .ok (.iushr, 1) := by decide +kernel
theorem dJ6_bitCount_0f7a4_39 : decode cJ6_bitCount_0f7a4 39 = .ok (.iadd, 1) := by decide +kernel
theorem dJ6_bitCount_0f7a4_40 : decode cJ6_bitCount_0f7a4 40 = .ok (.istore_n 0, 1) := by decide +kernel
theorem dJ6_bitCount_0f7a4_41 : decode cJ6_bitCount_0f7a4 41 = .ok (.iload_n 0, 1) := by decide +kernel
theorem dJ6_bitCount_0f7a4_42 : decode cJ6_bitCount_0f7a4 42 = .ok (.iload_n 0, 1) := by decide +kernel
theorem dJ6_bitCount_0f7a4_43 : decode cJ6_bitCount_0f7a4 43 = .ok (.bipush 16, 2) := by decide +kernel
theorem dJ6_bitCount_0f7a4_45 : decode cJ6_bitCount_0f7a4 45 = .ok (.iushr, 1) := by decide +kernel
theorem dJ6_bitCount_0f7a4_46 : decode cJ6_bitCount_0f7a4 46 = .ok (.iadd, 1) := by decide +kernel
theorem dJ6_bitCount_0f7a4_47 : decode cJ6_bitCount_0f7a4 47 = .ok (.istore_n 0, 1) := by decide +kernel
theorem dJ6_bitCount_0f7a4_48 : decode cJ6_bitCount_0f7a4 48 = .ok (.iload_n 0, 1) := by decide +kernel
theorem dJ6_bitCount_0f7a4_49 : decode cJ6_bitCount_0f7a4 49 = .ok (.bipush 63, 2) := by decide +kernel
theorem dJ6_bitCount_0f7a4_51 : decode cJ6_bitCount_0f7a4 51 = .ok (.iand, 1) := by decide +kernel
theorem dJ6_bitCount_0f7a4_52 : decode cJ6_bitCount_0f7a4 52 = .ok (.ireturn, 1) := by decide +kernel
set_option maxRecDepth 20000 in
theorem ggL_setFact_X1_setFact : GoodIn wsL_setFact wsX1_setFact := goodIn_ca (goodIn_r _ [6, 7, 8, 9, 5, 10, 11, 12, 13, 14, 15, 16, 17, 18, 19, 20, 21, 22, 23, 24, 25, 26, 27, 28, 29, 30, 31, 32, 33, 34, 35, 36, 37, 38, 39, 40, 41] (by decide +kernel) (by decide +kernel)) (goodIn_sub (fun _ h => List.mem_cons_of_mem _ (List.mem_append_right _ h)) (by decide +kernel))
set_option maxRecDepth 20000 in
theorem gL_setFact_X1_setFact : GoodIn wsL_setFact (wsV RL 7 RX1 yX1_setFact wsX1_setFact) := goodIn_app (goodIn_of _ (by decide +kernel)) ggL_setFact_X1_setFact
theorem dL_setFact_0 : decode cL_setFact 0 = .ok (.aload_n 3, 1) := by decide +kernel
theorem dL_setFact_1 : decode cL_setFact 1 = .ok (.iconst 0, 1) := by decide +kernel
theorem dL_setFact_2 : decode cL_setFact 2 = .ok (.aload_n 0, 1) := by decide +kernel
theorem dL_setFact_3 : decode cL_setFact 3 = .ok (.iload_n 1, 1) := by decide +kernel
theorem dL_setFact_4 : decode cL_setFact 4 = .ok (.iload_n 2, 1) := by decide +kernel
theorem dL_setFact_5 : decode cL_setFact 5 = .ok (.invokevirtual 7, 3) := by decide +kernel
theorem dL_setFact_8 : decode cL_setFact 8 = .ok (.ifCond .eq 7, 3) := by decide +kernel
theorem dL_setFact_11 : decode cL_setFact 11 = .ok (.lconst 1, 1) := by decide +kernel
theorem dL_setFact_12 : decode cL_setFact 12 = .ok (.goto 4, 3) := by decide +kernel
theorem dL_setFact_15 : decode cL_setFact 15 = .ok (.lconst 0, 1) := by decide +kernel
theorem dL_setFact_16 : decode cL_setFact 16 = .ok (.lastore, 1) := by decide +kernel
theorem dL_setFact_17 : decode cL_setFact 17 = .ok (.goto 7, 3) := by decide +kernel
theorem dL_setFact_20 : decode cL_setFact 20 = .ok (.astore 4, 2) := by decide +kernel
theorem dL_setFact_22 : decode cL_setFact 22 = .ok (.iconst 1, 1) := by decide +kernel
theorem dL_setFact_23 : decode cL_setFact 23 = .ok (.ireturn, 1) := by decide +kernel
theorem dL_setFact_24 : decode cL_setFact 24 = .ok (.iconst 0, 1) := by decide +kernel
theorem dL_setFact_25 : decode cL_setFact 25 = .ok (.ireturn, 1) := by decide +kernel
set_option maxRecDepth 20000 in
theorem ggL_addRule_X1_addRule : GoodIn wsL_addRule wsX1_addRule := goodIn_ca (goodIn_ca (goodIn_ca (goodIn_r _ [8, 9, 10, 11, 12, 13, 14, 15, 7, 16, 17, 18, 19, 20, 21, 22, 23, 24, 25, 26, 27, 28, 29, 30, 31, 32, 33, 34, 35, 36, 37, 38, 39, 40, 41, 42, 43, 44, 45, 46, 47, 48, 49, 50] (by decide +kernel) (by decide +kernel)) (goodIn_sub (fun _ h => List.mem_cons_of_mem _ (List.mem_append_left _ (List.mem_append_left _ (List.mem_append_right _ h)))) (by decide +kernel))) (goodIn_sub (fun _ h => List.mem_cons_of_mem _ (List.mem_append_left _ (List.mem_append_right _ h))) (by decide +kernel))) (goodIn_sub (fun _ h => List.mem_cons_of_mem _ (List.mem_append_right _ h)) (by decide +kernel))
set_option maxRecDepth 20000 in
theorem gL_addRule_X1_addRule : GoodIn wsL_addRule (wsV RL 15 RX1 yX1_addRule wsX1_addRule) := goodIn_app (goodIn_of _ (by decide +kernel)) ggL_addRule_X1_addRule
theorem dL_addRule_0 : decode cL_addRule 0 = .ok (.aload_n 3, 1) := by decide +kernel
theorem dL_addRule_1 : decode cL_addRule 1 = .ok (.iconst 0, 1) := by decide +kernel
theorem dL_addRule_2 : decode cL_addRule 2 = .ok (.aload_n 0, 1) := by decide +kernel
theorem dL_addRule_3 : decode cL_addRule 3 = .ok (.iload_n 1, 1) := by decide +kernel
theorem dL_addRule_4 : decode cL_addRule 4 = .ok (.iload_n 2, 1) := by decide +kernel
theorem dL_addRule_5 : decode cL_addRule 5 = .ok (.invokevirtual 15, 3) := by decide +kernel
theorem dL_addRule_8 : decode cL_addRule 8 = .ok (.i2l, 1) := by decide +kernel
theorem dL_addRule_9 : decode cL_addRule 9 = .ok (.lastore, 1) := by decide +kernel
theorem dL_addRule_10 : decode cL_addRule 10 = .ok (.goto 15, 3) := by decide +kernel
theorem dL_addRule_13 : decode cL_addRule 13 = .ok (.astore 4, 2) := by decide +kernel
theorem dL_addRule_15 : decode cL_addRule 15 = .ok (.iconst 1, 1) := by decide +kernel
theorem dL_addRule_16 : decode cL_addRule 16 = .ok (.ireturn, 1) := by decide +kernel
theorem dL_addRule_17 : decode cL_addRule 17 = .ok (.astore 4, 2) := by decide +kernel
theorem dL_addRule_19 : decode cL_addRule 19 = .ok (.iconst 2, 1) := by decide +kernel
theorem dL_addRule_20 : decode cL_addRule 20 = .ok (.ireturn, 1) := by decide +kernel
theorem dL_addRule_21 : decode cL_addRule 21 = .ok (.astore 4, 2) := by decide +kernel
theorem dL_addRule_23 : decode cL_addRule 23 = .ok (.iconst 3, 1) := by decide +kernel
theorem dL_addRule_24 : decode cL_addRule 24 = .ok (.ireturn, 1) := by decide +kernel
theorem dL_addRule_25 : decode cL_addRule 25 = .ok (.iconst 0, 1) := by decide +kernel
theorem dL_addRule_26 : decode cL_addRule 26 = .ok (.ireturn, 1) := by decide +kernel
set_option maxRecDepth 20000 in
theorem ggL_addDefault_X1_addDefault : GoodIn wsL_addDefault wsX1_addDefault := goodIn_ca (goodIn_ca (goodIn_ca (goodIn_r _ [8, 9, 10, 11, 12, 13, 14, 15, 16, 7, 17, 18, 19, 20, 21, 22, 23, 24, 25, 26, 27, 28, 29, 30, 31, 32, 33, 34, 35, 36, 37, 38, 39, 40, 41, 42, 43, 44, 45, 46, 47, 48, 49, 50, 51] (by decide +kernel) (by decide +kernel)) (goodIn_sub (fun _ h => List.mem_cons_of_mem _ (List.mem_append_left _ (List.mem_append_left _ (List.mem_append_right _ h)))) (by decide +kernel))) (goodIn_sub (fun _ h => List.mem_cons_of_mem _ (List.mem_append_left _ (List.mem_append_right _ h))) (by decide +kernel))) (goodIn_sub (fun _ h => List.mem_cons_of_mem _ (List.mem_append_right _ h)) (by decide +kernel))
set_option maxRecDepth 20000 in
theorem gL_addDefault_X1_addDefault : GoodIn wsL_addDefault (wsV RL 23 RX1 yX1_addDefault wsX1_addDefault) := goodIn_app (goodIn_of _ (by decide +kernel)) ggL_addDefault_X1_addDefault
theorem dL_addDefault_0 : decode cL_addDefault 0 = .ok (.aload 4, 2) := by decide +kernel
theorem dL_addDefault_2 : decode cL_addDefault 2 = .ok (.iconst 0, 1) := by decide +kernel
theorem dL_addDefault_3 : decode cL_addDefault 3 = .ok (.aload_n 0, 1) := by decide +kernel
theorem dL_addDefault_4 : decode cL_addDefault 4 = .ok (.iload_n 1, 1) := by decide +kernel
theorem dL_addDefault_5 : decode cL_addDefault 5 = .ok (.iload_n 2, 1) := by decide +kernel
theorem dL_addDefault_6 : decode cL_addDefault 6 = .ok (.iload_n 3, 1) := by decide +kernel
theorem dL_addDefault_7 : decode cL_addDefault 7 = .ok (.invokevirtual 23, 3) := by decide +kernel
theorem dL_addDefault_10 : decode cL_addDefault 10 = .ok (.i2l, 1) := by decide +kernel
theorem dL_addDefault_11 : decode cL_addDefault 11 = .ok (.lastore, 1) := by decide +kernel
theorem dL_addDefault_12 : decode cL_addDefault 12 = .ok (.goto 15, 3) := by decide +kernel
theorem dL_addDefault_15 : decode cL_addDefault 15 = .ok (.astore 5, 2) := by decide +kernel
theorem dL_addDefault_17 : decode cL_addDefault 17 = .ok (.iconst 1, 1) := by decide +kernel
theorem dL_addDefault_18 : decode cL_addDefault 18 = .ok (.ireturn, 1) := by decide +kernel
theorem dL_addDefault_19 : decode cL_addDefault 19 = .ok (.astore 5, 2) := by decide +kernel
theorem dL_addDefault_21 : decode cL_addDefault 21 = .ok (.iconst 2, 1) := by decide +kernel
theorem dL_addDefault_22 : decode cL_addDefault 22 = .ok (.ireturn, 1) := by decide +kernel
theorem dL_addDefault_23 : decode cL_addDefault 23 = .ok (.astore 5, 2) := by decide +kernel
theorem dL_addDefault_25 : decode cL_addDefault 25 = .ok (.iconst 3, 1) := by decide +kernel
theorem dL_addDefault_26 : decode cL_addDefault 26 = .ok (.ireturn, 1) := by decide +kernel
theorem dL_addDefault_27 : decode cL_addDefault 27 = .ok (.iconst 0, 1) := by decide +kernel
theorem dL_addDefault_28 : decode cL_addDefault 28 = .ok (.ireturn, 1) := by decide +kernel
set_option maxRecDepth 20000 in
theorem ggL_dropRule_X1_dropRule : GoodIn wsL_dropRule wsX1_dropRule := goodIn_ca (goodIn_r _ [6, 7, 8, 9, 10, 11, 12, 5, 13, 14, 15, 16, 17, 18, 19, 20, 21, 22, 23, 24, 25, 26, 27, 28, 29, 30, 31, 32, 33, 34, 35] (by decide +kernel) (by decide +kernel)) (goodIn_sub (fun _ h => List.mem_cons_of_mem _ (List.mem_append_right _ h)) (by decide +kernel))
set_option maxRecDepth 20000 in
theorem gL_dropRule_X1_dropRule : GoodIn wsL_dropRule (wsV RL 27 RX1 yX1_dropRule wsX1_dropRule) := goodIn_app (goodIn_of _ (by decide +kernel)) ggL_dropRule_X1_dropRule
theorem dL_dropRule_0 : decode cL_dropRule 0 = .ok (.aload_n 1, 1) := by decide +kernel
theorem dL_dropRule_1 : decode cL_dropRule 1 = .ok (.iconst 0, 1) := by decide +kernel
theorem dL_dropRule_2 : decode cL_dropRule 2 = .ok (.aload_n 0, 1) := by decide +kernel
theorem dL_dropRule_3 : decode cL_dropRule 3 = .ok (.invokevirtual 27, 3) := by decide +kernel
theorem dL_dropRule_6 : decode cL_dropRule 6 = .ok (.i2l, 1) := by decide +kernel
theorem dL_dropRule_7 : decode cL_dropRule 7 = .ok (.lastore, 1) := by decide +kernel
theorem dL_dropRule_8 : decode cL_dropRule 8 = .ok (.goto 6, 3) := by decide +kernel
theorem dL_dropRule_11 : decode cL_dropRule 11 = .ok (.astore_n 2, 1) := by decide +kernel
theorem dL_dropRule_12 : decode cL_dropRule 12 = .ok (.iconst 1, 1) := by decide +kernel
theorem dL_dropRule_13 : decode cL_dropRule 13 = .ok (.ireturn, 1) := by decide +kernel
theorem dL_dropRule_14 : decode cL_dropRule 14 = .ok (.iconst 0, 1) := by decide +kernel
theorem dL_dropRule_15 : decode cL_dropRule 15 = .ok (.ireturn, 1) := by decide +kernel
set_option maxRecDepth 20000 in
theorem ggL_dropDefault_X1_dropDefault : GoodIn wsL_dropDefault wsX1_dropDefault := goodIn_ca (goodIn_r _ [6, 7, 8, 9, 10, 11, 12, 13, 14, 15, 16, 17, 18, 19, 20, 21, 5, 22, 23, 24, 25, 26, 27, 28, 29, 30, 31, 32, 33, 34, 35, 36, 37, 38, 39, 40, 41, 42, 43, 44, 45, 46, 47, 48, 49, 50] (by decide +kernel) (by decide +kernel)) (goodIn_sub (fun _ h => List.mem_cons_of_mem _ (List.mem_append_right _ h)) (by decide +kernel))
set_option maxRecDepth 20000 in
theorem gL_dropDefault_X1_dropDefault : GoodIn wsL_dropDefault (wsV RL 31 RX1 yX1_dropDefault wsX1_dropDefault) := goodIn_app (goodIn_of _ (by decide +kernel)) ggL_dropDefault_X1_dropDefault
theorem dL_dropDefault_0 : decode cL_dropDefault 0 = .ok (.aload_n 1, 1) := by decide +kernel
theorem dL_dropDefault_1 : decode cL_dropDefault 1 = .ok (.iconst 0, 1) := by decide +kernel
theorem dL_dropDefault_2 : decode cL_dropDefault 2 = .ok (.aload_n 0, 1) := by decide +kernel
theorem dL_dropDefault_3 : decode cL_dropDefault 3 = .ok (.invokevirtual 31, 3) := by decide +kernel
theorem dL_dropDefault_6 : decode cL_dropDefault 6 = .ok (.i2l, 1) := by decide +kernel
theorem dL_dropDefault_7 : decode cL_dropDefault 7 = .ok (.lastore, 1) := by decide +kernel
theorem dL_dropDefault_8 : decode cL_dropDefault 8 = .ok (.goto 6, 3) := by decide +kernel
theorem dL_dropDefault_11 : decode cL_dropDefault 11 = .ok (.astore_n 2, 1) := by decide +kernel
theorem dL_dropDefault_12 : decode cL_dropDefault 12 = .ok (.iconst 1, 1) := by decide +kernel
theorem dL_dropDefault_13 : decode cL_dropDefault 13 = .ok (.ireturn, 1) := by decide +kernel
theorem dL_dropDefault_14 : decode cL_dropDefault 14 = .ok (.iconst 0, 1) := by decide +kernel
theorem dL_dropDefault_15 : decode cL_dropDefault 15 = .ok (.ireturn, 1) := by decide +kernel
set_option maxRecDepth 20000 in
theorem ggL_prefer_X1_prefer : GoodIn wsL_prefer wsX1_prefer := goodIn_ca (goodIn_ca (goodIn_r _ [7, 8, 9, 10, 11, 12, 13, 14, 6, 15, 16, 17, 18, 19, 20, 21, 22, 23, 24, 25, 26, 27, 28, 29, 30, 31, 32, 33, 34, 35, 36, 37, 38, 39, 40, 41, 42, 43, 44, 45, 46, 47, 48, 49, 50, 51, 52, 53, 54, 55] (by decide +kernel) (by decide +kernel)) (goodIn_sub (fun _ h => List.mem_cons_of_mem _ (List.mem_append_left _ (List.mem_append_right _ h))) (by decide +kernel))) (goodIn_sub (fun _ h => List.mem_cons_of_mem _ (List.mem_append_right _ h)) (by decide +kernel))
set_option maxRecDepth 20000 in
theorem gL_prefer_X1_prefer : GoodIn wsL_prefer (wsV RL 34 RX1 yX1_prefer wsX1_prefer) := goodIn_app (goodIn_of _ (by decide +kernel)) ggL_prefer_X1_prefer
theorem dL_prefer_0 : decode cL_prefer 0 = .ok (.aload_n 3, 1) := by decide +kernel
theorem dL_prefer_1 : decode cL_prefer 1 = .ok (.iconst 0, 1) := by decide +kernel
theorem dL_prefer_2 : decode cL_prefer 2 = .ok (.aload_n 0, 1) := by decide +kernel
theorem dL_prefer_3 : decode cL_prefer 3 = .ok (.iload_n 1, 1) := by decide +kernel
theorem dL_prefer_4 : decode cL_prefer 4 = .ok (.iload_n 2, 1) := by decide +kernel
theorem dL_prefer_5 : decode cL_prefer 5 = .ok (.invokevirtual 34, 3) := by decide +kernel
theorem dL_prefer_8 : decode cL_prefer 8 = .ok (.ifCond .eq 7, 3) := by decide +kernel
theorem dL_prefer_11 : decode cL_prefer 11 = .ok (.lconst 1, 1) := by decide +kernel
theorem dL_prefer_12 : decode cL_prefer 12 = .ok (.goto 4, 3) := by decide +kernel
theorem dL_prefer_15 : decode cL_prefer 15 = .ok (.lconst 0, 1) := by decide +kernel
theorem dL_prefer_16 : decode cL_prefer 16 = .ok (.lastore, 1) := by decide +kernel
