theorem dL_prefer_17 : decode cL_prefer 17 = .ok (.goto 11, 3) := by decide +kernel
theorem dL_prefer_20 : decode cL_prefer 20 = .ok (.astore 4, 2) := by decide +kernel
theorem dL_prefer_22 : decode cL_prefer 22 = .ok (.iconst 1, 1) := by decide +kernel
theorem dL_prefer_23 : decode cL_prefer 23 = .ok (.ireturn, 1) := by decide +kernel
theorem dL_prefer_24 : decode cL_prefer 24 = .ok (.astore 4, 2) := by decide +kernel
theorem dL_prefer_26 : decode cL_prefer 26 = .ok (.iconst 2, 1) := by decide +kernel
theorem dL_prefer_27 : decode cL_prefer 27 = .ok (.ireturn, 1) := by decide +kernel
theorem dL_prefer_28 : decode cL_prefer 28 = .ok (.iconst 0, 1) := by decide +kernel
theorem dL_prefer_29 : decode cL_prefer 29 = .ok (.ireturn, 1) := by decide +kernel
set_option maxRecDepth 20000 in
theorem ggL_isBefore_X1_isBefore : GoodIn wsL_isBefore wsX1_isBefore := goodIn_ca (goodIn_r _ [6, 7, 8, 9, 10, 5, 11, 12, 13, 14, 15, 16, 17, 18, 19, 20, 21, 22, 23, 24, 25, 26, 27, 28, 29, 30, 31, 32, 33, 34, 35, 36, 37, 38, 39, 40, 41, 42, 43] (by decide +kernel) (by decide +kernel)) (goodIn_sub (fun _ h => List.mem_cons_of_mem _ (List.mem_append_right _ h)) (by decide +kernel))
set_option maxRecDepth 20000 in
theorem gL_isBefore_X1_isBefore : GoodIn wsL_isBefore (wsV RL 38 RX1 yX1_isBefore wsX1_isBefore) := goodIn_app (goodIn_of _ (by decide +kernel)) ggL_isBefore_X1_isBefore
theorem dL_isBefore_0 : decode cL_isBefore 0 = .ok (.aload_n 3, 1) := by decide +kernel
theorem dL_isBefore_1 : decode cL_isBefore 1 = .ok (.iconst 0, 1) := by decide +kernel
theorem dL_isBefore_2 : decode cL_isBefore 2 = .ok (.aload_n 0, 1) := by decide +kernel
theorem dL_isBefore_3 : decode cL_isBefore 3 = .ok (.iload_n 1, 1) := by decide +kernel
theorem dL_isBefore_4 : decode cL_isBefore 4 = .ok (.iload_n 2, 1) := by decide +kernel
theorem dL_isBefore_5 : decode cL_isBefore 5 = .ok (.invokevirtual 38, 3) := by decide +kernel
theorem dL_isBefore_8 : decode cL_isBefore 8 = .ok (.ifCond .eq 7, 3) := by decide +kernel
theorem dL_isBefore_11 : decode cL_isBefore 11 = .ok (.lconst 1, 1) := by decide +kernel
theorem dL_isBefore_12 : decode cL_isBefore 12 = .ok (.goto 4, 3) := by decide +kernel
theorem dL_isBefore_15 : decode cL_isBefore 15 = .ok (.lconst 0, 1) := by decide +kernel
theorem dL_isBefore_16 : decode cL_isBefore 16 = .ok (.lastore, 1) := by decide +kernel
theorem dL_isBefore_17 : decode cL_isBefore 17 = .ok (.goto 7, 3) := by decide +kernel
theorem dL_isBefore_20 : decode cL_isBefore 20 = .ok (.astore 4, 2) := by decide +kernel
theorem dL_isBefore_22 : decode cL_isBefore 22 = .ok (.iconst 1, 1) := by decide +kernel
theorem dL_isBefore_23 : decode cL_isBefore 23 = .ok (.ireturn, 1) := by decide +kernel
theorem dL_isBefore_24 : decode cL_isBefore 24 = .ok (.iconst 0, 1) := by decide +kernel
theorem dL_isBefore_25 : decode cL_isBefore 25 = .ok (.ireturn, 1) := by decide +kernel
set_option maxRecDepth 20000 in
theorem ggL_closure_X1_closure : GoodIn wsL_closure wsX1_closure := goodIn_ca (goodIn_r _ [6, 7, 8, 5, 9, 10, 11, 12, 13, 14, 15, 16, 17, 18, 19, 20, 21, 22, 23, 24, 25, 26, 27, 28, 29, 30, 31, 32, 33, 34, 35, 36, 37, 38, 39, 40, 41, 42, 43, 44, 45] (by decide +kernel) (by decide +kernel)) (goodIn_sub (fun _ h => List.mem_cons_of_mem _ (List.mem_append_right _ h)) (by decide +kernel))
set_option maxRecDepth 20000 in
theorem gL_closure_X1_closure : GoodIn wsL_closure (wsV RL 41 RX1 yX1_closure wsX1_closure) := goodIn_app (goodIn_of _ (by decide +kernel)) ggL_closure_X1_closure
theorem dL_closure_0 : decode cL_closure 0 = .ok (.aload_n 2, 1) := by decide +kernel
theorem dL_closure_1 : decode cL_closure 1 = .ok (.iconst 0, 1) := by decide +kernel
theorem dL_closure_2 : decode cL_closure 2 = .ok (.aload_n 0, 1) := by decide +kernel
theorem dL_closure_3 : decode cL_closure 3 = .ok (.iload_n 1, 1) := by decide +kernel
theorem dL_closure_4 : decode cL_closure 4 = .ok (.invokevirtual 41, 3) := by decide +kernel
theorem dL_closure_7 : decode cL_closure 7 = .ok (.i2l, 1) := by decide +kernel
theorem dL_closure_8 : decode cL_closure 8 = .ok (.lastore, 1) := by decide +kernel
theorem dL_closure_9 : decode cL_closure 9 = .ok (.goto 6, 3) := by decide +kernel
theorem dL_closure_12 : decode cL_closure 12 = .ok (.astore_n 3, 1) := by decide +kernel
theorem dL_closure_13 : decode cL_closure 13 = .ok (.iconst 1, 1) := by decide +kernel
theorem dL_closure_14 : decode cL_closure 14 = .ok (.ireturn, 1) := by decide +kernel
theorem dL_closure_15 : decode cL_closure 15 = .ok (.iconst 0, 1) := by decide +kernel
theorem dL_closure_16 : decode cL_closure 16 = .ok (.ireturn, 1) := by decide +kernel
set_option maxRecDepth 20000 in
theorem ggL_isOpen_X1_isOpen : GoodIn wsL_isOpen wsX1_isOpen := goodIn_ca (goodIn_ca (goodIn_r _ [7, 8, 9, 10, 6, 11, 12, 13, 14, 15, 16, 17, 18, 19, 20, 21, 22, 23, 24, 25, 26, 27, 28, 29, 30, 31, 32, 33, 34, 35, 36, 37, 38, 39, 40, 41, 42, 43, 44, 45, 46, 47, 48] (by decide +kernel) (by decide +kernel)) (goodIn_sub (fun _ h => List.mem_cons_of_mem _ (List.mem_append_left _ (List.mem_append_right _ h))) (by decide +kernel))) (goodIn_sub (fun _ h => List.mem_cons_of_mem _ (List.mem_append_right _ h)) (by decide +kernel))
set_option maxRecDepth 20000 in
theorem gL_isOpen_X1_isOpen : GoodIn wsL_isOpen (wsV RL 45 RX1 yX1_isOpen wsX1_isOpen) := goodIn_app (goodIn_of _ (by decide +kernel)) ggL_isOpen_X1_isOpen
theorem dL_isOpen_0 : decode cL_isOpen 0 = .ok (.aload_n 3, 1) := by decide +kernel
theorem dL_isOpen_1 : decode cL_isOpen 1 = .ok (.iconst 0, 1) := by decide +kernel
theorem dL_isOpen_2 : decode cL_isOpen 2 = .ok (.aload_n 0, 1) := by decide +kernel
theorem dL_isOpen_3 : decode cL_isOpen 3 = .ok (.iload_n 1, 1) := by decide +kernel
theorem dL_isOpen_4 : decode cL_isOpen 4 = .ok (.iload_n 2, 1) := by decide +kernel
theorem dL_isOpen_5 : decode cL_isOpen 5 = .ok (.invokevirtual 45, 3) := by decide +kernel
theorem dL_isOpen_8 : decode cL_isOpen 8 = .ok (.ifCond .eq 7, 3) := by decide +kernel
theorem dL_isOpen_11 : decode cL_isOpen 11 = .ok (.lconst 1, 1) := by decide +kernel
theorem dL_isOpen_12 : decode cL_isOpen 12 = .ok (.goto 4, 3) := by decide +kernel
theorem dL_isOpen_15 : decode cL_isOpen 15 = .ok (.lconst 0, 1) := by decide +kernel
theorem dL_isOpen_16 : decode cL_isOpen 16 = .ok (.lastore, 1) := by decide +kernel
theorem dL_isOpen_17 : decode cL_isOpen 17 = .ok (.goto 11, 3) := by decide +kernel
theorem dL_isOpen_20 : decode cL_isOpen 20 = .ok (.astore 4, 2) := by decide +kernel
theorem dL_isOpen_22 : decode cL_isOpen 22 = .ok (.iconst 1, 1) := by decide +kernel
theorem dL_isOpen_23 : decode cL_isOpen 23 = .ok (.ireturn, 1) := by decide +kernel
theorem dL_isOpen_24 : decode cL_isOpen 24 = .ok (.astore 4, 2) := by decide +kernel
theorem dL_isOpen_26 : decode cL_isOpen 26 = .ok (.iconst 2, 1) := by decide +kernel
theorem dL_isOpen_27 : decode cL_isOpen 27 = .ok (.ireturn, 1) := by decide +kernel
theorem dL_isOpen_28 : decode cL_isOpen 28 = .ok (.iconst 0, 1) := by decide +kernel
theorem dL_isOpen_29 : decode cL_isOpen 29 = .ok (.ireturn, 1) := by decide +kernel
set_option maxRecDepth 20000 in
theorem ggL_generatorsOf_X1_generatorsOf : GoodIn wsL_generatorsOf wsX1_generatorsOf := goodIn_ca (goodIn_r _ [6, 7, 8, 5, 9, 10, 11, 12, 13, 14, 15, 16, 17, 18, 19, 20, 21, 22, 23, 24, 25, 26, 27, 28, 29, 30, 31, 32, 33, 34, 35, 36, 37, 38, 39, 40, 41, 42, 43, 44, 45, 46, 47, 48, 49, 50, 51, 52, 53, 54, 55, 56, 57, 58, 59, 60, 61, 62, 63, 64, 65, 66, 67, 68, 69, 70, 71, 72, 73, 74, 75, 76, 77, 78, 79, 80, 81, 82] (by decide +kernel) (by decide +kernel)) (goodIn_sub (fun _ h => List.mem_cons_of_mem _ (List.mem_append_right _ h)) (by decide +kernel))
set_option maxRecDepth 20000 in
theorem gL_generatorsOf_X1_generatorsOf : GoodIn wsL_generatorsOf (wsV RL 48 RX1 yX1_generatorsOf wsX1_generatorsOf) := goodIn_app (goodIn_of _ (by decide +kernel)) ggL_generatorsOf_X1_generatorsOf
theorem dL_generatorsOf_0 : decode cL_generatorsOf 0 = .ok (.aload_n 2, 1) := by decide +kernel
theorem dL_generatorsOf_1 : decode cL_generatorsOf 1 = .ok (.iconst 0, 1) := by decide +kernel
theorem dL_generatorsOf_2 : decode cL_generatorsOf 2 = .ok (.aload_n 0, 1) := by decide +kernel
theorem dL_generatorsOf_3 : decode cL_generatorsOf 3 = .ok (.iload_n 1, 1) := by decide +kernel
theorem dL_generatorsOf_4 : decode cL_generatorsOf 4 = .ok (.invokevirtual 48, 3) := by decide +kernel
theorem dL_generatorsOf_7 : decode cL_generatorsOf 7 = .ok (.i2l, 1) := by decide +kernel
theorem dL_generatorsOf_8 : decode cL_generatorsOf 8 = .ok (.lastore, 1) := by decide +kernel
theorem dL_generatorsOf_9 : decode cL_generatorsOf 9 = .ok (.goto 6, 3) := by decide +kernel
theorem dL_generatorsOf_12 : decode cL_generatorsOf 12 = .ok (.astore_n 3, 1) := by decide +kernel
theorem dL_generatorsOf_13 : decode cL_generatorsOf 13 = .ok (.iconst 1, 1) := by decide +kernel
theorem dL_generatorsOf_14 : decode cL_generatorsOf 14 = .ok (.ireturn, 1) := by decide +kernel
theorem dL_generatorsOf_15 : decode cL_generatorsOf 15 = .ok (.iconst 0, 1) := by decide +kernel
theorem dL_generatorsOf_16 : decode cL_generatorsOf 16 = .ok (.ireturn, 1) := by decide +kernel
set_option maxRecDepth 20000 in
theorem ggL_isExtension_X1_isExtension : GoodIn wsL_isExtension wsX1_isExtension := goodIn_ca (goodIn_r _ [6, 7, 8, 9, 5, 10, 11, 12, 13, 14, 15, 16, 17, 18, 19, 20, 21, 22, 23, 24, 25, 26, 27, 28, 29, 30, 31, 32, 33, 34, 35, 36, 37, 38, 39, 40, 41, 42, 43, 44, 45, 46, 47, 48, 49, 50, 51, 52, 53, 54, 55, 56, 57, 58, 59, 60, 61, 62, 63, 64, 65, 66, 67, 68, 69, 70, 71, 72, 73, 74, 75, 76, 77, 78, 79, 80, 81, 82] (by decide +kernel) (by decide +kernel)) (goodIn_sub (fun _ h => List.mem_cons_of_mem _ (List.mem_append_right _ h)) (by decide +kernel))
set_option maxRecDepth 20000 in
theorem gL_isExtension_X1_isExtension : GoodIn wsL_isExtension (wsV RL 51 RX1 yX1_isExtension wsX1_isExtension) := goodIn_app (goodIn_of _ (by decide +kernel)) ggL_isExtension_X1_isExtension
theorem dL_isExtension_0 : decode cL_isExtension 0 = .ok (.aload_n 2, 1) := by decide +kernel
theorem dL_isExtension_1 : decode cL_isExtension 1 = .ok (.iconst 0, 1) := by decide +kernel
theorem dL_isExtension_2 : decode cL_isExtension 2 = .ok (.aload_n 0, 1) := by decide +kernel
theorem dL_isExtension_3 : decode cL_isExtension 3 = .ok (.iload_n 1, 1) := by decide +kernel
theorem dL_isExtension_4 : decode cL_isExtension 4 = .ok (.invokevirtual 51, 3) := by decide +kernel
theorem dL_isExtension_7 : decode cL_isExtension 7 = .ok (.ifCond .eq 7, 3) := by decide +kernel
theorem dL_isExtension_10 : decode cL_isExtension 10 = .ok (.lconst 1, 1) := by decide +kernel
theorem dL_isExtension_11 : decode cL_isExtension 11 = .ok (.goto 4, 3) := by decide +kernel
theorem dL_isExtension_14 : decode cL_isExtension 14 = .ok (.lconst 0, 1) := by decide +kernel
theorem dL_isExtension_15 : decode cL_isExtension 15 = .ok (.lastore, 1) := by decide +kernel
theorem dL_isExtension_16 : decode cL_isExtension 16 = .ok (.goto 6, 3) := by decide +kernel
theorem dL_isExtension_19 : decode cL_isExtension 19 = .ok (.astore_n 3, 1) := by decide +kernel
theorem dL_isExtension_20 : decode cL_isExtension 20 = .ok (.iconst 1, 1) := by decide +kernel
theorem dL_isExtension_21 : decode cL_isExtension 21 = .ok (.ireturn, 1) := by decide +kernel
theorem dL_isExtension_22 : decode cL_isExtension 22 = .ok (.iconst 0, 1) := by decide +kernel
theorem dL_isExtension_23 : decode cL_isExtension 23 = .ok (.ireturn, 1) := by decide +kernel
set_option maxRecDepth 20000 in
theorem ggL_extension_X1_extension : GoodIn wsL_extension wsX1_extension := goodIn_ca (goodIn_r _ [6, 7, 8, 9, 10, 5, 11, 12, 13, 14, 15, 16, 17, 18, 19, 20, 21, 22, 23, 24, 25, 26, 27, 28, 29, 30, 31, 32, 33, 34, 35, 36, 37, 38, 39, 40, 41, 42, 43, 44, 45, 46, 47, 48, 49, 50, 51, 52, 53, 54, 55, 56, 57, 58, 59, 60, 61, 62, 63, 64, 65, 66, 67, 68, 69, 70, 71, 72, 73, 74, 75, 76, 77, 78, 79, 80, 81, 82, 83] (by decide +kernel) (by decide +kernel)) (goodIn_sub (fun _ h => List.mem_cons_of_mem _ (List.mem_append_right _ h)) (by decide +kernel))
set_option maxRecDepth 20000 in
theorem gL_extension_X1_extension : GoodIn wsL_extension (wsV RL 55 RX1 yX1_extension wsX1_extension) := goodIn_app (goodIn_of _ (by decide +kernel)) ggL_extension_X1_extension
theorem dL_extension_0 : decode cL_extension 0 = .ok (.aload_n 2, 1) := by decide +kernel
theorem dL_extension_1 : decode cL_extension 1 = .ok (.iconst 0, 1) := by decide +kernel
theorem dL_extension_2 : decode cL_extension 2 = .ok (.aload_n 0, 1) := by decide +kernel
theorem dL_extension_3 : decode cL_extension 3 = .ok (.iload_n 1, 1) := by decide +kernel
theorem dL_extension_4 : decode cL_extension 4 = .ok (.invokevirtual 55, 3) := by decide +kernel
theorem dL_extension_7 : decode cL_extension 7 = .ok (.i2l, 1) := by decide +kernel
theorem dL_extension_8 : decode cL_extension 8 = .ok (.lastore, 1) := by decide +kernel
theorem dL_extension_9 : decode cL_extension 9 = .ok (.goto 6, 3) := by decide +kernel
theorem dL_extension_12 : decode cL_extension 12 = .ok (.astore_n 3, 1) := by decide +kernel
theorem dL_extension_13 : decode cL_extension 13 = .ok (.iconst 1, 1) := by decide +kernel
theorem dL_extension_14 : decode cL_extension 14 = .ok (.ireturn, 1) := by decide +kernel
theorem dL_extension_15 : decode cL_extension 15 = .ok (.iconst 0, 1) := by decide +kernel
theorem dL_extension_16 : decode cL_extension 16 = .ok (.ireturn, 1) := by decide +kernel
set_option maxRecDepth 20000 in
theorem ggL_isPreferred_X1_isPreferred : GoodIn wsL_isPreferred wsX1_isPreferred := goodIn_ca (goodIn_r _ [6, 7, 8, 9, 10, 5, 11, 12, 13, 14, 15, 16, 17, 18, 19, 20, 21, 22, 23, 24, 25, 26, 27, 28, 29, 30, 31, 32, 33, 34, 35, 36, 37, 38, 39, 40, 41, 42, 43, 44, 45, 46, 47, 48, 49, 50, 51, 52, 53, 54, 55, 56, 57, 58, 59, 60, 61, 62, 63, 64, 65, 66, 67, 68, 69, 70, 71, 72, 73, 74, 75, 76, 77, 78, 79, 80, 81, 82, 83, 84, 85, 86, 87, 88, 89, 90, 91, 92, 93, 94, 95, 96, 97, 98, 99, 100, 101, 102, 103, 104, 105, 106, 107, 108, 109, 110, 111, 112, 113, 114, 115, 116, 117, 118, 119, 120] (by decide +kernel) (by decide +kernel)) (goodIn_sub (fun _ h => List.mem_cons_of_mem _ (List.mem_append_right _ h)) (by decide +kernel))
set_option maxRecDepth 20000 in
theorem gL_isPreferred_X1_isPreferred : GoodIn wsL_isPreferred (wsV RL 58 RX1 yX1_isPreferred wsX1_isPreferred) := goodIn_app (goodIn_of _ (by decide +kernel)) ggL_isPreferred_X1_isPreferred
theorem dL_isPreferred_0 : decode cL_isPreferred 0 = .ok (.aload_n 2, 1) := by decide +kernel
theorem dL_isPreferred_1 : decode cL_isPreferred 1 = .ok (.iconst 0, 1) := by decide +kernel
theorem dL_isPreferred_2 : decode cL_isPreferred 2 = .ok (.aload_n 0, 1) := by decide +kernel
theorem dL_isPreferred_3 : decode cL_isPreferred 3 = .ok (.iload_n 1, 1) := by decide +kernel
theorem dL_isPreferred_4 : decode cL_isPreferred 4 = .ok (.invokevirtual 58, 3) := by decide +kernel
theorem dL_isPreferred_7 : decode cL_isPreferred 7 = .ok (.ifCond .eq 7, 3) := by decide +kernel
theorem dL_isPreferred_10 : decode cL_isPreferred 10 = .ok (.lconst 1, 1) := by decide +kernel
theorem dL_isPreferred_11 : decode cL_isPreferred 11 = .ok (.goto 4, 3) := by decide +kernel
theorem dL_isPreferred_14 : decode cL_isPreferred 14 = .ok (.lconst 0, 1) := by decide +kernel
theorem dL_isPreferred_15 : decode cL_isPreferred 15 = .ok (.lastore, 1) := by decide +kernel
theorem dL_isPreferred_16 : decode cL_isPreferred 16 = .ok (.goto 6, 3) := by decide +kernel
theorem dL_isPreferred_19 : decode cL_isPreferred 19 = .ok (.astore_n 3, 1) := by decide +kernel
theorem dL_isPreferred_20 : decode cL_isPreferred 20 = .ok (.iconst 1, 1) := by decide +kernel
theorem dL_isPreferred_21 : decode cL_isPreferred 21 = .ok (.ireturn, 1) := by decide +kernel
theorem dL_isPreferred_22 : decode cL_isPreferred 22 = .ok (.iconst 0, 1) := by decide +kernel
theorem dL_isPreferred_23 : decode cL_isPreferred 23 = .ok (.ireturn, 1) := by decide +kernel
set_option maxRecDepth 20000 in
theorem ggL_supports_X1_supports : GoodIn wsL_supports wsX1_supports := goodIn_ca (goodIn_r _ [6, 7, 8, 9, 10, 5, 11, 12, 13, 14, 15, 16, 17, 18, 19, 20, 21, 22, 23, 24, 25, 26, 27, 28, 29, 30, 31, 32, 33, 34, 35, 36, 37, 38, 39, 40, 41, 42, 43, 44, 45, 46, 47, 48, 49, 50, 51, 52, 53, 54, 55, 56, 57, 58, 59, 60, 61, 62, 63, 64, 65, 66, 67, 68, 69, 70, 71, 72, 73, 74, 75, 76, 77, 78, 79, 80, 81, 82] (by decide +kernel) (by decide +kernel)) (goodIn_sub (fun _ h => List.mem_cons_of_mem _ (List.mem_append_right _ h)) (by decide +kernel))
set_option maxRecDepth 20000 in
theorem gL_supports_X1_supports : GoodIn wsL_supports (wsV RL 61 RX1 yX1_supports wsX1_supports) := goodIn_app (goodIn_of _ (by decide +kernel)) ggL_supports_X1_supports
theorem dL_supports_0 : decode cL_supports 0 = .ok (.aload_n 2, 1) := by decide +kernel
theorem dL_supports_1 : decode cL_supports 1 = .ok (.iconst 0, 1) := by decide +kernel
theorem dL_supports_2 : decode cL_supports 2 = .ok (.aload_n 0, 1) := by decide +kernel
theorem dL_supports_3 : decode cL_supports 3 = .ok (.iload_n 1, 1) := by decide +kernel
theorem dL_supports_4 : decode cL_supports 4 = .ok (.invokevirtual 61, 3) := by decide +kernel
theorem dL_supports_7 : decode cL_supports 7 = .ok (.i2l, 1) := by decide +kernel
theorem dL_supports_8 : decode cL_supports 8 = .ok (.lastore, 1) := by decide +kernel
theorem dL_supports_9 : decode cL_supports 9 = .ok (.goto 6, 3) := by decide +kernel
theorem dL_supports_12 : decode cL_supports 12 = .ok (.astore_n 3, 1) := by decide +kernel
theorem dL_supports_13 : decode cL_supports 13 = .ok (.iconst 1, 1) := by decide +kernel
theorem dL_supports_14 : decode cL_supports 14 = .ok (.ireturn, 1) := by decide +kernel
theorem dL_supports_15 : decode cL_supports 15 = .ok (.iconst 0, 1) := by decide +kernel
theorem dL_supports_16 : decode cL_supports 16 = .ok (.ireturn, 1) := by decide +kernel
set_option maxRecDepth 20000 in
theorem ggL_share_X1_share : GoodIn wsL_share wsX1_share := goodIn_ca (goodIn_r _ [6, 7, 8, 9, 10, 11, 12, 5, 13, 14, 15, 16, 17, 18, 19, 20, 21, 22, 23, 24, 25, 26, 27, 28, 29, 30, 31, 32, 33, 34, 35, 36, 37, 38, 39, 40, 41, 42, 43, 44, 45, 46, 47, 48, 49, 50, 51, 52, 53, 54, 55, 56, 57, 58, 59, 60, 61, 62, 63, 64, 65, 66, 67, 68, 69, 70, 71, 72, 73, 74, 75, 76, 77, 78, 79, 80, 81, 82, 83, 84, 85, 86, 87, 88, 89, 90, 91, 92, 93, 94, 95, 96, 97, 98, 99, 100, 101, 102, 103, 104, 105, 106, 107, 108, 109, 110, 111, 112, 113, 114, 115, 116, 117, 118, 119] (by decide +kernel) (by decide +kernel)) (goodIn_sub (fun _ h => List.mem_cons_of_mem _ (List.mem_append_right _ h)) (by decide +kernel))
set_option maxRecDepth 20000 in
theorem gL_share_X1_share : GoodIn wsL_share (wsV RL 64 RX1 yX1_share wsX1_share) := goodIn_app (goodIn_of _ (by decide +kernel)) ggL_share_X1_share
theorem dL_share_0 : decode cL_share 0 = .ok (.aload_n 2, 1) := by decide +kernel
theorem dL_share_1 : decode cL_share 1 = .ok (.iconst 0, 1) := by decide +kernel
theorem dL_share_2 : decode cL_share 2 = .ok (.aload_n 0, 1) := by decide +kernel
theorem dL_share_3 : decode cL_share 3 = .ok (.iload_n 1, 1) := by decide +kernel
theorem dL_share_4 : decode cL_share 4 = .ok (.invokevirtual 64, 3) := by decide +kernel
theorem dL_share_7 : decode cL_share 7 = .ok (.dastore, 1) := by decide +kernel
theorem dL_share_8 : decode cL_share 8 = .ok (.goto 6, 3) := by decide +kernel
theorem dL_share_11 : decode cL_share 11 = .ok (.astore_n 3, 1) := by decide +kernel
theorem dL_share_12 : decode cL_share 12 = .ok (.iconst 1, 1) := by decide +kernel
theorem dL_share_13 : decode cL_share 13 = .ok (.ireturn, 1) := by decide +kernel
theorem dL_share_14 : decode cL_share 14 = .ok (.iconst 0, 1) := by decide +kernel
theorem dL_share_15 : decode cL_share 15 = .ok (.ireturn, 1) := by decide +kernel
set_option maxRecDepth 20000 in
theorem ggL_walk_X1_walk : GoodIn wsL_walk wsX1_walk := goodIn_ca (goodIn_r _ [6, 7, 8, 9, 10, 11, 12, 13, 5, 14, 15, 16, 17, 18, 19, 20, 21, 22, 23, 24, 25, 26, 27, 28, 29, 30, 31, 32, 33, 34, 35, 36, 37, 38, 39, 40, 41, 42, 43, 44, 45, 46, 47, 48, 49, 50, 51, 52, 53, 54, 55, 56, 57, 58, 59, 60, 61, 62, 63, 64, 65, 66, 67, 68, 69, 70, 71, 72, 73, 74, 75, 76, 77, 78, 79, 80, 81, 82, 83, 84, 85, 86, 87, 88, 89, 90, 91, 92, 93, 94, 95] (by decide +kernel) (by decide +kernel)) (goodIn_sub (fun _ h => List.mem_cons_of_mem _ (List.mem_append_right _ h)) (by decide +kernel))
set_option maxRecDepth 20000 in
theorem gL_walk_X1_walk : GoodIn wsL_walk (wsV RL 68 RX1 yX1_walk wsX1_walk) := goodIn_app (goodIn_of _ (by decide +kernel)) ggL_walk_X1_walk
theorem dL_walk_0 : decode cL_walk 0 = .ok (.aload_n 2, 1) := by decide +kernel
theorem dL_walk_1 : decode cL_walk 1 = .ok (.iconst 0, 1) := by decide +kernel
theorem dL_walk_2 : decode cL_walk 2 = .ok (.aload_n 0, 1) := by decide +kernel
theorem dL_walk_3 : decode cL_walk 3 = .ok (.iload_n 1, 1) := by decide +kernel
theorem dL_walk_4 : decode cL_walk 4 = .ok (.invokevirtual 68, 3) := by decide +kernel
theorem dL_walk_7 : decode cL_walk 7 = .ok (.i2l, 1) := by decide +kernel
theorem dL_walk_8 : decode cL_walk 8 = .ok (.lastore, 1) := by decide +kernel
theorem dL_walk_9 : decode cL_walk 9 = .ok (.goto 6, 3) := by decide +kernel
theorem dL_walk_12 : decode cL_walk 12 = .ok (.astore_n 3, 1) := by decide +kernel
theorem dL_walk_13 : decode cL_walk 13 = .ok (.iconst 1, 1) := by decide +kernel
theorem dL_walk_14 : decode cL_walk 14 = .ok (.ireturn, 1) := by decide +kernel
theorem dL_walk_15 : decode cL_walk 15 = .ok (.iconst 0, 1) := by decide +kernel
theorem dL_walk_16 : decode cL_walk 16 = .ok (.ireturn, 1) := by decide +kernel
set_option maxRecDepth 20000 in
theorem ggL_applied_X1_applied : GoodIn wsL_applied wsX1_applied := goodIn_ca (goodIn_r _ [6, 7, 8, 9, 10, 11, 12, 13, 14, 15, 16, 17, 18, 19, 20, 21, 22, 23, 24, 25, 26, 27, 28, 29, 30] (by decide +kernel) (by decide +kernel)) (goodIn_sub (fun _ h => List.mem_cons_of_mem _ (List.mem_append_right _ h)) (by decide +kernel))
set_option maxRecDepth 20000 in
theorem gL_applied_X1_applied : GoodIn wsL_applied (wsV RL 71 RX1 yX1_applied wsX1_applied) := goodIn_app (goodIn_of _ (by decide +kernel)) ggL_applied_X1_applied
theorem dL_applied_0 : decode cL_applied 0 = .ok (.aload_n 2, 1) := by decide +kernel
theorem dL_applied_1 : decode cL_applied 1 = .ok (.iconst 0, 1) := by decide +kernel
theorem dL_applied_2 : decode cL_applied 2 = .ok (.aload_n 0, 1) := by decide +kernel
theorem dL_applied_3 : decode cL_applied 3 = .ok (.iload_n 1, 1) := by decide +kernel
theorem dL_applied_4 : decode cL_applied 4 = .ok (.invokevirtual 71, 3) := by decide +kernel
theorem dL_applied_7 : decode cL_applied 7 = .ok (.i2l, 1) := by decide +kernel
theorem dL_applied_8 : decode cL_applied 8 = .ok (.lastore, 1) := by decide +kernel
theorem dL_applied_9 : decode cL_applied 9 = .ok (.goto 6, 3) := by decide +kernel
theorem dL_applied_12 : decode cL_applied 12 = .ok (.astore_n 3, 1) := by decide +kernel
theorem dL_applied_13 : decode cL_applied 13 = .ok (.iconst 1, 1) := by decide +kernel
theorem dL_applied_14 : decode cL_applied 14 = .ok (.ireturn, 1) := by decide +kernel
theorem dL_applied_15 : decode cL_applied 15 = .ok (.iconst 0, 1) := by decide +kernel
theorem dL_applied_16 : decode cL_applied 16 = .ok (.ireturn, 1) := by decide +kernel
set_option maxRecDepth 20000 in
theorem ggL_respects_X1_respects : GoodIn wsL_respects wsX1_respects := goodIn_ca (goodIn_r _ [6, 7, 8, 9, 5, 10, 11, 12, 13, 14, 15, 16, 17, 18, 19, 20, 21, 22, 23, 24, 25, 26, 27, 28, 29, 30, 31, 32, 33, 34, 35, 36, 37, 38, 39, 40, 41, 42, 43, 44, 45, 46, 47, 48, 49, 50, 51, 52, 53, 54] (by decide +kernel) (by decide +kernel)) (goodIn_sub (fun _ h => List.mem_cons_of_mem _ (List.mem_append_right _ h)) (by decide +kernel))
set_option maxRecDepth 20000 in
theorem gL_respects_X1_respects : GoodIn wsL_respects (wsV RL 74 RX1 yX1_respects wsX1_respects) := goodIn_app (goodIn_of _ (by decide +kernel)) ggL_respects_X1_respects
theorem dL_respects_0 : decode cL_respects 0 = .ok (.aload_n 2, 1) := by decide +kernel
theorem dL_respects_1 : decode cL_respects 1 = .ok (.iconst 0, 1) := by decide +kernel
theorem dL_respects_2 : decode cL_respects 2 = .ok (.aload_n 0, 1) := by decide +kernel
theorem dL_respects_3 : decode cL_respects 3 = .ok (.iload_n 1, 1) := by decide +kernel
theorem dL_respects_4 : decode cL_respects 4 = .ok (.invokevirtual 74, 3) := by decide +kernel
theorem dL_respects_7 : decode cL_respects 7 = .ok (.ifCond .eq 7, 3) := by decide +kernel
theorem dL_respects_10 : decode cL_respects 10 = .ok (.lconst 1, 1) := by decide +kernel
theorem dL_respects_11 : decode cL_respects 11 = .ok (.goto 4, 3) := by decide +kernel
theorem dL_respects_14 : decode cL_respects 14 = .ok (.lconst 0, 1) := by decide +kernel
theorem dL_respects_15 : decode cL_respects 15 = .ok (.lastore, 1) := by decide +kernel
theorem dL_respects_16 : decode cL_respects 16 = .ok (.goto 6, 3) := by decide +kernel
theorem dL_respects_19 : decode cL_respects 19 = .ok (.astore_n 3, 1) := by decide +kernel
theorem dL_respects_20 : decode cL_respects 20 = .ok (.iconst 1, 1) := by decide +kernel
theorem dL_respects_21 : decode cL_respects 21 = .ok (.ireturn, 1) := by decide +kernel
theorem dL_respects_22 : decode cL_respects 22 = .ok (.iconst 0, 1) := by decide +kernel
theorem dL_respects_23 : decode cL_respects 23 = .ok (.ireturn, 1) := by decide +kernel
set_option maxRecDepth 20000 in
theorem ggL_law_X1_init : GoodIn wsL_law wsX1_init := goodIn_r _ [10, 11, 12, 13, 14, 15, 16, 17, 18, 19, 20, 21, 22, 23, 24, 25, 26, 27, 28, 29, 30, 31, 32, 33, 34, 35, 546, 547, 548, 549, 550, 551, 552, 553, 554, 555, 556, 557, 558, 559, 560, 561, 562, 563, 564, 565, 581, 582] (by decide +kernel) (by decide +kernel)
set_option maxRecDepth 20000 in
theorem gL_law_X1_init : GoodIn wsL_law (wsX1_init) := ggL_law_X1_init
set_option maxRecDepth 20000 in
theorem ggL_law_X2_init : GoodIn wsL_law wsX2_init := goodIn_r _ [38, 39, 12, 13, 14, 40, 41, 42, 43, 44, 29, 45, 46, 47, 48, 566, 567, 568, 569, 570, 571, 572, 573, 574, 575, 576, 577, 578, 579, 580] (by decide +kernel) (by decide +kernel)
set_option maxRecDepth 20000 in
theorem gL_law_X2_init : GoodIn wsL_law (wsX2_init) := ggL_law_X2_init
set_option maxRecDepth 20000 in
theorem ggL_law_L_setFact : GoodIn wsL_law wsL_setFact := goodIn_ca (goodIn_r _ [52, 53, 54, 55, 56, 2, 57, 58, 59, 60, 61, 62, 63, 64, 65, 66, 67, 68, 69, 70, 71, 72, 546, 547, 548, 549, 550, 551, 552, 553, 554, 555, 556, 557, 558, 559, 560, 561, 562, 563, 564, 565] (by decide +kernel) (by decide +kernel)) (goodIn_sub (fun _ h => List.mem_append_left _ (List.mem_append_left _ (List.mem_append_right _ h))) (by decide +kernel))
set_option maxRecDepth 20000 in
theorem gL_law_L_setFact : GoodIn wsL_law (va_wsS RL 81 yL_setFact wsL_setFact) := goodIn_app (goodIn_of _ (by decide +kernel)) ggL_law_L_setFact
set_option maxRecDepth 20000 in
theorem ggL_law_X2_setFact : GoodIn wsL_law wsX2_setFact := goodIn_r _ [76, 77, 78, 79, 80, 5, 81, 566, 567, 568, 569, 570, 571, 572, 573, 574, 575, 576, 577, 578, 579, 580] (by decide +kernel) (by decide +kernel)
set_option maxRecDepth 20000 in
theorem gL_law_X2_setFact : GoodIn wsL_law (wsV RL 86 RX2 yX2_setFact wsX2_setFact) := goodIn_app (goodIn_of _ (by decide +kernel)) ggL_law_X2_setFact
set_option maxRecDepth 20000 in
theorem ggL_law_X2_thrown : GoodIn wsL_law wsX2_thrown := goodIn_r _ [85, 77, 566, 567, 568, 569, 570, 571, 572, 573, 574, 575, 576, 577, 578, 579, 580] (by decide +kernel) (by decide +kernel)
set_option maxRecDepth 20000 in
theorem gL_law_X2_thrown : GoodIn wsL_law (wsV RL 87 RX2 yX2_thrown wsX2_thrown) := goodIn_app (goodIn_of _ (by decide +kernel)) ggL_law_X2_thrown
set_option maxRecDepth 20000 in
theorem ggL_law_L_addRule : GoodIn wsL_law wsL_addRule := goodIn_ca (goodIn_ca (goodIn_ca (goodIn_r _ [88, 53, 89, 90, 91, 92, 93, 2, 94, 95, 96, 97, 15, 16, 59, 60, 61, 62, 63, 98, 99, 100, 101, 102, 103, 67, 68, 69, 70, 71, 72, 546, 547, 548, 549, 550, 551, 552, 553, 554, 555, 556, 557, 558, 559, 560, 561, 562, 563, 564, 565] (by decide +kernel) (by decide +kernel)) (goodIn_sub (fun _ h => List.mem_append_left _ (List.mem_append_right _ h)) (by decide +kernel))) (goodIn_sub (fun _ h => List.mem_append_left _ (List.mem_append_left _ (List.mem_append_right _ h))) (by decide +kernel))) (goodIn_sub (fun _ h => List.mem_append_right _ h) (by decide +kernel))
set_option maxRecDepth 20000 in
theorem gL_law_L_addRule : GoodIn wsL_law (va_wsS RL 90 yL_addRule wsL_addRule) := goodIn_app (goodIn_of _ (by decide +kernel)) ggL_law_L_addRule
set_option maxRecDepth 20000 in
theorem ggL_law_X2_addRule : GoodIn wsL_law wsX2_addRule := goodIn_r _ [107, 77, 108, 40, 41, 79, 80, 5, 81, 109, 110, 111, 112, 113, 114, 115, 116, 566, 567, 568, 569, 570, 571, 572, 573, 574, 575, 576, 577, 578, 579, 580] (by decide +kernel) (by decide +kernel)
set_option maxRecDepth 20000 in
theorem gL_law_X2_addRule : GoodIn wsL_law (wsV RL 93 RX2 yX2_addRule wsX2_addRule) := goodIn_app (goodIn_of _ (by decide +kernel)) ggL_law_X2_addRule
set_option maxRecDepth 20000 in
theorem ggL_law_L_addDefault : GoodIn wsL_law wsL_addDefault := goodIn_ca (goodIn_ca (goodIn_ca (goodIn_r _ [119, 53, 89, 90, 120, 121, 122, 2, 123, 95, 96, 124, 17, 18, 19, 59, 60, 61, 62, 63, 98, 99, 100, 101, 102, 103, 67, 68, 69, 70, 71, 72, 546, 547, 548, 549, 550, 551, 552, 553, 554, 555, 556, 557, 558, 559, 560, 561, 562, 563, 564, 565] (by decide +kernel) (by decide +kernel)) (goodIn_sub (fun _ h => List.mem_append_left _ (List.mem_append_right _ h)) (by decide +kernel))) (goodIn_sub (fun _ h => List.mem_append_left _ (List.mem_append_left _ (List.mem_append_right _ h))) (by decide +kernel))) (goodIn_sub (fun _ h => List.mem_append_right _ h) (by decide +kernel))
set_option maxRecDepth 20000 in
theorem gL_law_L_addDefault : GoodIn wsL_law (va_wsS RL 94 yL_addDefault wsL_addDefault) := goodIn_app (goodIn_of _ (by decide +kernel)) ggL_law_L_addDefault
set_option maxRecDepth 20000 in
theorem ggL_law_X2_addDefault : GoodIn wsL_law wsX2_addDefault := goodIn_r _ [128, 77, 129, 42, 43, 44, 79, 80, 5, 81, 109, 110, 111, 112, 113, 114, 115, 116, 566, 567, 568, 569, 570, 571, 572, 573, 574, 575, 576, 577, 578, 579, 580] (by decide +kernel) (by decide +kernel)
set_option maxRecDepth 20000 in
theorem gL_law_X2_addDefault : GoodIn wsL_law (wsV RL 97 RX2 yX2_addDefault wsX2_addDefault) := goodIn_app (goodIn_of _ (by decide +kernel)) ggL_law_X2_addDefault
set_option maxRecDepth 20000 in
theorem ggL_law_L_dropRule : GoodIn wsL_law wsL_dropRule := goodIn_ca (goodIn_r _ [132, 90, 133, 134, 135, 2, 136, 95, 96, 97, 67, 68, 69, 70, 71, 72, 546, 547, 548, 549, 550, 551, 552, 553, 554, 555, 556, 557, 558, 559, 560, 561, 562, 563, 564, 565] (by decide +kernel) (by decide +kernel)) (goodIn_sub (fun _ h => List.mem_append_left _ (List.mem_append_right _ h)) (by decide +kernel))
set_option maxRecDepth 20000 in
theorem gL_law_L_dropRule : GoodIn wsL_law (va_wsS RL 98 yL_dropRule wsL_dropRule) := goodIn_app (goodIn_of _ (by decide +kernel)) ggL_law_L_dropRule
set_option maxRecDepth 20000 in
theorem ggL_law_X2_dropRule : GoodIn wsL_law wsX2_dropRule := goodIn_r _ [140, 77, 108, 109, 110, 111, 5, 112, 566, 567, 568, 569, 570, 571, 572, 573, 574, 575, 576, 577, 578, 579, 580] (by decide +kernel) (by decide +kernel)
set_option maxRecDepth 20000 in
theorem gL_law_X2_dropRule : GoodIn wsL_law (wsV RL 101 RX2 yX2_dropRule wsX2_dropRule) := goodIn_app (goodIn_of _ (by decide +kernel)) ggL_law_X2_dropRule
set_option maxRecDepth 20000 in
theorem ggL_law_L_dropDefault : GoodIn wsL_law wsL_dropDefault := goodIn_ca (goodIn_r _ [143, 90, 144, 145, 146, 2, 147, 95, 96, 124, 23, 148, 22, 149, 150, 34, 151, 152, 153, 154, 35, 65, 66, 67, 68, 69, 70, 71, 72, 546, 547, 548, 549, 550, 551, 552, 553, 554, 555, 556, 557, 558, 559, 560, 561, 562, 563, 564, 565, 581, 582] (by decide +kernel) (by decide +kernel)) (goodIn_sub (fun _ h => List.mem_append_left _ (List.mem_append_right _ h)) (by decide +kernel))
set_option maxRecDepth 20000 in
theorem gL_law_L_dropDefault : GoodIn wsL_law (va_wsS RL 102 yL_dropDefault wsL_dropDefault) := goodIn_app (goodIn_of _ (by decide +kernel)) ggL_law_L_dropDefault
set_option maxRecDepth 20000 in
theorem ggL_law_X2_dropDefault : GoodIn wsL_law wsX2_dropDefault := goodIn_r _ [158, 77, 129, 45, 109, 110, 111, 5, 112, 566, 567, 568, 569, 570, 571, 572, 573, 574, 575, 576, 577, 578, 579, 580] (by decide +kernel) (by decide +kernel)
set_option maxRecDepth 20000 in
theorem gL_law_X2_dropDefault : GoodIn wsL_law (wsV RL 104 RX2 yX2_dropDefault wsX2_dropDefault) := goodIn_app (goodIn_of _ (by decide +kernel)) ggL_law_X2_dropDefault
set_option maxRecDepth 20000 in
theorem ggL_law_L_prefer : GoodIn wsL_law wsL_prefer := goodIn_ca (goodIn_ca (goodIn_r _ [161, 53, 89, 162, 163, 164, 2, 165, 101, 102, 23, 72, 166, 167, 168, 169, 62, 63, 124, 170, 22, 171, 172, 35, 65, 66, 173, 174, 175, 34, 151, 152, 153, 154, 546, 547, 548, 549, 550, 551, 552, 553, 554, 555, 556, 557, 558, 559, 560, 561, 562, 563, 564, 565, 581, 582] (by decide +kernel) (by decide +kernel)) (goodIn_sub (fun _ h => List.mem_append_right _ h) (by decide +kernel))) (goodIn_sub (fun _ h => List.mem_append_left _ (List.mem_append_left _ (List.mem_append_right _ h))) (by decide +kernel))
set_option maxRecDepth 20000 in
theorem gL_law_L_prefer : GoodIn wsL_law (va_wsS RL 105 yL_prefer wsL_prefer) := goodIn_app (goodIn_of _ (by decide +kernel)) ggL_law_L_prefer
set_option maxRecDepth 20000 in
theorem ggL_law_X2_prefer : GoodIn wsL_law wsX2_prefer := goodIn_r _ [179, 77, 45, 180, 181, 182, 5, 183, 129, 184, 185, 186, 187, 188, 189, 190, 191, 566, 567, 568, 569, 570, 571, 572, 573, 574, 575, 576, 577, 578, 579, 580] (by decide +kernel) (by decide +kernel)
set_option maxRecDepth 20000 in
theorem gL_law_X2_prefer : GoodIn wsL_law (wsV RL 107 RX2 yX2_prefer wsX2_prefer) := goodIn_app (goodIn_of _ (by decide +kernel)) ggL_law_X2_prefer
set_option maxRecDepth 20000 in
theorem ggL_law_X1_forgetPriorities : GoodIn wsL_law wsX1_forgetPriorities := goodIn_r _ [195, 23, 72, 196, 22, 197, 198, 35, 199, 200, 201, 202, 203, 204, 205, 206, 207, 208, 34, 546, 547, 548, 549, 550, 551, 552, 553, 554, 555, 556, 557, 558, 559, 560, 561, 562, 563, 564, 565, 581, 582] (by decide +kernel) (by decide +kernel)
set_option maxRecDepth 20000 in
theorem gL_law_X1_forgetPriorities : GoodIn wsL_law (wsV RL 108 RX1 yX1_forgetPriorities wsX1_forgetPriorities) := goodIn_app (goodIn_of _ (by decide +kernel)) ggL_law_X1_forgetPriorities
set_option maxRecDepth 20000 in
theorem ggL_law_X2_forgetPriorities : GoodIn wsL_law wsX2_forgetPriorities := goodIn_r _ [212, 77, 129, 45, 184, 185, 186, 5, 187, 188, 189, 190, 191, 566, 567, 568, 569, 570, 571, 572, 573, 574, 575, 576, 577, 578, 579, 580] (by decide +kernel) (by decide +kernel)
set_option maxRecDepth 20000 in
theorem gL_law_X2_forgetPriorities : GoodIn wsL_law (wsV RL 111 RX2 yX2_forgetPriorities wsX2_forgetPriorities) := goodIn_app (goodIn_of _ (by decide +kernel)) ggL_law_X2_forgetPriorities
set_option maxRecDepth 20000 in
theorem ggL_law_L_isBefore : GoodIn wsL_law wsL_isBefore := goodIn_ca (goodIn_r _ [215, 53, 216, 217, 218, 2, 219, 23, 166, 167, 168, 169, 62, 63, 124, 170, 22, 171, 172, 35, 65, 66, 546, 547, 548, 549, 550, 551, 552, 553, 554, 555, 556, 557, 558, 559, 560, 561, 562, 563, 564, 565, 581, 582] (by decide +kernel) (by decide +kernel)) (goodIn_sub (fun _ h => List.mem_append_left _ (List.mem_append_left _ (List.mem_append_right _ h))) (by decide +kernel))
set_option maxRecDepth 20000 in
theorem gL_law_L_isBefore : GoodIn wsL_law (va_wsS RL 112 yL_isBefore wsL_isBefore) := goodIn_app (goodIn_of _ (by decide +kernel)) ggL_law_L_isBefore
set_option maxRecDepth 20000 in
theorem ggL_law_X2_isBefore : GoodIn wsL_law wsX2_isBefore := goodIn_r _ [223, 77, 180, 181, 182, 5, 183, 129, 184, 185, 186, 187, 188, 189, 190, 191, 45, 566, 567, 568, 569, 570, 571, 572, 573, 574, 575, 576, 577, 578, 579, 580] (by decide +kernel) (by decide +kernel)
set_option maxRecDepth 20000 in
theorem gL_law_X2_isBefore : GoodIn wsL_law (wsV RL 114 RX2 yX2_isBefore wsX2_isBefore) := goodIn_app (goodIn_of _ (by decide +kernel)) ggL_law_X2_isBefore
set_option maxRecDepth 20000 in
theorem ggL_law_X1_facts : GoodIn wsL_law wsX1_facts := goodIn_r _ [227, 58, 546, 547, 548, 549, 550, 551, 552, 553, 554, 555, 556, 557, 558, 559, 560, 561, 562, 563, 564, 565] (by decide +kernel) (by decide +kernel)
set_option maxRecDepth 20000 in
theorem gL_law_X1_facts : GoodIn wsL_law (wsV RL 115 RX1 yX1_facts wsX1_facts) := goodIn_app (goodIn_of _ (by decide +kernel)) ggL_law_X1_facts
set_option maxRecDepth 20000 in
theorem ggL_law_X2_facts : GoodIn wsL_law wsX2_facts := goodIn_r _ [231, 77, 78, 566, 567, 568, 569, 570, 571, 572, 573, 574, 575, 576, 577, 578, 579, 580] (by decide +kernel) (by decide +kernel)
set_option maxRecDepth 20000 in
theorem gL_law_X2_facts : GoodIn wsL_law (wsV RL 118 RX2 yX2_facts wsX2_facts) := goodIn_app (goodIn_of _ (by decide +kernel)) ggL_law_X2_facts
set_option maxRecDepth 20000 in
theorem ggL_law_X1_defaultCount : GoodIn wsL_law wsX1_defaultCount := goodIn_r _ [235, 124, 546, 547, 548, 549, 550, 551, 552, 553, 554, 555, 556, 557, 558, 559, 560, 561, 562, 563, 564, 565] (by decide +kernel) (by decide +kernel)
set_option maxRecDepth 20000 in
theorem gL_law_X1_defaultCount : GoodIn wsL_law (wsV RL 119 RX1 yX1_defaultCount wsX1_defaultCount) := goodIn_app (goodIn_of _ (by decide +kernel)) ggL_law_X1_defaultCount
set_option maxRecDepth 20000 in
theorem ggL_law_X2_defaultCount : GoodIn wsL_law wsX2_defaultCount := goodIn_r _ [239, 77, 129, 566, 567, 568, 569, 570, 571, 572, 573, 574, 575, 576, 577, 578, 579, 580] (by decide +kernel) (by decide +kernel)
set_option maxRecDepth 20000 in
theorem gL_law_X2_defaultCount : GoodIn wsL_law (wsV RL 122 RX2 yX2_defaultCount wsX2_defaultCount) := goodIn_app (goodIn_of _ (by decide +kernel)) ggL_law_X2_defaultCount
set_option maxRecDepth 20000 in
theorem ggL_law_L_closure : GoodIn wsL_law wsL_closure := goodIn_ca (goodIn_r _ [242, 89, 243, 244, 245, 2, 246, 98, 99, 100, 101, 102, 103, 247, 248, 249, 250, 97, 15, 16, 251, 252, 253, 254, 255, 256, 546, 547, 548, 549, 550, 551, 552, 553, 554, 555, 556, 557, 558, 559, 560, 561, 562, 563, 564, 565] (by decide +kernel) (by decide +kernel)) (goodIn_sub (fun _ h => List.mem_append_right _ h) (by decide +kernel))
set_option maxRecDepth 20000 in
theorem gL_law_L_closure : GoodIn wsL_law (va_wsS RL 123 yL_closure wsL_closure) := goodIn_app (goodIn_of _ (by decide +kernel)) ggL_law_L_closure
set_option maxRecDepth 20000 in
theorem ggL_law_X2_closure : GoodIn wsL_law wsX2_closure := goodIn_r _ [260, 77, 113, 114, 5, 115, 116, 261, 262, 263, 264, 108, 40, 41, 265, 266, 267, 109, 110, 111, 112, 566, 567, 568, 569, 570, 571, 572, 573, 574, 575, 576, 577, 578, 579, 580] (by decide +kernel) (by decide +kernel)
set_option maxRecDepth 20000 in
theorem gL_law_X2_closure : GoodIn wsL_law (wsV RL 126 RX2 yX2_closure wsX2_closure) := goodIn_app (goodIn_of _ (by decide +kernel)) ggL_law_X2_closure
set_option maxRecDepth 20000 in
theorem ggL_law_L_isOpen : GoodIn wsL_law wsL_isOpen := goodIn_ca (goodIn_ca (goodIn_r _ [270, 53, 89, 271, 272, 273, 2, 274, 166, 167, 168, 169, 62, 63, 124, 98, 99, 100, 101, 102, 103, 275, 276, 277, 278, 18, 254, 255, 256, 546, 547, 548, 549, 550, 551, 552, 553, 554, 555, 556, 557, 558, 559, 560, 561, 562, 563, 564, 565] (by decide +kernel) (by decide +kernel)) (goodIn_sub (fun _ h => List.mem_append_left _ (List.mem_append_left _ (List.mem_append_right _ h))) (by decide +kernel))) (goodIn_sub (fun _ h => List.mem_append_right _ h) (by decide +kernel))
set_option maxRecDepth 20000 in
theorem gL_law_L_isOpen : GoodIn wsL_law (va_wsS RL 127 yL_isOpen wsL_isOpen) := goodIn_app (goodIn_of _ (by decide +kernel)) ggL_law_L_isOpen
set_option maxRecDepth 20000 in
theorem ggL_law_X2_isOpen : GoodIn wsL_law wsX2_isOpen := goodIn_r _ [282, 77, 180, 181, 182, 5, 183, 129, 113, 114, 115, 116, 283, 284, 285, 286, 43, 265, 266, 267, 566, 567, 568, 569, 570, 571, 572, 573, 574, 575, 576, 577, 578, 579, 580] (by decide +kernel) (by decide +kernel)
set_option maxRecDepth 20000 in
theorem gL_law_X2_isOpen : GoodIn wsL_law (wsV RL 129 RX2 yX2_isOpen wsX2_isOpen) := goodIn_app (goodIn_of _ (by decide +kernel)) ggL_law_X2_isOpen
set_option maxRecDepth 20000 in
theorem ggL_law_L_generatorsOf : GoodIn wsL_law wsL_generatorsOf := goodIn_ca (goodIn_r _ [289, 89, 290, 291, 292, 2, 293, 98, 99, 100, 101, 102, 103, 294, 295, 296, 297, 71, 124, 26, 58, 27, 298, 299, 300, 301, 302, 19, 64, 65, 66, 247, 248, 249, 250, 97, 15, 16, 251, 252, 253, 254, 255, 256, 303, 304, 305, 306, 17, 275, 276, 277, 278, 18, 307, 308, 309, 310, 311, 312, 313, 314, 28, 546, 547, 548, 549, 550, 551, 552, 553, 554, 555, 556, 557, 558, 559, 560, 561, 562, 563, 564, 565] (by decide +kernel) (by decide +kernel)) (goodIn_sub (fun _ h => List.mem_append_right _ h) (by decide +kernel))
set_option maxRecDepth 20000 in
theorem gL_law_L_generatorsOf : GoodIn wsL_law (va_wsS RL 130 yL_generatorsOf wsL_generatorsOf) := goodIn_app (goodIn_of _ (by decide +kernel)) ggL_law_L_generatorsOf
set_option maxRecDepth 20000 in
theorem ggL_law_X2_generatorsOf : GoodIn wsL_law wsX2_generatorsOf := goodIn_r _ [318, 77, 113, 114, 5, 115, 116, 319, 320, 321, 322, 129, 42, 323, 324, 325, 326, 78, 44, 261, 262, 263, 264, 108, 40, 41, 265, 266, 267, 283, 284, 285, 286, 43, 109, 110, 111, 112, 566, 567, 568, 569, 570, 571, 572, 573, 574, 575, 576, 577, 578, 579, 580] (by decide +kernel) (by decide +kernel)
set_option maxRecDepth 20000 in
theorem gL_law_X2_generatorsOf : GoodIn wsL_law (wsV RL 132 RX2 yX2_generatorsOf wsX2_generatorsOf) := goodIn_app (goodIn_of _ (by decide +kernel)) ggL_law_X2_generatorsOf
set_option maxRecDepth 20000 in
theorem ggL_law_L_isExtension : GoodIn wsL_law wsL_isExtension := goodIn_ca (goodIn_r _ [329, 89, 330, 331, 332, 2, 333, 26, 98, 99, 100, 101, 102, 103, 294, 295, 296, 297, 71, 124, 58, 27, 298, 299, 300, 301, 302, 19, 64, 65, 66, 247, 248, 249, 250, 97, 15, 16, 251, 252, 253, 254, 255, 256, 303, 304, 305, 306, 17, 275, 276, 277, 278, 18, 307, 308, 309, 310, 311, 312, 313, 314, 28, 546, 547, 548, 549, 550, 551, 552, 553, 554, 555, 556, 557, 558, 559, 560, 561, 562, 563, 564, 565] (by decide +kernel) (by decide +kernel)) (goodIn_sub (fun _ h => List.mem_append_right _ h) (by decide +kernel))
set_option maxRecDepth 20000 in
theorem gL_law_L_isExtension : GoodIn wsL_law (va_wsS RL 133 yL_isExtension wsL_isExtension) := goodIn_app (goodIn_of _ (by decide +kernel)) ggL_law_L_isExtension
set_option maxRecDepth 20000 in
theorem ggL_law_X2_isExtension : GoodIn wsL_law wsX2_isExtension := goodIn_r _ [337, 77, 113, 114, 5, 115, 116, 338, 339, 340, 341, 319, 320, 321, 322, 129, 42, 323, 324, 325, 326, 78, 44, 261, 262, 263, 264, 108, 40, 41, 265, 266, 267, 283, 284, 285, 286, 43, 566, 567, 568, 569, 570, 571, 572, 573, 574, 575, 576, 577, 578, 579, 580] (by decide +kernel) (by decide +kernel)
set_option maxRecDepth 20000 in
theorem gL_law_X2_isExtension : GoodIn wsL_law (wsV RL 135 RX2 yX2_isExtension wsX2_isExtension) := goodIn_app (goodIn_of _ (by decide +kernel)) ggL_law_X2_isExtension
set_option maxRecDepth 20000 in
theorem ggL_law_X1_extensionCount : GoodIn wsL_law wsX1_extensionCount := goodIn_r _ [345, 298, 294, 295, 296, 2, 297, 71, 124, 26, 58, 27, 299, 300, 301, 302, 19, 64, 65, 66, 247, 248, 249, 250, 97, 15, 16, 103, 251, 252, 253, 254, 255, 256, 303, 304, 305, 306, 17, 275, 276, 277, 278, 18, 307, 308, 309, 310, 311, 312, 313, 314, 28, 546, 547, 548, 549, 550, 551, 552, 553, 554, 555, 556, 557, 558, 559, 560, 561, 562, 563, 564, 565] (by decide +kernel) (by decide +kernel)
set_option maxRecDepth 20000 in
theorem gL_law_X1_extensionCount : GoodIn wsL_law (wsV RL 136 RX1 yX1_extensionCount wsX1_extensionCount) := goodIn_app (goodIn_of _ (by decide +kernel)) ggL_law_X1_extensionCount
set_option maxRecDepth 20000 in
theorem ggL_law_X2_extensionCount : GoodIn wsL_law wsX2_extensionCount := goodIn_r _ [349, 77, 350, 351, 352, 353, 5, 354, 129, 47, 323, 324, 325, 326, 78, 44, 261, 262, 263, 264, 108, 40, 41, 116, 265, 266, 267, 319, 320, 321, 322, 42, 283, 284, 285, 286, 43, 566, 567, 568, 569, 570, 571, 572, 573, 574, 575, 576, 577, 578, 579, 580] (by decide +kernel) (by decide +kernel)
set_option maxRecDepth 20000 in
theorem gL_law_X2_extensionCount : GoodIn wsL_law (wsV RL 139 RX2 yX2_extensionCount wsX2_extensionCount) := goodIn_app (goodIn_of _ (by decide +kernel)) ggL_law_X2_extensionCount
set_option maxRecDepth 20000 in
theorem ggL_law_L_extension : GoodIn wsL_law wsL_extension := goodIn_ca (goodIn_r _ [357, 53, 358, 359, 360, 2, 361, 28, 294, 295, 296, 297, 71, 124, 26, 58, 27, 298, 299, 300, 301, 302, 19, 64, 65, 66, 247, 248, 249, 250, 97, 15, 16, 103, 251, 252, 253, 254, 255, 256, 303, 304, 305, 306, 17, 275, 276, 277, 278, 18, 307, 308, 309, 310, 311, 312, 313, 314, 362, 363, 364, 365, 62, 63, 546, 547, 548, 549, 550, 551, 552, 553, 554, 555, 556, 557, 558, 559, 560, 561, 562, 563, 564, 565] (by decide +kernel) (by decide +kernel)) (goodIn_sub (fun _ h => List.mem_append_left _ (List.mem_append_left _ (List.mem_append_right _ h))) (by decide +kernel))
set_option maxRecDepth 20000 in
theorem gL_law_L_extension : GoodIn wsL_law (va_wsS RL 140 yL_extension wsL_extension) := goodIn_app (goodIn_of _ (by decide +kernel)) ggL_law_L_extension
set_option maxRecDepth 20000 in
theorem ggL_law_X2_extension : GoodIn wsL_law wsX2_extension := goodIn_r _ [369, 47, 370, 371, 372, 5, 373, 350, 77, 351, 352, 353, 354, 129, 323, 324, 325, 326, 78, 44, 261, 262, 263, 264, 108, 40, 41, 116, 265, 266, 267, 319, 320, 321, 322, 42, 283, 284, 285, 286, 43, 566, 567, 568, 569, 570, 571, 572, 573, 574, 575, 576, 577, 578, 579, 580] (by decide +kernel) (by decide +kernel)
set_option maxRecDepth 20000 in
theorem gL_law_X2_extension : GoodIn wsL_law (wsV RL 142 RX2 yX2_extension wsX2_extension) := goodIn_app (goodIn_of _ (by decide +kernel)) ggL_law_X2_extension
set_option maxRecDepth 20000 in
theorem ggL_law_L_isPreferred : GoodIn wsL_law wsL_isPreferred := goodIn_ca (goodIn_r _ [376, 53, 377, 378, 379, 2, 380, 30, 381, 382, 383, 384, 72, 298, 385, 386, 124, 294, 295, 296, 297, 71, 26, 58, 27, 299, 300, 301, 302, 19, 64, 65, 66, 247, 248, 249, 250, 97, 15, 16, 103, 251, 252, 253, 254, 255, 256, 303, 304, 305, 306, 17, 275, 276, 277, 278, 18, 307, 308, 309, 310, 311, 312, 313, 314, 28, 387, 388, 389, 390, 25, 391, 392, 393, 394, 23, 395, 22, 396, 397, 35, 398, 399, 400, 401, 402, 403, 404, 405, 406, 407, 408, 409, 362, 363, 364, 365, 62, 63, 546, 547, 548, 549, 550, 551, 552, 553, 554, 555, 556, 557, 558, 559, 560, 561, 562, 563, 564, 565, 581, 582] (by decide +kernel) (by decide +kernel)) (goodIn_sub (fun _ h => List.mem_append_left _ (List.mem_append_left _ (List.mem_append_right _ h))) (by decide +kernel))
set_option maxRecDepth 20000 in
theorem gL_law_L_isPreferred : GoodIn wsL_law (va_wsS RL 143 yL_isPreferred wsL_isPreferred) := goodIn_app (goodIn_of _ (by decide +kernel)) ggL_law_L_isPreferred
set_option maxRecDepth 20000 in
theorem ggL_law_X2_isPreferred : GoodIn wsL_law wsX2_isPreferred := goodIn_r _ [413, 48, 370, 371, 372, 5, 373, 350, 77, 351, 352, 353, 354, 129, 47, 323, 324, 325, 326, 78, 44, 261, 262, 263, 264, 108, 40, 41, 116, 265, 266, 267, 319, 320, 321, 322, 42, 283, 284, 285, 286, 43, 414, 415, 416, 417, 14, 418, 419, 420, 421, 422, 423, 424, 425, 29, 426, 427, 428, 429, 184, 185, 186, 187, 188, 189, 190, 191, 45, 430, 431, 432, 433, 434, 435, 436, 437, 566, 567, 568, 569, 570, 571, 572, 573, 574, 575, 576, 577, 578, 579, 580] (by decide +kernel) (by decide +kernel)
set_option maxRecDepth 20000 in
theorem gL_law_X2_isPreferred : GoodIn wsL_law (wsV RL 145 RX2 yX2_isPreferred wsX2_isPreferred) := goodIn_app (goodIn_of _ (by decide +kernel)) ggL_law_X2_isPreferred
set_option maxRecDepth 20000 in
theorem ggL_law_X1_preferredCount : GoodIn wsL_law wsX1_preferredCount := goodIn_r _ [441, 385, 381, 382, 383, 2, 384, 72, 298, 30, 386, 124, 294, 295, 296, 297, 71, 26, 58, 27, 299, 300, 301, 302, 19, 64, 65, 66, 247, 248, 249, 250, 97, 15, 16, 103, 251, 252, 253, 254, 255, 256, 303, 304, 305, 306, 17, 275, 276, 277, 278, 18, 307, 308, 309, 310, 311, 312, 313, 314, 28, 387, 388, 389, 390, 25, 391, 392, 393, 394, 23, 395, 22, 396, 397, 35, 398, 399, 400, 401, 402, 403, 404, 405, 406, 407, 408, 409, 546, 547, 548, 549, 550, 551, 552, 553, 554, 555, 556, 557, 558, 559, 560, 561, 562, 563, 564, 565, 581, 582] (by decide +kernel) (by decide +kernel)
set_option maxRecDepth 20000 in
theorem gL_law_X1_preferredCount : GoodIn wsL_law (wsV RL 146 RX1 yX1_preferredCount wsX1_preferredCount) := goodIn_app (goodIn_of _ (by decide +kernel)) ggL_law_X1_preferredCount
set_option maxRecDepth 20000 in
theorem ggL_law_X2_preferredCount : GoodIn wsL_law wsX2_preferredCount := goodIn_r _ [445, 77, 446, 447, 448, 5, 449, 350, 48, 414, 415, 416, 417, 14, 47, 351, 352, 353, 354, 129, 323, 324, 325, 326, 78, 44, 261, 262, 263, 264, 108, 40, 41, 116, 265, 266, 267, 319, 320, 321, 322, 42, 283, 284, 285, 286, 43, 418, 419, 420, 421, 422, 423, 424, 425, 29, 426, 427, 428, 429, 184, 185, 186, 187, 188, 189, 190, 191, 45, 430, 431, 432, 433, 434, 435, 436, 437, 566, 567, 568, 569, 570, 571, 572, 573, 574, 575, 576, 577, 578, 579, 580] (by decide +kernel) (by decide +kernel)
set_option maxRecDepth 20000 in
theorem gL_law_X2_preferredCount : GoodIn wsL_law (wsV RL 149 RX2 yX2_preferredCount wsX2_preferredCount) := goodIn_app (goodIn_of _ (by decide +kernel)) ggL_law_X2_preferredCount
set_option maxRecDepth 20000 in
theorem ggL_law_L_supports : GoodIn wsL_law wsL_supports := goodIn_ca (goodIn_r _ [452, 53, 453, 454, 455, 2, 456, 298, 28, 59, 60, 61, 62, 63, 294, 295, 296, 297, 71, 124, 26, 58, 27, 299, 300, 301, 302, 19, 64, 65, 66, 247, 248, 249, 250, 97, 15, 16, 103, 251, 252, 253, 254, 255, 256, 303, 304, 305, 306, 17, 275, 276, 277, 278, 18, 307, 308, 309, 310, 311, 312, 313, 314, 546, 547, 548, 549, 550, 551, 552, 553, 554, 555, 556, 557, 558, 559, 560, 561, 562, 563, 564, 565] (by decide +kernel) (by decide +kernel)) (goodIn_sub (fun _ h => List.mem_append_left _ (List.mem_append_left _ (List.mem_append_right _ h))) (by decide +kernel))
set_option maxRecDepth 20000 in
theorem gL_law_L_supports : GoodIn wsL_law (va_wsS RL 150 yL_supports wsL_supports) := goodIn_app (goodIn_of _ (by decide +kernel)) ggL_law_L_supports
set_option maxRecDepth 20000 in
theorem ggL_law_X2_supports : GoodIn wsL_law wsX2_supports := goodIn_r _ [460, 77, 350, 47, 79, 80, 5, 81, 109, 110, 111, 112, 351, 352, 353, 354, 129, 323, 324, 325, 326, 78, 44, 261, 262, 263, 264, 108, 40, 41, 116, 265, 266, 267, 319, 320, 321, 322, 42, 283, 284, 285, 286, 43, 566, 567, 568, 569, 570, 571, 572, 573, 574, 575, 576, 577, 578, 579, 580] (by decide +kernel) (by decide +kernel)
set_option maxRecDepth 20000 in
theorem gL_law_X2_supports : GoodIn wsL_law (wsV RL 152 RX2 yX2_supports wsX2_supports) := goodIn_app (goodIn_of _ (by decide +kernel)) ggL_law_X2_supports
set_option maxRecDepth 20000 in
theorem ggL_law_X1_common : GoodIn wsL_law wsX1_common := goodIn_r _ [464, 103, 298, 30, 28, 381, 382, 383, 2, 384, 72, 385, 386, 124, 294, 295, 296, 297, 71, 26, 58, 27, 299, 300, 301, 302, 19, 64, 65, 66, 247, 248, 249, 250, 97, 15, 16, 251, 252, 253, 254, 255, 256, 303, 304, 305, 306, 17, 275, 276, 277, 278, 18, 307, 308, 309, 310, 311, 312, 313, 314, 387, 388, 389, 390, 25, 391, 392, 393, 394, 23, 395, 22, 396, 397, 35, 398, 399, 400, 401, 402, 403, 404, 405, 406, 407, 408, 409, 546, 547, 548, 549, 550, 551, 552, 553, 554, 555, 556, 557, 558, 559, 560, 561, 562, 563, 564, 565, 581, 582] (by decide +kernel) (by decide +kernel)
set_option maxRecDepth 20000 in
theorem gL_law_X1_common : GoodIn wsL_law (wsV RL 153 RX1 yX1_common wsX1_common) := goodIn_app (goodIn_of _ (by decide +kernel)) ggL_law_X1_common
set_option maxRecDepth 20000 in
theorem ggL_law_X2_common : GoodIn wsL_law wsX2_common := goodIn_r _ [468, 77, 116, 350, 48, 47, 414, 415, 416, 5, 417, 14, 351, 352, 353, 354, 129, 323, 324, 325, 326, 78, 44, 261, 262, 263, 264, 108, 40, 41, 265, 266, 267, 319, 320, 321, 322, 42, 283, 284, 285, 286, 43, 418, 419, 420, 421, 422, 423, 424, 425, 29, 426, 427, 428, 429, 184, 185, 186, 187, 188, 189, 190, 191, 45, 430, 431, 432, 433, 434, 435, 436, 437, 566, 567, 568, 569, 570, 571, 572, 573, 574, 575, 576, 577, 578, 579, 580] (by decide +kernel) (by decide +kernel)
set_option maxRecDepth 20000 in
theorem gL_law_X2_common : GoodIn wsL_law (wsV RL 157 RX2 yX2_common wsX2_common) := goodIn_app (goodIn_of _ (by decide +kernel)) ggL_law_X2_common
set_option maxRecDepth 20000 in
theorem ggL_law_L_share : GoodIn wsL_law wsL_share := goodIn_ca (goodIn_r _ [471, 53, 472, 473, 474, 2, 475, 385, 298, 30, 28, 59, 60, 61, 62, 63, 381, 382, 383, 384, 72, 386, 124, 294, 295, 296, 297, 71, 26, 58, 27, 299, 300, 301, 302, 19, 64, 65, 66, 247, 248, 249, 250, 97, 15, 16, 103, 251, 252, 253, 254, 255, 256, 303, 304, 305, 306, 17, 275, 276, 277, 278, 18, 307, 308, 309, 310, 311, 312, 313, 314, 387, 388, 389, 390, 25, 391, 392, 393, 394, 23, 395, 22, 396, 397, 35, 398, 399, 400, 401, 402, 403, 404, 405, 406, 407, 408, 409, 546, 547, 548, 549, 550, 551, 552, 553, 554, 555, 556, 557, 558, 559, 560, 561, 562, 563, 564, 565, 581, 582] (by decide +kernel) (by decide +kernel)) (goodIn_sub (fun _ h => List.mem_append_left _ (List.mem_append_left _ (List.mem_append_right _ h))) (by decide +kernel))
set_option maxRecDepth 20000 in
theorem gL_law_L_share : GoodIn wsL_law (va_wsS RL 158 yL_share wsL_share) := goodIn_app (goodIn_of _ (by decide +kernel)) ggL_law_L_share
set_option maxRecDepth 20000 in
theorem ggL_law_X2_share : GoodIn wsL_law wsX2_share := goodIn_r _ [479, 77, 350, 48, 47, 79, 80, 5, 81, 446, 447, 448, 449, 414, 415, 416, 417, 14, 351, 352, 353, 354, 129, 323, 324, 325, 326, 78, 44, 261, 262, 263, 264, 108, 40, 41, 116, 265, 266, 267, 319, 320, 321, 322, 42, 283, 284, 285, 286, 43, 418, 419, 420, 421, 422, 423, 424, 425, 29, 426, 427, 428, 429, 184, 185, 186, 187, 188, 189, 190, 191, 45, 430, 431, 432, 433, 434, 435, 436, 437, 566, 567, 568, 569, 570, 571, 572, 573, 574, 575, 576, 577, 578, 579, 580] (by decide +kernel) (by decide +kernel)
set_option maxRecDepth 20000 in
theorem gL_law_X2_share : GoodIn wsL_law (wsV RL 161 RX2 yX2_share wsX2_share) := goodIn_app (goodIn_of _ (by decide +kernel)) ggL_law_X2_share
set_option maxRecDepth 20000 in
theorem ggL_law_L_walk : GoodIn wsL_law wsL_walk := goodIn_ca (goodIn_r _ [482, 89, 483, 484, 485, 2, 486, 487, 124, 24, 26, 488, 489, 490, 491, 101, 102, 386, 294, 295, 296, 297, 71, 58, 27, 298, 299, 300, 301, 302, 19, 64, 65, 66, 247, 248, 249, 250, 97, 15, 16, 103, 251, 252, 253, 254, 255, 256, 303, 304, 305, 306, 17, 275, 276, 277, 278, 18, 307, 308, 309, 310, 311, 312, 313, 314, 28, 387, 388, 389, 390, 25, 402, 403, 404, 405, 546, 547, 548, 549, 550, 551, 552, 553, 554, 555, 556, 557, 558, 559, 560, 561, 562, 563, 564, 565] (by decide +kernel) (by decide +kernel)) (goodIn_sub (fun _ h => List.mem_append_right _ h) (by decide +kernel))
set_option maxRecDepth 20000 in
theorem gL_law_L_walk : GoodIn wsL_law (va_wsS RL 162 yL_walk wsL_walk) := goodIn_app (goodIn_of _ (by decide +kernel)) ggL_law_L_walk
set_option maxRecDepth 20000 in
theorem ggL_law_X2_walk_ : GoodIn wsL_law wsX2_walk_ := goodIn_r _ [495, 14, 496, 46, 497, 498, 499, 5, 500, 77, 418, 419, 420, 421, 129, 422, 423, 424, 425, 29, 430, 431, 432, 433, 78, 44, 261, 262, 263, 264, 108, 40, 41, 116, 265, 266, 267, 434, 435, 436, 437, 42, 283, 284, 285, 286, 43, 566, 567, 568, 569, 570, 571, 572, 573, 574, 575, 576, 577, 578, 579, 580] (by decide +kernel) (by decide +kernel)
set_option maxRecDepth 20000 in
theorem gL_law_X2_walk_ : GoodIn wsL_law (wsV RL 164 RX2 yX2_walk_ wsX2_walk_) := goodIn_app (goodIn_of _ (by decide +kernel)) ggL_law_X2_walk_
set_option maxRecDepth 20000 in
theorem ggL_law_X1_appliedCount : GoodIn wsL_law wsX1_appliedCount := goodIn_r _ [504, 487, 546, 547, 548, 549, 550, 551, 552, 553, 554, 555, 556, 557, 558, 559, 560, 561, 562, 563, 564, 565] (by decide +kernel) (by decide +kernel)
set_option maxRecDepth 20000 in
theorem gL_law_X1_appliedCount : GoodIn wsL_law (wsV RL 165 RX1 yX1_appliedCount wsX1_appliedCount) := goodIn_app (goodIn_of _ (by decide +kernel)) ggL_law_X1_appliedCount
set_option maxRecDepth 20000 in
theorem ggL_law_X2_appliedCount : GoodIn wsL_law wsX2_appliedCount := goodIn_r _ [508, 77, 496, 566, 567, 568, 569, 570, 571, 572, 573, 574, 575, 576, 577, 578, 579, 580] (by decide +kernel) (by decide +kernel)
set_option maxRecDepth 20000 in
theorem gL_law_X2_appliedCount : GoodIn wsL_law (wsV RL 168 RX2 yX2_appliedCount wsX2_appliedCount) := goodIn_app (goodIn_of _ (by decide +kernel)) ggL_law_X2_appliedCount
set_option maxRecDepth 20000 in
theorem ggL_law_L_applied : GoodIn wsL_law wsL_applied := goodIn_ca (goodIn_r _ [511, 53, 512, 513, 514, 2, 515, 62, 63, 487, 24, 546, 547, 548, 549, 550, 551, 552, 553, 554, 555, 556, 557, 558, 559, 560, 561, 562, 563, 564, 565] (by decide +kernel) (by decide +kernel)) (goodIn_sub (fun _ h => List.mem_append_left _ (List.mem_append_left _ (List.mem_append_right _ h))) (by decide +kernel))
set_option maxRecDepth 20000 in
theorem gL_law_L_applied : GoodIn wsL_law (va_wsS RL 169 yL_applied wsL_applied) := goodIn_app (goodIn_of _ (by decide +kernel)) ggL_law_L_applied
set_option maxRecDepth 20000 in
theorem ggL_law_X2_applied : GoodIn wsL_law wsX2_applied := goodIn_r _ [519, 77, 496, 46, 109, 110, 111, 5, 112, 566, 567, 568, 569, 570, 571, 572, 573, 574, 575, 576, 577, 578, 579, 580] (by decide +kernel) (by decide +kernel)
set_option maxRecDepth 20000 in
theorem gL_law_X2_applied : GoodIn wsL_law (wsV RL 171 RX2 yX2_applied wsX2_applied) := goodIn_app (goodIn_of _ (by decide +kernel)) ggL_law_X2_applied
set_option maxRecDepth 20000 in
theorem ggL_law_L_respects : GoodIn wsL_law wsL_respects := goodIn_ca (goodIn_r _ [522, 89, 523, 524, 525, 2, 526, 488, 489, 490, 491, 101, 102, 386, 124, 387, 388, 389, 390, 25, 64, 65, 66, 391, 392, 393, 394, 23, 395, 22, 396, 397, 35, 546, 547, 548, 549, 550, 551, 552, 553, 554, 555, 556, 557, 558, 559, 560, 561, 562, 563, 564, 565, 581, 582] (by decide +kernel) (by decide +kernel)) (goodIn_sub (fun _ h => List.mem_append_right _ h) (by decide +kernel))
set_option maxRecDepth 20000 in
theorem gL_law_L_respects : GoodIn wsL_law (va_wsS RL 172 yL_respects wsL_respects) := goodIn_app (goodIn_of _ (by decide +kernel)) ggL_law_L_respects
set_option maxRecDepth 20000 in
theorem ggL_law_X2_respects_ : GoodIn wsL_law wsX2_respects_ := goodIn_r _ [530, 14, 497, 498, 499, 5, 500, 77, 418, 419, 420, 421, 129, 422, 423, 424, 425, 29, 426, 427, 428, 429, 184, 185, 186, 187, 188, 189, 190, 191, 45, 566, 567, 568, 569, 570, 571, 572, 573, 574, 575, 576, 577, 578, 579, 580] (by decide +kernel) (by decide +kernel)
set_option maxRecDepth 20000 in
theorem gL_law_X2_respects_ : GoodIn wsL_law (wsV RL 174 RX2 yX2_respects_ wsX2_respects_) := goodIn_app (goodIn_of _ (by decide +kernel)) ggL_law_X2_respects_
set_option maxRecDepth 20000 in
theorem ggL_law_X1_digest : GoodIn wsL_law wsX1_digest := goodIn_r _ [534, 535, 58, 97, 15, 16, 124, 17, 18, 19, 23, 487, 24, 536, 537, 2, 538, 539, 170, 22, 171, 172, 35, 65, 66, 546, 547, 548, 549, 550, 551, 552, 553, 554, 555, 556, 557, 558, 559, 560, 561, 562, 563, 564, 565, 581, 582] (by decide +kernel) (by decide +kernel)
set_option maxRecDepth 20000 in
theorem gL_law_X1_digest : GoodIn wsL_law (wsV RL 175 RX1 yX1_digest wsX1_digest) := goodIn_app (goodIn_of _ (by decide +kernel)) ggL_law_X1_digest
set_option maxRecDepth 20000 in
theorem ggL_law_X2_digest : GoodIn wsL_law wsX2_digest := goodIn_r _ [543, 77, 544, 78, 545, 108, 40, 41, 129, 42, 43, 44, 496, 46, 184, 185, 186, 5, 187, 188, 189, 190, 191, 45, 566, 567, 568, 569, 570, 571, 572, 573, 574, 575, 576, 577, 578, 579, 580] (by decide +kernel) (by decide +kernel)
set_option maxRecDepth 20000 in
theorem gL_law_X2_digest : GoodIn wsL_law (wsV RL 179 RX2 yX2_digest wsX2_digest) := goodIn_app (goodIn_of _ (by decide +kernel)) ggL_law_X2_digest
theorem dL_law_0 : decode cL_law 0 = .ok (.new 8, 3) := by decide +kernel
theorem dL_law_3 : decode cL_law 3 = .ok (.dup, 1) := by decide +kernel
theorem dL_law_4 : decode cL_law 4 = .ok (.invokespecial 77, 3) := by decide +kernel
theorem dL_law_7 : decode cL_law 7 = .ok (.astore_n 1, 1) := by decide +kernel
theorem dL_law_8 : decode cL_law 8 = .ok (.new 78, 3) := by decide +kernel
theorem dL_law_11 : decode cL_law 11 = .ok (.dup, 1) := by decide +kernel
theorem dL_law_12 : decode cL_law 12 = .ok (.invokespecial 80, 3) := by decide +kernel
theorem dL_law_15 : decode cL_law 15 = .ok (.astore_n 2, 1) := by decide +kernel
theorem dL_law_16 : decode cL_law 16 = .ok (.iconst 1, 1) := by decide +kernel
theorem dL_law_17 : decode cL_law 17 = .ok (.newarray .long, 2) := by decide +kernel
theorem dL_law_19 : decode cL_law 19 = .ok (.astore_n 3, 1) := by decide +kernel
theorem dL_law_20 : decode cL_law 20 = .ok (.iconst 1, 1) := by decide +kernel
theorem dL_law_21 : decode cL_law 21 = .ok (.newarray .double, 2) := by decide +kernel
theorem dL_law_23 : decode cL_law 23 = .ok (.astore 4, 2) := by decide +kernel
theorem dL_law_25 : decode cL_law 25 = .ok (.iconst 0, 1) := by decide +kernel
theorem dL_law_26 : decode cL_law 26 = .ok (.istore 5, 2) := by decide +kernel
theorem dL_law_28 : decode cL_law 28 = .ok (.iload 5, 2) := by decide +kernel
theorem dL_law_30 : decode cL_law 30 = .ok (.aload_n 0, 1) := by decide +kernel
theorem dL_law_31 : decode cL_law 31 = .ok (.arraylength, 1) := by decide +kernel
theorem dL_law_32 : decode cL_law 32 = .ok (.iconst 4, 1) := by decide +kernel
theorem dL_law_33 : decode cL_law 33 = .ok (.isub, 1) := by decide +kernel
theorem dL_law_34 : decode cL_law 34 = .ok (.if_icmp .gt 1423, 3) := by decide +kernel
theorem dL_law_37 : decode cL_law 37 = .ok (.aload_n 0, 1) := by decide +kernel
theorem dL_law_38 : decode cL_law 38 = .ok (.iload 5, 2) := by decide +kernel
theorem dL_law_40 : decode cL_law 40 = .ok (.iaload, 1) := by decide +kernel
theorem dL_law_41 : decode cL_law 41 = .ok (.bipush 31, 2) := by decide +kernel
theorem dL_law_43 : decode cL_law 43 = .ok (.iand, 1) := by decide +kernel
theorem dL_law_44 : decode cL_law 44 = .ok (.tableswitch 1407 0 25 #[120, 211, 279, 359, 403, 447, 522, 535, 610, 623, 636, 692, 767, 823, 886, 899, 955, 1018, 1031, 1087, 1128, 1205, 1261, 1274, 1330, 1393], 120) := by decide +kernel
theorem dL_law_164 : decode cL_law 164 = .ok (.aload_n 1, 1) := by decide +kernel
theorem dL_law_165 : decode cL_law 165 = .ok (.aload_n 0, 1) := by decide +kernel
theorem dL_law_166 : decode cL_law 166 = .ok (.iload 5, 2) := by decide +kernel
theorem dL_law_168 : decode cL_law 168 = .ok (.iconst 1, 1) := by decide +kernel
theorem dL_law_169 : decode cL_law 169 = .ok (.iadd, 1) := by decide +kernel
theorem dL_law_170 : decode cL_law 170 = .ok (.iaload, 1) := by decide +kernel
theorem dL_law_171 : decode cL_law 171 = .ok (.aload_n 0, 1) := by decide +kernel
theorem dL_law_172 : decode cL_law 172 = .ok (.iload 5, 2) := by decide +kernel
theorem dL_law_174 : decode cL_law 174 = .ok (.iconst 2, 1) := by decide +kernel
theorem dL_law_175 : decode cL_law 175 = .ok (.iadd, 1) := by decide +kernel
theorem dL_law_176 : decode cL_law 176 = .ok (.iaload, 1) := by decide +kernel
theorem dL_law_177 : decode cL_law 177 = .ok (.ifCond .eq 7, 3) := by decide +kernel
theorem dL_law_180 : decode cL_law 180 = .ok (.iconst 1, 1) := by decide +kernel
theorem dL_law_181 : decode cL_law 181 = .ok (.goto 4, 3) := by decide +kernel
theorem dL_law_184 : decode cL_law 184 = .ok (.iconst 0, 1) := by decide +kernel
theorem dL_law_185 : decode cL_law 185 = .ok (.aload_n 3, 1) := by decide +kernel
theorem dL_law_186 : decode cL_law 186 = .ok (.invokestatic 81, 3) := by decide +kernel
theorem dL_law_189 : decode cL_law 189 = .ok (.istore 6, 2) := by decide +kernel
theorem dL_law_191 : decode cL_law 191 = .ok (.aload_n 2, 1) := by decide +kernel
theorem dL_law_192 : decode cL_law 192 = .ok (.aload_n 0, 1) := by decide +kernel
theorem dL_law_193 : decode cL_law 193 = .ok (.iload 5, 2) := by decide +kernel
theorem dL_law_195 : decode cL_law 195 = .ok (.iconst 1, 1) := by decide +kernel
theorem dL_law_196 : decode cL_law 196 = .ok (.iadd, 1) := by decide +kernel
theorem dL_law_197 : decode cL_law 197 = .ok (.iaload, 1) := by decide +kernel
theorem dL_law_198 : decode cL_law 198 = .ok (.aload_n 0, 1) := by decide +kernel
theorem dL_law_199 : decode cL_law 199 = .ok (.iload 5, 2) := by decide +kernel
theorem dL_law_201 : decode cL_law 201 = .ok (.iconst 2, 1) := by decide +kernel
theorem dL_law_202 : decode cL_law 202 = .ok (.iadd, 1) := by decide +kernel
theorem dL_law_203 : decode cL_law 203 = .ok (.iaload, 1) := by decide +kernel
theorem dL_law_204 : decode cL_law 204 = .ok (.ifCond .eq 7, 3) := by decide +kernel
theorem dL_law_207 : decode cL_law 207 = .ok (.iconst 1, 1) := by decide +kernel
theorem dL_law_208 : decode cL_law 208 = .ok (.goto 4, 3) := by decide +kernel
theorem dL_law_211 : decode cL_law 211 = .ok (.iconst 0, 1) := by decide +kernel
theorem dL_law_212 : decode cL_law 212 = .ok (.invokevirtual 86, 3) := by decide +kernel
theorem dL_law_215 : decode cL_law 215 = .ok (.istore 7, 2) := by decide +kernel
theorem dL_law_217 : decode cL_law 217 = .ok (.aload_n 2, 1) := by decide +kernel
theorem dL_law_218 : decode cL_law 218 = .ok (.invokevirtual 87, 3) := by decide +kernel
theorem dL_law_221 : decode cL_law 221 = .ok (.iload 6, 2) := by decide +kernel
theorem dL_law_223 : decode cL_law 223 = .ok (.if_icmp .eq 5, 3) := by decide +kernel
theorem dL_law_226 : decode cL_law 226 = .ok (.iconst 0, 1) := by decide +kernel
theorem dL_law_227 : decode cL_law 227 = .ok (.ireturn, 1) := by decide +kernel
theorem dL_law_228 : decode cL_law 228 = .ok (.iload 6, 2) := by decide +kernel
theorem dL_law_230 : decode cL_law 230 = .ok (.ifCond .ne 22, 3) := by decide +kernel
theorem dL_law_233 : decode cL_law 233 = .ok (.aload_n 3, 1) := by decide +kernel
theorem dL_law_234 : decode cL_law 234 = .ok (.iconst 0, 1) := by decide +kernel
theorem dL_law_235 : decode cL_law 235 = .ok (.laload, 1) := by decide +kernel
theorem dL_law_236 : decode cL_law 236 = .ok (.iload 7, 2) := by decide +kernel
theorem dL_law_238 : decode cL_law 238 = .ok (.ifCond .eq 7, 3) := by decide +kernel
theorem dL_law_241 : decode cL_law 241 = .ok (.lconst 1, 1) := by decide +kernel
theorem dL_law_242 : decode cL_law 242 = .ok (.goto 4, 3) := by decide +kernel
theorem dL_law_245 : decode cL_law 245 = .ok (.lconst 0, 1) := by decide +kernel
theorem dL_law_246 : decode cL_law 246 = .ok (.lcmp, 1) := by decide +kernel
theorem dL_law_247 : decode cL_law 247 = .ok (.ifCond .eq 5, 3) := by decide +kernel
theorem dL_law_250 : decode cL_law 250 = .ok (.iconst 0, 1) := by decide +kernel
theorem dL_law_251 : decode cL_law 251 = .ok (.ireturn, 1) := by decide +kernel
theorem dL_law_252 : decode cL_law 252 = .ok (.goto 1199, 3) := by decide +kernel
theorem dL_law_255 : decode cL_law 255 = .ok (.aload_n 1, 1) := by decide +kernel
theorem dL_law_256 : decode cL_law 256 = .ok (.aload_n 0, 1) := by decide +kernel
theorem dL_law_257 : decode cL_law 257 = .ok (.iload 5, 2) := by decide +kernel
theorem dL_law_259 : decode cL_law 259 = .ok (.iconst 1, 1) := by decide +kernel
theorem dL_law_260 : decode cL_law 260 = .ok (.iadd, 1) := by decide +kernel
theorem dL_law_261 : decode cL_law 261 = .ok (.iaload, 1) := by decide +kernel
theorem dL_law_262 : decode cL_law 262 = .ok (.aload_n 0, 1) := by decide +kernel
theorem dL_law_263 : decode cL_law 263 = .ok (.iload 5, 2) := by decide +kernel
theorem dL_law_265 : decode cL_law 265 = .ok (.iconst 2, 1) := by decide +kernel
theorem dL_law_266 : decode cL_law 266 = .ok (.iadd, 1) := by decide +kernel
theorem dL_law_267 : decode cL_law 267 = .ok (.iaload, 1) := by decide +kernel
theorem dL_law_268 : decode cL_law 268 = .ok (.aload_n 3, 1) := by decide +kernel
theorem dL_law_269 : decode cL_law 269 = .ok (.invokestatic 90, 3) := by decide +kernel
theorem dL_law_272 : decode cL_law 272 = .ok (.istore 6, 2) := by decide +kernel
theorem dL_law_274 : decode cL_law 274 = .ok (.aload_n 2, 1) := by decide +kernel
theorem dL_law_275 : decode cL_law 275 = .ok (.aload_n 0, 1) := by decide +kernel
theorem dL_law_276 : decode cL_law 276 = .ok (.iload 5, 2) := by decide +kernel
theorem dL_law_278 : decode cL_law 278 = .ok (.iconst 1, 1) := by decide +kernel
theorem dL_law_279 : decode cL_law 279 = .ok (.iadd, 1) := by decide +kernel
theorem dL_law_280 : decode cL_law 280 = .ok (.iaload, 1) := by decide +kernel
theorem dL_law_281 : decode cL_law 281 = .ok (.aload_n 0, 1) := by decide +kernel
theorem dL_law_282 : decode cL_law 282 = .ok (.iload 5, 2) := by decide +kernel
theorem dL_law_284 : decode cL_law 284 = .ok (.iconst 2, 1) := by decide +kernel
theorem dL_law_285 : decode cL_law 285 = .ok (.iadd, 1) := by decide +kernel
theorem dL_law_286 : decode cL_law 286 = .ok (.iaload, 1) := by decide +kernel
theorem dL_law_287 : decode cL_law 287 = .ok (.invokevirtual 93, 3) := by decide +kernel
theorem dL_law_290 : decode cL_law 290 = .ok (.istore 7, 2) := by decide +kernel
theorem dL_law_292 : decode cL_law 292 = .ok (.aload_n 2, 1) := by decide +kernel
theorem dL_law_293 : decode cL_law 293 = .ok (.invokevirtual 87, 3) := by decide +kernel
theorem dL_law_296 : decode cL_law 296 = .ok (.iload 6, 2) := by decide +kernel
theorem dL_law_298 : decode cL_law 298 = .ok (.if_icmp .eq 5, 3) := by decide +kernel
theorem dL_law_301 : decode cL_law 301 = .ok (.iconst 0, 1) := by decide +kernel
theorem dL_law_302 : decode cL_law 302 = .ok (.ireturn, 1) := by decide +kernel
theorem dL_law_303 : decode cL_law 303 = .ok (.iload 6, 2) := by decide +kernel
theorem dL_law_305 : decode cL_law 305 = .ok (.ifCond .ne 15, 3) := by decide +kernel
theorem dL_law_308 : decode cL_law 308 = .ok (.aload_n 3, 1) := by decide +kernel
theorem dL_law_309 : decode cL_law 309 = .ok (.iconst 0, 1) := by decide +kernel
theorem dL_law_310 : decode cL_law 310 = .ok (.laload, 1) := by decide +kernel
theorem dL_law_311 : decode cL_law 311 = .ok (.iload 7, 2) := by decide +kernel
theorem dL_law_313 : decode cL_law 313 = .ok (.i2l, 1) := by decide +kernel
theorem dL_law_314 : decode cL_law 314 = .ok (.lcmp, 1) := by decide +kernel
theorem dL_law_315 : decode cL_law 315 = .ok (.ifCond .eq 5, 3) := by decide +kernel
theorem dL_law_318 : decode cL_law 318 = .ok (.iconst 0, 1) := by decide +kernel
theorem dL_law_319 : decode cL_law 319 = .ok (.ireturn, 1) := by decide +kernel
theorem dL_law_320 : decode cL_law 320 = .ok (.goto 1131, 3) := by decide +kernel
theorem dL_law_323 : decode cL_law 323 = .ok (.aload_n 1, 1) := by decide +kernel
theorem dL_law_324 : decode cL_law 324 = .ok (.aload_n 0, 1) := by decide +kernel
theorem dL_law_325 : decode cL_law 325 = .ok (.iload 5, 2) := by decide +kernel
theorem dL_law_327 : decode cL_law 327 = .ok (.iconst 1, 1) := by decide +kernel
theorem dL_law_328 : decode cL_law 328 = .ok (.iadd, 1) := by decide +kernel
theorem dL_law_329 : decode cL_law 329 = .ok (.iaload, 1) := by decide +kernel
theorem dL_law_330 : decode cL_law 330 = .ok (.aload_n 0, 1) := by decide +kernel
theorem dL_law_331 : decode cL_law 331 = .ok (.iload 5, 2) := by decide +kernel
theorem dL_law_333 : decode cL_law 333 = .ok (.iconst 2, 1) := by decide +kernel
theorem dL_law_334 : decode cL_law 334 = .ok (.iadd, 1) := by decide +kernel
theorem dL_law_335 : decode cL_law 335 = .ok (.iaload, 1) := by decide +kernel
theorem dL_law_336 : decode cL_law 336 = .ok (.aload_n 0, 1) := by decide +kernel
theorem dL_law_337 : decode cL_law 337 = .ok (.iload 5, 2) := by decide +kernel
theorem dL_law_339 : decode cL_law 339 = .ok (.iconst 3, 1) := by decide +kernel
theorem dL_law_340 : decode cL_law 340 = .ok (.iadd, 1) := by decide +kernel
theorem dL_law_341 : decode cL_law 341 = .ok (.iaload, 1) := by decide +kernel
theorem dL_law_342 : decode cL_law 342 = .ok (.aload_n 3, 1) := by decide +kernel
theorem dL_law_343 : decode cL_law 343 = .ok (.invokestatic 94, 3) := by decide +kernel
theorem dL_law_346 : decode cL_law 346 = .ok (.istore 6, 2) := by decide +kernel
theorem dL_law_348 : decode cL_law 348 = .ok (.aload_n 2, 1) := by decide +kernel
theorem dL_law_349 : decode cL_law 349 = .ok (.aload_n 0, 1) := by decide +kernel
theorem dL_law_350 : decode cL_law 350 = .ok (.iload 5, 2) := by decide +kernel
theorem dL_law_352 : decode cL_law 352 = .ok (.iconst 1, 1) := by decide +kernel
theorem dL_law_353 : decode cL_law 353 = .ok (.iadd, 1) := by decide +kernel
theorem dL_law_354 : decode cL_law 354 = .ok (.iaload, 1) := by decide +kernel
theorem dL_law_355 : decode cL_law 355 = .ok (.aload_n 0, 1) := by decide +kernel
theorem dL_law_356 : decode cL_law 356 = .ok (.iload 5, 2) := by decide +kernel
theorem dL_law_358 : decode cL_law 358 = .ok (.iconst 2, 1) := by decide +kernel
theorem dL_law_359 : decode cL_law 359 = .ok (.iadd, 1) := by decide +kernel
theorem dL_law_360 : decode cL_law 360 = .ok (.iaload, 1) := by decide +kernel
theorem dL_law_361 : decode cL_law 361 = .ok (.aload_n 0, 1) := by decide +kernel
theorem dL_law_362 : decode cL_law 362 = .ok (.iload 5, 2) := by decide +kernel
theorem dL_law_364 : decode cL_law 364 = .ok (.iconst 3, 1) := by decide +kernel
theorem dL_law_365 : decode cL_law 365 = .ok (.iadd, 1) := by decide +kernel
theorem dL_law_366 : decode cL_law 366 = .ok (.iaload, 1) := by decide +kernel
theorem dL_law_367 : decode cL_law 367 = .ok (.invokevirtual 97, 3) := by decide +kernel
theorem dL_law_370 : decode cL_law 370 = .ok (.istore 7, 2) := by decide +kernel
theorem dL_law_372 : decode cL_law 372 = .ok (.aload_n 2, 1) := by decide +kernel
theorem dL_law_373 : decode cL_law 373 = .ok (.invokevirtual 87, 3) := by decide +kernel
theorem dL_law_376 : decode cL_law 376 = .ok (.iload 6, 2) := by decide +kernel
theorem dL_law_378 : decode cL_law 378 = .ok (.if_icmp .eq 5, 3) := by decide +kernel
theorem dL_law_381 : decode cL_law 381 = .ok (.iconst 0, 1) := by decide +kernel
theorem dL_law_382 : decode cL_law 382 = .ok (.ireturn, 1) := by decide +kernel
theorem dL_law_383 : decode cL_law 383 = .ok (.iload 6, 2) := by decide +kernel
theorem dL_law_385 : decode cL_law 385 = .ok (.ifCond .ne 15, 3) := by decide +kernel
theorem dL_law_388 : decode cL_law 388 = .ok (.aload_n 3, 1) := by decide +kernel
theorem dL_law_389 : decode cL_law 389 = .ok (.iconst 0, 1) := by decide +kernel
theorem dL_law_390 : decode cL_law 390 = .ok (.laload, 1) := by decide +kernel
theorem dL_law_391 : decode cL_law 391 = .ok (.iload 7, 2) := by decide +kernel
theorem dL_law_393 : decode cL_law 393 = .ok (.i2l, 1) := by decide +kernel
theorem dL_law_394 : decode cL_law 394 = .ok (.lcmp, 1) := by decide +kernel
theorem dL_law_395 : decode cL_law 395 = .ok (.ifCond .eq 5, 3) := by decide +kernel
theorem dL_law_398 : decode cL_law 398 = .ok (.iconst 0, 1) := by decide +kernel
theorem dL_law_399 : decode cL_law 399 = .ok (.ireturn, 1) := by decide +kernel
theorem dL_law_400 : decode cL_law 400 = .ok (.goto 1051, 3) := by decide +kernel
theorem dL_law_403 : decode cL_law 403 = .ok (.aload_n 1, 1) := by decide +kernel
theorem dL_law_404 : decode cL_law 404 = .ok (.aload_n 3, 1) := by decide +kernel
theorem dL_law_405 : decode cL_law 405 = .ok (.invokestatic 98, 3) := by decide +kernel
theorem dL_law_408 : decode cL_law 408 = .ok (.istore 6, 2) := by decide +kernel
theorem dL_law_410 : decode cL_law 410 = .ok (.aload_n 2, 1) := by decide +kernel
theorem dL_law_411 : decode cL_law 411 = .ok (.invokevirtual 101, 3) := by decide +kernel
theorem dL_law_414 : decode cL_law 414 = .ok (.istore 7, 2) := by decide +kernel
theorem dL_law_416 : decode cL_law 416 = .ok (.aload_n 2, 1) := by decide +kernel
theorem dL_law_417 : decode cL_law 417 = .ok (.invokevirtual 87, 3) := by decide +kernel
theorem dL_law_420 : decode cL_law 420 = .ok (.iload 6, 2) := by decide +kernel
theorem dL_law_422 : decode cL_law 422 = .ok (.if_icmp .eq 5, 3) := by decide +kernel
theorem dL_law_425 : decode cL_law 425 = .ok (.iconst 0, 1) := by decide +kernel
theorem dL_law_426 : decode cL_law 426 = .ok (.ireturn, 1) := by decide +kernel
theorem dL_law_427 : decode cL_law 427 = .ok (.iload 6, 2) := by decide +kernel
theorem dL_law_429 : decode cL_law 429 = .ok (.ifCond .ne 15, 3) := by decide +kernel
theorem dL_law_432 : decode cL_law 432 = .ok (.aload_n 3, 1) := by decide +kernel
theorem dL_law_433 : decode cL_law 433 = .ok (.iconst 0, 1) := by decide +kernel
theorem dL_law_434 : decode cL_law 434 = .ok (.laload, 1) := by decide +kernel
theorem dL_law_435 : decode cL_law 435 = .ok (.iload 7, 2) := by decide +kernel
theorem dL_law_437 : decode cL_law 437 = .ok (.i2l, 1) := by decide +kernel
theorem dL_law_438 : decode cL_law 438 = .ok (.lcmp, 1) := by decide +kernel
theorem dL_law_439 : decode cL_law 439 = .ok (.ifCond .eq 5, 3) := by decide +kernel
theorem dL_law_442 : decode cL_law 442 = .ok (.iconst 0, 1) := by decide +kernel
theorem dL_law_443 : decode cL_law 443 = .ok (.ireturn, 1) := by decide +kernel
theorem dL_law_444 : decode cL_law 444 = .ok (.goto 1007, 3) := by decide +kernel
theorem dL_law_447 : decode cL_law 447 = .ok (.aload_n 1, 1) := by decide +kernel
theorem dL_law_448 : decode cL_law 448 = .ok (.aload_n 3, 1) := by decide +kernel
theorem dL_law_449 : decode cL_law 449 = .ok (.invokestatic 102, 3) := by decide +kernel
theorem dL_law_452 : decode cL_law 452 = .ok (.istore 6, 2) := by decide +kernel
theorem dL_law_454 : decode cL_law 454 = .ok (.aload_n 2, 1) := by decide +kernel
theorem dL_law_455 : decode cL_law 455 = .ok (.invokevirtual 104, 3) := by decide +kernel
theorem dL_law_458 : decode cL_law 458 = .ok (.istore 7, 2) := by decide +kernel
theorem dL_law_460 : decode cL_law 460 = .ok (.aload_n 2, 1) := by decide +kernel
theorem dL_law_461 : decode cL_law 461 = .ok (.invokevirtual 87, 3) := by decide +kernel
theorem dL_law_464 : decode cL_law 464 = .ok (.iload 6, 2) := by decide +kernel
theorem dL_law_466 : decode cL_law 466 = .ok (.if_icmp .eq 5, 3) := by decide +kernel
theorem dL_law_469 : decode cL_law 469 = .ok (.iconst 0, 1) := by decide +kernel
theorem dL_law_470 : decode cL_law 470 = .ok (.ireturn, 1) := by decide +kernel
theorem dL_law_471 : decode cL_law 471 = .ok (.iload 6, 2) := by decide +kernel
theorem dL_law_473 : decode cL_law 473 = .ok (.ifCond .ne 15, 3) := by decide +kernel
theorem dL_law_476 : decode cL_law 476 = .ok (.aload_n 3, 1) := by decide +kernel
theorem dL_law_477 : decode cL_law 477 = .ok (.iconst 0, 1) := by decide +kernel
theorem dL_law_478 : decode cL_law 478 = .ok (.laload, 1) := by decide +kernel
theorem dL_law_479 : decode cL_law 479 = .ok (.iload 7, 2) := by decide +kernel
theorem dL_law_481 : decode cL_law 481 = .ok (.i2l, 1) := by decide +kernel
theorem dL_law_482 : decode cL_law 482 = .ok (.lcmp, 1) := by decide +kernel
theorem dL_law_483 : decode cL_law 483 = .ok (.ifCond .eq 5, 3) := by decide +kernel
theorem dL_law_486 : decode cL_law 486 = .ok (.iconst 0, 1) := by decide +kernel
theorem dL_law_487 : decode cL_law 487 = .ok (.ireturn, 1) := by decide +kernel
theorem dL_law_488 : decode cL_law 488 = .ok (.goto 963, 3) := by decide +kernel
theorem dL_law_491 : decode cL_law 491 = .ok (.aload_n 1, 1) := by decide +kernel
theorem dL_law_492 : decode cL_law 492 = .ok (.aload_n 0, 1) := by decide +kernel
theorem dL_law_493 : decode cL_law 493 = .ok (.iload 5, 2) := by decide +kernel
theorem dL_law_495 : decode cL_law 495 = .ok (.iconst 1, 1) := by decide +kernel
theorem dL_law_496 : decode cL_law 496 = .ok (.iadd, 1) := by decide +kernel
theorem dL_law_497 : decode cL_law 497 = .ok (.iaload, 1) := by decide +kernel
theorem dL_law_498 : decode cL_law 498 = .ok (.aload_n 0, 1) := by decide +kernel
theorem dL_law_499 : decode cL_law 499 = .ok (.iload 5, 2) := by decide +kernel
theorem dL_law_501 : decode cL_law 501 = .ok (.iconst 2, 1) := by decide +kernel
theorem dL_law_502 : decode cL_law 502 = .ok (.iadd, 1) := by decide +kernel
theorem dL_law_503 : decode cL_law 503 = .ok (.iaload, 1) := by decide +kernel
theorem dL_law_504 : decode cL_law 504 = .ok (.aload_n 3, 1) := by decide +kernel
theorem dL_law_505 : decode cL_law 505 = .ok (.invokestatic 105, 3) := by decide +kernel
theorem dL_law_508 : decode cL_law 508 = .ok (.istore 6, 2) := by decide +kernel
theorem dL_law_510 : decode cL_law 510 = .ok (.aload_n 2, 1) := by decide +kernel
theorem dL_law_511 : decode cL_law 511 = .ok (.aload_n 0, 1) := by decide +kernel
theorem dL_law_512 : decode cL_law 512 = .ok (.iload 5, 2) := by decide +kernel
theorem dL_law_514 : decode cL_law 514 = .ok (.iconst 1, 1) := by decide +kernel
theorem dL_law_515 : decode cL_law 515 = .ok (.iadd, 1) := by decide +kernel
theorem dL_law_516 : decode cL_law 516 = .ok (.iaload, 1) := by decide +kernel
theorem dL_law_517 : decode cL_law 517 = .ok (.aload_n 0, 1) := by decide +kernel
theorem dL_law_518 : decode cL_law 518 = .ok (.iload 5, 2) := by decide +kernel
theorem dL_law_520 : decode cL_law 520 = .ok (.iconst 2, 1) := by decide +kernel
theorem dL_law_521 : decode cL_law 521 = .ok (.iadd, 1) := by decide +kernel
theorem dL_law_522 : decode cL_law 522 = .ok (.iaload, 1) := by decide +kernel
theorem dL_law_523 : decode cL_law 523 = .ok (.invokevirtual 107, 3) := by decide +kernel
theorem dL_law_526 : decode cL_law 526 = .ok (.istore 7, 2) := by decide +kernel
theorem dL_law_528 : decode cL_law 528 = .ok (.aload_n 2, 1) := by decide +kernel
theorem dL_law_529 : decode cL_law 529 = .ok (.invokevirtual 87, 3) := by decide +kernel
theorem dL_law_532 : decode cL_law 532 = .ok (.iload 6, 2) := by decide +kernel
theorem dL_law_534 : decode cL_law 534 = .ok (.if_icmp .eq 5, 3) := by decide +kernel
theorem dL_law_537 : decode cL_law 537 = .ok (.iconst 0, 1) := by decide +kernel
theorem dL_law_538 : decode cL_law 538 = .ok (.ireturn, 1) := by decide +kernel
theorem dL_law_539 : decode cL_law 539 = .ok (.iload 6, 2) := by decide +kernel
theorem dL_law_541 : decode cL_law 541 = .ok (.ifCond .ne 22, 3) := by decide +kernel
theorem dL_law_544 : decode cL_law 544 = .ok (.aload_n 3, 1) := by decide +kernel
theorem dL_law_545 : decode cL_law 545 = .ok (.iconst 0, 1) := by decide +kernel
theorem dL_law_546 : decode cL_law 546 = .ok (.laload, 1) := by decide +kernel
theorem dL_law_547 : decode cL_law 547 = .ok (.iload 7, 2) := by decide +kernel
theorem dL_law_549 : decode cL_law 549 = .ok (.ifCond .eq 7, 3) := by decide +kernel
theorem dL_law_552 : decode cL_law 552 = .ok (.lconst 1, 1) := by decide +kernel
theorem dL_law_553 : decode cL_law 553 = .ok (.goto 4, 3) := by decide +kernel
theorem dL_law_556 : decode cL_law 556 = .ok (.lconst 0, 1) := by decide +kernel
theorem dL_law_557 : decode cL_law 557 = .ok (.lcmp, 1) := by decide +kernel
theorem dL_law_558 : decode cL_law 558 = .ok (.ifCond .eq 5, 3) := by decide +kernel
theorem dL_law_561 : decode cL_law 561 = .ok (.iconst 0, 1) := by decide +kernel
theorem dL_law_562 : decode cL_law 562 = .ok (.ireturn, 1) := by decide +kernel
theorem dL_law_563 : decode cL_law 563 = .ok (.goto 888, 3) := by decide +kernel
theorem dL_law_566 : decode cL_law 566 = .ok (.aload_n 1, 1) := by decide +kernel
theorem dL_law_567 : decode cL_law 567 = .ok (.invokevirtual 108, 3) := by decide +kernel
theorem dL_law_570 : decode cL_law 570 = .ok (.aload_n 2, 1) := by decide +kernel
theorem dL_law_571 : decode cL_law 571 = .ok (.invokevirtual 111, 3) := by decide +kernel
theorem dL_law_574 : decode cL_law 574 = .ok (.if_icmp .eq 877, 3) := by decide +kernel
theorem dL_law_577 : decode cL_law 577 = .ok (.iconst 0, 1) := by decide +kernel
theorem dL_law_578 : decode cL_law 578 = .ok (.ireturn, 1) := by decide +kernel
theorem dL_law_579 : decode cL_law 579 = .ok (.aload_n 1, 1) := by decide +kernel
theorem dL_law_580 : decode cL_law 580 = .ok (.aload_n 0, 1) := by decide +kernel
theorem dL_law_581 : decode cL_law 581 = .ok (.iload 5, 2) := by decide +kernel
theorem dL_law_583 : decode cL_law 583 = .ok (.iconst 1, 1) := by decide +kernel
theorem dL_law_584 : decode cL_law 584 = .ok (.iadd, 1) := by decide +kernel
theorem dL_law_585 : decode cL_law 585 = .ok (.iaload, 1) := by decide +kernel
theorem dL_law_586 : decode cL_law 586 = .ok (.aload_n 0, 1) := by decide +kernel
theorem dL_law_587 : decode cL_law 587 = .ok (.iload 5, 2) := by decide +kernel
theorem dL_law_589 : decode cL_law 589 = .ok (.iconst 2, 1) := by decide +kernel
theorem dL_law_590 : decode cL_law 590 = .ok (.iadd, 1) := by decide +kernel
theorem dL_law_591 : decode cL_law 591 = .ok (.iaload, 1) := by decide +kernel
theorem dL_law_592 : decode cL_law 592 = .ok (.aload_n 3, 1) := by decide +kernel
theorem dL_law_593 : decode cL_law 593 = .ok (.invokestatic 112, 3) := by decide +kernel
theorem dL_law_596 : decode cL_law 596 = .ok (.istore 6, 2) := by decide +kernel
theorem dL_law_598 : decode cL_law 598 = .ok (.aload_n 2, 1) := by decide +kernel
theorem dL_law_599 : decode cL_law 599 = .ok (.aload_n 0, 1) := by decide +kernel
theorem dL_law_600 : decode cL_law 600 = .ok (.iload 5, 2) := by decide +kernel
theorem dL_law_602 : decode cL_law 602 = .ok (.iconst 1, 1) := by decide +kernel
theorem dL_law_603 : decode cL_law 603 = .ok (.iadd, 1) := by decide +kernel
theorem dL_law_604 : decode cL_law 604 = .ok (.iaload, 1) := by decide +kernel
theorem dL_law_605 : decode cL_law 605 = .ok (.aload_n 0, 1) := by decide +kernel
theorem dL_law_606 : decode cL_law 606 = .ok (.iload 5, 2) := by decide +kernel
theorem dL_law_608 : decode cL_law 608 = .ok (.iconst 2, 1) := by decide +kernel
theorem dL_law_609 : decode cL_law 609 = .ok (.iadd, 1) := by decide +kernel
theorem dL_law_610 : decode cL_law 610 = .ok (.iaload, 1) := by decide +kernel
theorem dL_law_611 : decode cL_law 611 = .ok (.invokevirtual 114, 3) := by decide +kernel
theorem dL_law_614 : decode cL_law 614 = .ok (.istore 7, 2) := by decide +kernel
theorem dL_law_616 : decode cL_law 616 = .ok (.aload_n 2, 1) := by decide +kernel
theorem dL_law_617 : decode cL_law 617 = .ok (.invokevirtual 87, 3) := by decide +kernel
theorem dL_law_620 : decode cL_law 620 = .ok (.iload 6, 2) := by decide +kernel
theorem dL_law_622 : decode cL_law 622 = .ok (.if_icmp .eq 5, 3) := by decide +kernel
theorem dL_law_625 : decode cL_law 625 = .ok (.iconst 0, 1) := by decide +kernel
theorem dL_law_626 : decode cL_law 626 = .ok (.ireturn, 1) := by decide +kernel
theorem dL_law_627 : decode cL_law 627 = .ok (.iload 6, 2) := by decide +kernel
theorem dL_law_629 : decode cL_law 629 = .ok (.ifCond .ne 22, 3) := by decide +kernel
theorem dL_law_632 : decode cL_law 632 = .ok (.aload_n 3, 1) := by decide +kernel
theorem dL_law_633 : decode cL_law 633 = .ok (.iconst 0, 1) := by decide +kernel
theorem dL_law_634 : decode cL_law 634 = .ok (.laload, 1) := by decide +kernel
theorem dL_law_635 : decode cL_law 635 = .ok (.iload 7, 2) := by decide +kernel
theorem dL_law_637 : decode cL_law 637 = .ok (.ifCond .eq 7, 3) := by decide +kernel
theorem dL_law_640 : decode cL_law 640 = .ok (.lconst 1, 1) := by decide +kernel
theorem dL_law_641 : decode cL_law 641 = .ok (.goto 4, 3) := by decide +kernel
theorem dL_law_644 : decode cL_law 644 = .ok (.lconst 0, 1) := by decide +kernel
theorem dL_law_645 : decode cL_law 645 = .ok (.lcmp, 1) := by decide +kernel
theorem dL_law_646 : decode cL_law 646 = .ok (.ifCond .eq 5, 3) := by decide +kernel
theorem dL_law_649 : decode cL_law 649 = .ok (.iconst 0, 1) := by decide +kernel
theorem dL_law_650 : decode cL_law 650 = .ok (.ireturn, 1) := by decide +kernel
theorem dL_law_651 : decode cL_law 651 = .ok (.goto 800, 3) := by decide +kernel
theorem dL_law_654 : decode cL_law 654 = .ok (.aload_n 1, 1) := by decide +kernel
theorem dL_law_655 : decode cL_law 655 = .ok (.invokevirtual 115, 3) := by decide +kernel
theorem dL_law_658 : decode cL_law 658 = .ok (.aload_n 2, 1) := by decide +kernel
theorem dL_law_659 : decode cL_law 659 = .ok (.invokevirtual 118, 3) := by decide +kernel
theorem dL_law_662 : decode cL_law 662 = .ok (.if_icmp .eq 789, 3) := by decide +kernel
theorem dL_law_665 : decode cL_law 665 = .ok (.iconst 0, 1) := by decide +kernel
theorem dL_law_666 : decode cL_law 666 = .ok (.ireturn, 1) := by decide +kernel
theorem dL_law_667 : decode cL_law 667 = .ok (.aload_n 1, 1) := by decide +kernel
theorem dL_law_668 : decode cL_law 668 = .ok (.invokevirtual 119, 3) := by decide +kernel
theorem dL_law_671 : decode cL_law 671 = .ok (.aload_n 2, 1) := by decide +kernel
theorem dL_law_672 : decode cL_law 672 = .ok (.invokevirtual 122, 3) := by decide +kernel
theorem dL_law_675 : decode cL_law 675 = .ok (.if_icmp .eq 776, 3) := by decide +kernel
theorem dL_law_678 : decode cL_law 678 = .ok (.iconst 0, 1) := by decide +kernel
theorem dL_law_679 : decode cL_law 679 = .ok (.ireturn, 1) := by decide +kernel
theorem dL_law_680 : decode cL_law 680 = .ok (.aload_n 1, 1) := by decide +kernel
theorem dL_law_681 : decode cL_law 681 = .ok (.aload_n 0, 1) := by decide +kernel
theorem dL_law_682 : decode cL_law 682 = .ok (.iload 5, 2) := by decide +kernel
theorem dL_law_684 : decode cL_law 684 = .ok (.iconst 1, 1) := by decide +kernel
theorem dL_law_685 : decode cL_law 685 = .ok (.iadd, 1) := by decide +kernel
theorem dL_law_686 : decode cL_law 686 = .ok (.iaload, 1) := by decide +kernel
theorem dL_law_687 : decode cL_law 687 = .ok (.aload_n 3, 1) := by decide +kernel
theorem dL_law_688 : decode cL_law 688 = .ok (.invokestatic 123, 3) := by decide +kernel
theorem dL_law_691 : decode cL_law 691 = .ok (.istore 6, 2) := by decide +kernel
theorem dL_law_693 : decode cL_law 693 = .ok (.aload_n 2, 1) := by decide +kernel
theorem dL_law_694 : decode cL_law 694 = .ok (.aload_n 0, 1) := by decide +kernel
theorem dL_law_695 : decode cL_law 695 = .ok (.iload 5, 2) := by decide +kernel
theorem dL_law_697 : decode cL_law 697 = .ok (.iconst 1, 1) := by decide +kernel
theorem dL_law_698 : decode cL_law 698 = .ok (.iadd, 1) := by decide +kernel
theorem dL_law_699 : decode cL_law 699 = .ok (.iaload, 1) := by decide +kernel
theorem dL_law_700 : decode cL_law 700 = .ok (.invokevirtual 126, 3) := by decide +kernel
theorem dL_law_703 : decode cL_law 703 = .ok (.istore 7, 2) := by decide +kernel
theorem dL_law_705 : decode cL_law 705 = .ok (.aload_n 2, 1) := by decide +kernel
theorem dL_law_706 : decode cL_law 706 = .ok (.invokevirtual 87, 3) := by decide +kernel
theorem dL_law_709 : decode cL_law 709 = .ok (.iload 6, 2) := by decide +kernel
theorem dL_law_711 : decode cL_law 711 = .ok (.if_icmp .eq 5, 3) := by decide +kernel
theorem dL_law_714 : decode cL_law 714 = .ok (.iconst 0, 1) := by decide +kernel
theorem dL_law_715 : decode cL_law 715 = .ok (.ireturn, 1) := by decide +kernel
theorem dL_law_716 : decode cL_law 716 = .ok (.iload 6, 2) := by decide +kernel
theorem dL_law_718 : decode cL_law 718 = .ok (.ifCond .ne 15, 3) := by decide +kernel
theorem dL_law_721 : decode cL_law 721 = .ok (.aload_n 3, 1) := by decide +kernel
theorem dL_law_722 : decode cL_law 722 = .ok (.iconst 0, 1) := by decide +kernel
theorem dL_law_723 : decode cL_law 723 = .ok (.laload, 1) := by decide +kernel
theorem dL_law_724 : decode cL_law 724 = .ok (.iload 7, 2) := by decide +kernel
theorem dL_law_726 : decode cL_law 726 = .ok (.i2l, 1) := by decide +kernel
theorem dL_law_727 : decode cL_law 727 = .ok (.lcmp, 1) := by decide +kernel
theorem dL_law_728 : decode cL_law 728 = .ok (.ifCond .eq 5, 3) := by decide +kernel
theorem dL_law_731 : decode cL_law 731 = .ok (.iconst 0, 1) := by decide +kernel
theorem dL_law_732 : decode cL_law 732 = .ok (.ireturn, 1) := by decide +kernel
theorem dL_law_733 : decode cL_law 733 = .ok (.goto 718, 3) := by decide +kernel
theorem dL_law_736 : decode cL_law 736 = .ok (.aload_n 1, 1) := by decide +kernel
theorem dL_law_737 : decode cL_law 737 = .ok (.aload_n 0, 1) := by decide +kernel
theorem dL_law_738 : decode cL_law 738 = .ok (.iload 5, 2) := by decide +kernel
theorem dL_law_740 : decode cL_law 740 = .ok (.iconst 1, 1) := by decide +kernel
theorem dL_law_741 : decode cL_law 741 = .ok (.iadd, 1) := by decide +kernel
theorem dL_law_742 : decode cL_law 742 = .ok (.iaload, 1) := by decide +kernel
theorem dL_law_743 : decode cL_law 743 = .ok (.aload_n 0, 1) := by decide +kernel
theorem dL_law_744 : decode cL_law 744 = .ok (.iload 5, 2) := by decide +kernel
theorem dL_law_746 : decode cL_law 746 = .ok (.iconst 2, 1) := by decide +kernel
theorem dL_law_747 : decode cL_law 747 = .ok (.iadd, 1) := by decide +kernel
theorem dL_law_748 : decode cL_law 748 = .ok (.iaload, 1) := by decide +kernel
theorem dL_law_749 : decode cL_law 749 = .ok (.aload_n 3, 1) := by decide +kernel
theorem dL_law_750 : decode cL_law 750 = .ok (.invokestatic 127, 3) := by decide +kernel
theorem dL_law_753 : decode cL_law 753 = .ok (.istore 6, 2) := by decide +kernel
theorem dL_law_755 : decode cL_law 755 = .ok (.aload_n 2, 1) := by decide +kernel
theorem dL_law_756 : decode cL_law 756 = .ok (.aload_n 0, 1) := by decide +kernel
theorem dL_law_757 : decode cL_law 757 = .ok (.iload 5, 2) := by decide +kernel
theorem dL_law_759 : decode cL_law 759 = .ok (.iconst 1, 1) := by decide +kernel
theorem dL_law_760 : decode cL_law 760 = .ok (.iadd, 1) := by decide +kernel
theorem dL_law_761 : decode cL_law 761 = .ok (.iaload, 1) := by decide +kernel
theorem dL_law_762 : decode cL_law 762 = .ok (.aload_n 0, 1) := by decide +kernel
theorem dL_law_763 : decode cL_law 763 = .ok (.iload 5, 2) := by decide +kernel
theorem dL_law_765 : decode cL_law 765 = .ok (.iconst 2, 1) := by decide +kernel
theorem dL_law_766 : decode cL_law 766 = .ok (.iadd, 1) := by decide +kernel
theorem dL_law_767 : decode cL_law 767 = .ok (.iaload, 1) := by decide +kernel
theorem dL_law_768 : decode cL_law 768 = .ok (.invokevirtual 129, 3) := by decide +kernel
theorem dL_law_771 : decode cL_law 771 = .ok (.istore 7, 2) := by decide +kernel
theorem dL_law_773 : decode cL_law 773 = .ok (.aload_n 2, 1) := by decide +kernel
theorem dL_law_774 : decode cL_law 774 = .ok (.invokevirtual 87, 3) := by decide +kernel
theorem dL_law_777 : decode cL_law 777 = .ok (.iload 6, 2) := by decide +kernel
theorem dL_law_779 : decode cL_law 779 = .ok (.if_icmp .eq 5, 3) := by decide +kernel
theorem dL_law_782 : decode cL_law 782 = .ok (.iconst 0, 1) := by decide +kernel
theorem dL_law_783 : decode cL_law 783 = .ok (.ireturn, 1) := by decide +kernel
theorem dL_law_784 : decode cL_law 784 = .ok (.iload 6, 2) := by decide +kernel
theorem dL_law_786 : decode cL_law 786 = .ok (.ifCond .ne 22, 3) := by decide +kernel
theorem dL_law_789 : decode cL_law 789 = .ok (.aload_n 3, 1) := by decide +kernel
theorem dL_law_790 : decode cL_law 790 = .ok (.iconst 0, 1) := by decide +kernel
theorem dL_law_791 : decode cL_law 791 = .ok (.laload, 1) := by decide +kernel
theorem dL_law_792 : decode cL_law 792 = .ok (.iload 7, 2) := by decide +kernel
theorem dL_law_794 : decode cL_law 794 = .ok (.ifCond .eq 7, 3) := by decide +kernel
theorem dL_law_797 : decode cL_law 797 = .ok (.lconst 1, 1) := by decide +kernel
theorem dL_law_798 : decode cL_law 798 = .ok (.goto 4, 3) := by decide +kernel
theorem dL_law_801 : decode cL_law 801 = .ok (.lconst 0, 1) := by decide +kernel
theorem dL_law_802 : decode cL_law 802 = .ok (.lcmp, 1) := by decide +kernel
theorem dL_law_803 : decode cL_law 803 = .ok (.ifCond .eq 5, 3) := by decide +kernel
theorem dL_law_806 : decode cL_law 806 = .ok (.iconst 0, 1) := by decide +kernel
theorem dL_law_807 : decode cL_law 807 = .ok (.ireturn, 1) := by decide +kernel
theorem dL_law_808 : decode cL_law 808 = .ok (.goto 643, 3) := by decide +kernel
theorem dL_law_811 : decode cL_law 811 = .ok (.aload_n 1, 1) := by decide +kernel
theorem dL_law_812 : decode cL_law 812 = .ok (.aload_n 0, 1) := by decide +kernel
theorem dL_law_813 : decode cL_law 813 = .ok (.iload 5, 2) := by decide +kernel
theorem dL_law_815 : decode cL_law 815 = .ok (.iconst 1, 1) := by decide +kernel
theorem dL_law_816 : decode cL_law 816 = .ok (.iadd, 1) := by decide +kernel
theorem dL_law_817 : decode cL_law 817 = .ok (.iaload, 1) := by decide +kernel
theorem dL_law_818 : decode cL_law 818 = .ok (.aload_n 3, 1) := by decide +kernel
theorem dL_law_819 : decode cL_law 819 = .ok (.invokestatic 130, 3) := by decide +kernel
theorem dL_law_822 : decode cL_law 822 = .ok (.istore 6, 2) := by decide +kernel
theorem dL_law_824 : decode cL_law 824 = .ok (.aload_n 2, 1) := by decide +kernel
theorem dL_law_825 : decode cL_law 825 = .ok (.aload_n 0, 1) := by decide +kernel
theorem dL_law_826 : decode cL_law 826 = .ok (.iload 5, 2) := by decide +kernel
theorem dL_law_828 : decode cL_law 828 = .ok (.iconst 1, 1) := by decide +kernel
theorem dL_law_829 : decode cL_law 829 = .ok (.iadd, 1) := by decide +kernel
