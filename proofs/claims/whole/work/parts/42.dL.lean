/-! Decode rows and word rows of the law's thirty helpers, as CHECK.md's command prints them. -/
theorem dL_addKey_0 : decode cL_addKey 0 = .ok (.aload 4, 2) := by decide +kernel
theorem dL_addKey_2 : decode cL_addKey 2 = .ok (.iconst 0, 1) := by decide +kernel
theorem dL_addKey_3 : decode cL_addKey 3 = .ok (.aload_n 0, 1) := by decide +kernel
theorem dL_addKey_4 : decode cL_addKey 4 = .ok (.iload_n 1, 1) := by decide +kernel
theorem dL_addKey_5 : decode cL_addKey 5 = .ok (.iload_n 2, 1) := by decide +kernel
theorem dL_addKey_6 : decode cL_addKey 6 = .ok (.iload_n 3, 1) := by decide +kernel
theorem dL_addKey_7 : decode cL_addKey 7 = .ok (.invokevirtual 7, 3) := by decide +kernel
theorem dL_addKey_10 : decode cL_addKey 10 = .ok (.i2l, 1) := by decide +kernel
theorem dL_addKey_11 : decode cL_addKey 11 = .ok (.lastore, 1) := by decide +kernel
theorem dL_addKey_12 : decode cL_addKey 12 = .ok (.goto 11, 3) := by decide +kernel
theorem dL_addKey_15 : decode cL_addKey 15 = .ok (.astore 5, 2) := by decide +kernel
theorem dL_addKey_17 : decode cL_addKey 17 = .ok (.iconst 1, 1) := by decide +kernel
theorem dL_addKey_18 : decode cL_addKey 18 = .ok (.ireturn, 1) := by decide +kernel
theorem dL_addKey_19 : decode cL_addKey 19 = .ok (.astore 5, 2) := by decide +kernel
theorem dL_addKey_21 : decode cL_addKey 21 = .ok (.iconst 2, 1) := by decide +kernel
theorem dL_addKey_22 : decode cL_addKey 22 = .ok (.ireturn, 1) := by decide +kernel
theorem dL_addKey_23 : decode cL_addKey 23 = .ok (.iconst 0, 1) := by decide +kernel
theorem dL_addKey_24 : decode cL_addKey 24 = .ok (.ireturn, 1) := by decide +kernel
set_option maxRecDepth 20000 in
theorem ggL_loseKey_X3_loseKey : GoodIn wsL_loseKey wsX3_loseKey := goodIn_ca (goodIn_ca (goodIn_r _ [7, 8, 9, 10, 11, 12, 13, 14, 15, 6, 16, 17, 18, 19, 20, 21, 22, 23, 24, 25, 26, 27, 28, 29, 30, 31, 32, 33, 34, 35, 36, 37, 38, 39, 40, 41, 42, 43, 44, 45, 46, 47, 48, 49, 50, 51, 52, 53, 54, 55, 56, 57, 58, 59, 60, 61, 62, 63, 64, 65, 66, 67, 68, 69, 70, 71, 72, 73, 74, 75, 76, 77, 78, 79, 80, 81, 82, 83, 84, 85, 86, 87, 88, 89, 90, 91] (by decide +kernel) (by decide +kernel)) (goodIn_sub (fun _ h => List.mem_cons_of_mem _ (List.mem_append_left _ (List.mem_append_right _ h))) (by decide +kernel))) (goodIn_sub (fun _ h => List.mem_cons_of_mem _ (List.mem_append_right _ h)) (by decide +kernel))
set_option maxRecDepth 20000 in
theorem gL_loseKey_X3_loseKey : GoodIn wsL_loseKey (wsV RL 17 RX3 yX3_loseKey wsX3_loseKey) := goodIn_app (goodIn_of _ (by decide +kernel)) ggL_loseKey_X3_loseKey
theorem dL_loseKey_0 : decode cL_loseKey 0 = .ok (.aload_n 2, 1) := by decide +kernel
theorem dL_loseKey_1 : decode cL_loseKey 1 = .ok (.iconst 0, 1) := by decide +kernel
theorem dL_loseKey_2 : decode cL_loseKey 2 = .ok (.aload_n 0, 1) := by decide +kernel
theorem dL_loseKey_3 : decode cL_loseKey 3 = .ok (.iload_n 1, 1) := by decide +kernel
theorem dL_loseKey_4 : decode cL_loseKey 4 = .ok (.invokevirtual 17, 3) := by decide +kernel
theorem dL_loseKey_7 : decode cL_loseKey 7 = .ok (.i2l, 1) := by decide +kernel
theorem dL_loseKey_8 : decode cL_loseKey 8 = .ok (.lastore, 1) := by decide +kernel
theorem dL_loseKey_9 : decode cL_loseKey 9 = .ok (.goto 9, 3) := by decide +kernel
theorem dL_loseKey_12 : decode cL_loseKey 12 = .ok (.astore_n 3, 1) := by decide +kernel
theorem dL_loseKey_13 : decode cL_loseKey 13 = .ok (.iconst 1, 1) := by decide +kernel
theorem dL_loseKey_14 : decode cL_loseKey 14 = .ok (.ireturn, 1) := by decide +kernel
theorem dL_loseKey_15 : decode cL_loseKey 15 = .ok (.astore_n 3, 1) := by decide +kernel
theorem dL_loseKey_16 : decode cL_loseKey 16 = .ok (.iconst 2, 1) := by decide +kernel
theorem dL_loseKey_17 : decode cL_loseKey 17 = .ok (.ireturn, 1) := by decide +kernel
theorem dL_loseKey_18 : decode cL_loseKey 18 = .ok (.iconst 0, 1) := by decide +kernel
theorem dL_loseKey_19 : decode cL_loseKey 19 = .ok (.ireturn, 1) := by decide +kernel
set_option maxRecDepth 20000 in
theorem ggL_extendKey_X3_extendKey : GoodIn wsL_extendKey wsX3_extendKey := goodIn_ca (goodIn_ca (goodIn_ca (goodIn_r _ [8, 9, 10, 11, 12, 13, 14, 15, 16, 17, 7, 18, 19, 20, 21, 22, 23, 24, 25, 26, 27, 28, 29, 30, 31, 32, 33, 34, 35, 36, 37, 38] (by decide +kernel) (by decide +kernel)) (goodIn_sub (fun _ h => List.mem_cons_of_mem _ (List.mem_append_left _ (List.mem_append_left _ (List.mem_append_right _ h)))) (by decide +kernel))) (goodIn_sub (fun _ h => List.mem_cons_of_mem _ (List.mem_append_left _ (List.mem_append_right _ h))) (by decide +kernel))) (goodIn_sub (fun _ h => List.mem_cons_of_mem _ (List.mem_append_right _ h)) (by decide +kernel))
set_option maxRecDepth 20000 in
theorem gL_extendKey_X3_extendKey : GoodIn wsL_extendKey (wsV RL 23 RX3 yX3_extendKey wsX3_extendKey) := goodIn_app (goodIn_of _ (by decide +kernel)) ggL_extendKey_X3_extendKey
theorem dL_extendKey_0 : decode cL_extendKey 0 = .ok (.aload_n 3, 1) := by decide +kernel
theorem dL_extendKey_1 : decode cL_extendKey 1 = .ok (.iconst 0, 1) := by decide +kernel
theorem dL_extendKey_2 : decode cL_extendKey 2 = .ok (.aload_n 0, 1) := by decide +kernel
theorem dL_extendKey_3 : decode cL_extendKey 3 = .ok (.iload_n 1, 1) := by decide +kernel
theorem dL_extendKey_4 : decode cL_extendKey 4 = .ok (.iload_n 2, 1) := by decide +kernel
theorem dL_extendKey_5 : decode cL_extendKey 5 = .ok (.invokevirtual 23, 3) := by decide +kernel
theorem dL_extendKey_8 : decode cL_extendKey 8 = .ok (.i2l, 1) := by decide +kernel
theorem dL_extendKey_9 : decode cL_extendKey 9 = .ok (.lastore, 1) := by decide +kernel
theorem dL_extendKey_10 : decode cL_extendKey 10 = .ok (.goto 15, 3) := by decide +kernel
theorem dL_extendKey_13 : decode cL_extendKey 13 = .ok (.astore 4, 2) := by decide +kernel
theorem dL_extendKey_15 : decode cL_extendKey 15 = .ok (.iconst 1, 1) := by decide +kernel
theorem dL_extendKey_16 : decode cL_extendKey 16 = .ok (.ireturn, 1) := by decide +kernel
theorem dL_extendKey_17 : decode cL_extendKey 17 = .ok (.astore 4, 2) := by decide +kernel
theorem dL_extendKey_19 : decode cL_extendKey 19 = .ok (.iconst 2, 1) := by decide +kernel
theorem dL_extendKey_20 : decode cL_extendKey 20 = .ok (.ireturn, 1) := by decide +kernel
theorem dL_extendKey_21 : decode cL_extendKey 21 = .ok (.astore 4, 2) := by decide +kernel
theorem dL_extendKey_23 : decode cL_extendKey 23 = .ok (.iconst 3, 1) := by decide +kernel
theorem dL_extendKey_24 : decode cL_extendKey 24 = .ok (.ireturn, 1) := by decide +kernel
theorem dL_extendKey_25 : decode cL_extendKey 25 = .ok (.iconst 0, 1) := by decide +kernel
theorem dL_extendKey_26 : decode cL_extendKey 26 = .ok (.ireturn, 1) := by decide +kernel
set_option maxRecDepth 20000 in
theorem ggL_isLive_X3_isLive : GoodIn wsL_isLive wsX3_isLive := goodIn_ca (goodIn_r _ [6, 7, 8, 9, 10, 11, 5, 12, 13, 14, 15, 16, 17, 18, 19, 20, 21, 22, 23, 24, 25, 26, 27, 28, 29, 30, 31, 32, 33, 34, 35, 36, 37, 38] (by decide +kernel) (by decide +kernel)) (goodIn_sub (fun _ h => List.mem_cons_of_mem _ (List.mem_append_right _ h)) (by decide +kernel))
set_option maxRecDepth 20000 in
theorem gL_isLive_X3_isLive : GoodIn wsL_isLive (wsV RL 27 RX3 yX3_isLive wsX3_isLive) := goodIn_app (goodIn_of _ (by decide +kernel)) ggL_isLive_X3_isLive
theorem dL_isLive_0 : decode cL_isLive 0 = .ok (.aload_n 2, 1) := by decide +kernel
theorem dL_isLive_1 : decode cL_isLive 1 = .ok (.iconst 0, 1) := by decide +kernel
theorem dL_isLive_2 : decode cL_isLive 2 = .ok (.aload_n 0, 1) := by decide +kernel
theorem dL_isLive_3 : decode cL_isLive 3 = .ok (.iload_n 1, 1) := by decide +kernel
theorem dL_isLive_4 : decode cL_isLive 4 = .ok (.invokevirtual 27, 3) := by decide +kernel
theorem dL_isLive_7 : decode cL_isLive 7 = .ok (.ifCond .eq 7, 3) := by decide +kernel
theorem dL_isLive_10 : decode cL_isLive 10 = .ok (.lconst 1, 1) := by decide +kernel
theorem dL_isLive_11 : decode cL_isLive 11 = .ok (.goto 4, 3) := by decide +kernel
theorem dL_isLive_14 : decode cL_isLive 14 = .ok (.lconst 0, 1) := by decide +kernel
theorem dL_isLive_15 : decode cL_isLive 15 = .ok (.lastore, 1) := by decide +kernel
theorem dL_isLive_16 : decode cL_isLive 16 = .ok (.goto 6, 3) := by decide +kernel
theorem dL_isLive_19 : decode cL_isLive 19 = .ok (.astore_n 3, 1) := by decide +kernel
theorem dL_isLive_20 : decode cL_isLive 20 = .ok (.iconst 1, 1) := by decide +kernel
theorem dL_isLive_21 : decode cL_isLive 21 = .ok (.ireturn, 1) := by decide +kernel
theorem dL_isLive_22 : decode cL_isLive 22 = .ok (.iconst 0, 1) := by decide +kernel
theorem dL_isLive_23 : decode cL_isLive 23 = .ok (.ireturn, 1) := by decide +kernel
set_option maxRecDepth 20000 in
theorem ggL_setWeight_X3_setWeight : GoodIn wsL_setWeight wsX3_setWeight := goodIn_ca (goodIn_r _ [6, 7, 8, 9, 10, 11, 12, 5, 13, 14, 15, 16, 17, 18, 19, 20] (by decide +kernel) (by decide +kernel)) (goodIn_sub (fun _ h => List.mem_cons_of_mem _ (List.mem_append_right _ h)) (by decide +kernel))
set_option maxRecDepth 20000 in
theorem gL_setWeight_X3_setWeight : GoodIn wsL_setWeight (wsV RL 31 RX3 yX3_setWeight wsX3_setWeight) := goodIn_app (goodIn_of _ (by decide +kernel)) ggL_setWeight_X3_setWeight
theorem dL_setWeight_0 : decode cL_setWeight 0 = .ok (.aload_n 3, 1) := by decide +kernel
theorem dL_setWeight_1 : decode cL_setWeight 1 = .ok (.iconst 0, 1) := by decide +kernel
theorem dL_setWeight_2 : decode cL_setWeight 2 = .ok (.aload_n 0, 1) := by decide +kernel
theorem dL_setWeight_3 : decode cL_setWeight 3 = .ok (.iload_n 1, 1) := by decide +kernel
theorem dL_setWeight_4 : decode cL_setWeight 4 = .ok (.iload_n 2, 1) := by decide +kernel
theorem dL_setWeight_5 : decode cL_setWeight 5 = .ok (.invokevirtual 31, 3) := by decide +kernel
theorem dL_setWeight_8 : decode cL_setWeight 8 = .ok (.i2l, 1) := by decide +kernel
theorem dL_setWeight_9 : decode cL_setWeight 9 = .ok (.lastore, 1) := by decide +kernel
theorem dL_setWeight_10 : decode cL_setWeight 10 = .ok (.goto 7, 3) := by decide +kernel
theorem dL_setWeight_13 : decode cL_setWeight 13 = .ok (.astore 4, 2) := by decide +kernel
theorem dL_setWeight_15 : decode cL_setWeight 15 = .ok (.iconst 1, 1) := by decide +kernel
theorem dL_setWeight_16 : decode cL_setWeight 16 = .ok (.ireturn, 1) := by decide +kernel
theorem dL_setWeight_17 : decode cL_setWeight 17 = .ok (.iconst 0, 1) := by decide +kernel
theorem dL_setWeight_18 : decode cL_setWeight 18 = .ok (.ireturn, 1) := by decide +kernel
set_option maxRecDepth 20000 in
theorem ggL_setThreshold_X3_setThreshold : GoodIn wsL_setThreshold wsX3_setThreshold := goodIn_ca (goodIn_r _ [6, 7, 8, 9, 10, 11, 12, 5, 13, 14, 15, 16, 17, 18, 19, 20] (by decide +kernel) (by decide +kernel)) (goodIn_sub (fun _ h => List.mem_cons_of_mem _ (List.mem_append_right _ h)) (by decide +kernel))
set_option maxRecDepth 20000 in
theorem gL_setThreshold_X3_setThreshold : GoodIn wsL_setThreshold (wsV RL 34 RX3 yX3_setThreshold wsX3_setThreshold) := goodIn_app (goodIn_of _ (by decide +kernel)) ggL_setThreshold_X3_setThreshold
theorem dL_setThreshold_0 : decode cL_setThreshold 0 = .ok (.aload_n 3, 1) := by decide +kernel
theorem dL_setThreshold_1 : decode cL_setThreshold 1 = .ok (.iconst 0, 1) := by decide +kernel
theorem dL_setThreshold_2 : decode cL_setThreshold 2 = .ok (.aload_n 0, 1) := by decide +kernel
theorem dL_setThreshold_3 : decode cL_setThreshold 3 = .ok (.iload_n 1, 1) := by decide +kernel
theorem dL_setThreshold_4 : decode cL_setThreshold 4 = .ok (.iload_n 2, 1) := by decide +kernel
theorem dL_setThreshold_5 : decode cL_setThreshold 5 = .ok (.invokevirtual 34, 3) := by decide +kernel
theorem dL_setThreshold_8 : decode cL_setThreshold 8 = .ok (.i2l, 1) := by decide +kernel
theorem dL_setThreshold_9 : decode cL_setThreshold 9 = .ok (.lastore, 1) := by decide +kernel
theorem dL_setThreshold_10 : decode cL_setThreshold 10 = .ok (.goto 7, 3) := by decide +kernel
theorem dL_setThreshold_13 : decode cL_setThreshold 13 = .ok (.astore 4, 2) := by decide +kernel
theorem dL_setThreshold_15 : decode cL_setThreshold 15 = .ok (.iconst 1, 1) := by decide +kernel
theorem dL_setThreshold_16 : decode cL_setThreshold 16 = .ok (.ireturn, 1) := by decide +kernel
theorem dL_setThreshold_17 : decode cL_setThreshold 17 = .ok (.iconst 0, 1) := by decide +kernel
theorem dL_setThreshold_18 : decode cL_setThreshold 18 = .ok (.ireturn, 1) := by decide +kernel
set_option maxRecDepth 20000 in
theorem ggL_build_X3_build : GoodIn wsL_build wsX3_build := goodIn_ca (goodIn_ca (goodIn_ca (goodIn_r _ [8, 9, 10, 11, 12, 13, 14, 15, 16, 17, 18, 7, 19, 20, 21, 22, 23, 24, 25, 26, 27, 28, 29, 30, 31, 32, 33, 34, 35, 36, 37, 38, 39, 40, 41, 42, 43, 44, 45, 46, 47, 48, 49, 50, 51, 52, 53, 54, 55, 56, 57, 58, 59, 60, 61, 62, 63, 64, 65] (by decide +kernel) (by decide +kernel)) (goodIn_sub (fun _ h => List.mem_cons_of_mem _ (List.mem_append_left _ (List.mem_append_left _ (List.mem_append_right _ h)))) (by decide +kernel))) (goodIn_sub (fun _ h => List.mem_cons_of_mem _ (List.mem_append_left _ (List.mem_append_right _ h))) (by decide +kernel))) (goodIn_sub (fun _ h => List.mem_cons_of_mem _ (List.mem_append_right _ h)) (by decide +kernel))
set_option maxRecDepth 20000 in
theorem gL_build_X3_build : GoodIn wsL_build (wsV RL 37 RX3 yX3_build wsX3_build) := goodIn_app (goodIn_of _ (by decide +kernel)) ggL_build_X3_build
theorem dL_build_0 : decode cL_build 0 = .ok (.aload 4, 2) := by decide +kernel
theorem dL_build_2 : decode cL_build 2 = .ok (.iconst 0, 1) := by decide +kernel
theorem dL_build_3 : decode cL_build 3 = .ok (.aload_n 0, 1) := by decide +kernel
theorem dL_build_4 : decode cL_build 4 = .ok (.iload_n 1, 1) := by decide +kernel
theorem dL_build_5 : decode cL_build 5 = .ok (.iload_n 2, 1) := by decide +kernel
theorem dL_build_6 : decode cL_build 6 = .ok (.iload_n 3, 1) := by decide +kernel
theorem dL_build_7 : decode cL_build 7 = .ok (.invokevirtual 37, 3) := by decide +kernel
theorem dL_build_10 : decode cL_build 10 = .ok (.i2l, 1) := by decide +kernel
theorem dL_build_11 : decode cL_build 11 = .ok (.lastore, 1) := by decide +kernel
theorem dL_build_12 : decode cL_build 12 = .ok (.goto 15, 3) := by decide +kernel
theorem dL_build_15 : decode cL_build 15 = .ok (.astore 5, 2) := by decide +kernel
theorem dL_build_17 : decode cL_build 17 = .ok (.iconst 1, 1) := by decide +kernel
theorem dL_build_18 : decode cL_build 18 = .ok (.ireturn, 1) := by decide +kernel
theorem dL_build_19 : decode cL_build 19 = .ok (.astore 5, 2) := by decide +kernel
theorem dL_build_21 : decode cL_build 21 = .ok (.iconst 2, 1) := by decide +kernel
theorem dL_build_22 : decode cL_build 22 = .ok (.ireturn, 1) := by decide +kernel
theorem dL_build_23 : decode cL_build 23 = .ok (.astore 5, 2) := by decide +kernel
theorem dL_build_25 : decode cL_build 25 = .ok (.iconst 3, 1) := by decide +kernel
theorem dL_build_26 : decode cL_build 26 = .ok (.ireturn, 1) := by decide +kernel
theorem dL_build_27 : decode cL_build 27 = .ok (.iconst 0, 1) := by decide +kernel
theorem dL_build_28 : decode cL_build 28 = .ok (.ireturn, 1) := by decide +kernel
set_option maxRecDepth 20000 in
theorem ggL_nameOf_X3_nameOf : GoodIn wsL_nameOf wsX3_nameOf := goodIn_ca (goodIn_r _ [6, 7, 8, 9, 10, 5, 11, 12, 13, 14, 15, 16, 17, 18, 19, 20, 21, 22, 23, 24, 25, 26, 27, 28, 29, 30] (by decide +kernel) (by decide +kernel)) (goodIn_sub (fun _ h => List.mem_cons_of_mem _ (List.mem_append_right _ h)) (by decide +kernel))
set_option maxRecDepth 20000 in
theorem gL_nameOf_X3_nameOf : GoodIn wsL_nameOf (wsV RL 42 RX3 yX3_nameOf wsX3_nameOf) := goodIn_app (goodIn_of _ (by decide +kernel)) ggL_nameOf_X3_nameOf
theorem dL_nameOf_0 : decode cL_nameOf 0 = .ok (.aload_n 2, 1) := by decide +kernel
theorem dL_nameOf_1 : decode cL_nameOf 1 = .ok (.iconst 0, 1) := by decide +kernel
theorem dL_nameOf_2 : decode cL_nameOf 2 = .ok (.aload_n 0, 1) := by decide +kernel
theorem dL_nameOf_3 : decode cL_nameOf 3 = .ok (.iload_n 1, 1) := by decide +kernel
theorem dL_nameOf_4 : decode cL_nameOf 4 = .ok (.invokevirtual 42, 3) := by decide +kernel
theorem dL_nameOf_7 : decode cL_nameOf 7 = .ok (.i2l, 1) := by decide +kernel
theorem dL_nameOf_8 : decode cL_nameOf 8 = .ok (.lastore, 1) := by decide +kernel
theorem dL_nameOf_9 : decode cL_nameOf 9 = .ok (.goto 6, 3) := by decide +kernel
theorem dL_nameOf_12 : decode cL_nameOf 12 = .ok (.astore_n 3, 1) := by decide +kernel
theorem dL_nameOf_13 : decode cL_nameOf 13 = .ok (.iconst 1, 1) := by decide +kernel
theorem dL_nameOf_14 : decode cL_nameOf 14 = .ok (.ireturn, 1) := by decide +kernel
theorem dL_nameOf_15 : decode cL_nameOf 15 = .ok (.iconst 0, 1) := by decide +kernel
theorem dL_nameOf_16 : decode cL_nameOf 16 = .ok (.ireturn, 1) := by decide +kernel
set_option maxRecDepth 20000 in
theorem ggL_version_X3_version : GoodIn wsL_version wsX3_version := goodIn_ca (goodIn_r _ [6, 7, 8, 9, 10, 5, 11, 12, 13, 14, 15, 16, 17, 18, 19, 20, 21, 22, 23, 24, 25, 26, 27, 28, 29, 30] (by decide +kernel) (by decide +kernel)) (goodIn_sub (fun _ h => List.mem_cons_of_mem _ (List.mem_append_right _ h)) (by decide +kernel))
set_option maxRecDepth 20000 in
theorem gL_version_X3_version : GoodIn wsL_version (wsV RL 45 RX3 yX3_version wsX3_version) := goodIn_app (goodIn_of _ (by decide +kernel)) ggL_version_X3_version
theorem dL_version_0 : decode cL_version 0 = .ok (.aload_n 2, 1) := by decide +kernel
theorem dL_version_1 : decode cL_version 1 = .ok (.iconst 0, 1) := by decide +kernel
theorem dL_version_2 : decode cL_version 2 = .ok (.aload_n 0, 1) := by decide +kernel
theorem dL_version_3 : decode cL_version 3 = .ok (.iload_n 1, 1) := by decide +kernel
theorem dL_version_4 : decode cL_version 4 = .ok (.invokevirtual 45, 3) := by decide +kernel
theorem dL_version_7 : decode cL_version 7 = .ok (.i2l, 1) := by decide +kernel
theorem dL_version_8 : decode cL_version 8 = .ok (.lastore, 1) := by decide +kernel
theorem dL_version_9 : decode cL_version 9 = .ok (.goto 6, 3) := by decide +kernel
theorem dL_version_12 : decode cL_version 12 = .ok (.astore_n 3, 1) := by decide +kernel
theorem dL_version_13 : decode cL_version 13 = .ok (.iconst 1, 1) := by decide +kernel
theorem dL_version_14 : decode cL_version 14 = .ok (.ireturn, 1) := by decide +kernel
theorem dL_version_15 : decode cL_version 15 = .ok (.iconst 0, 1) := by decide +kernel
theorem dL_version_16 : decode cL_version 16 = .ok (.ireturn, 1) := by decide +kernel
set_option maxRecDepth 20000 in
theorem ggL_uses_X3_uses : GoodIn wsL_uses wsX3_uses := goodIn_ca (goodIn_r _ [6, 7, 8, 9, 10, 5, 11, 12, 13, 14, 15, 16, 17, 18, 19, 20, 21, 22, 23, 24, 25, 26, 27, 28, 29, 30, 31, 32, 33, 34, 35, 36] (by decide +kernel) (by decide +kernel)) (goodIn_sub (fun _ h => List.mem_cons_of_mem _ (List.mem_append_right _ h)) (by decide +kernel))
set_option maxRecDepth 20000 in
theorem gL_uses_X3_uses : GoodIn wsL_uses (wsV RL 48 RX3 yX3_uses wsX3_uses) := goodIn_app (goodIn_of _ (by decide +kernel)) ggL_uses_X3_uses
theorem dL_uses_0 : decode cL_uses 0 = .ok (.aload_n 3, 1) := by decide +kernel
theorem dL_uses_1 : decode cL_uses 1 = .ok (.iconst 0, 1) := by decide +kernel
theorem dL_uses_2 : decode cL_uses 2 = .ok (.aload_n 0, 1) := by decide +kernel
theorem dL_uses_3 : decode cL_uses 3 = .ok (.iload_n 1, 1) := by decide +kernel
theorem dL_uses_4 : decode cL_uses 4 = .ok (.iload_n 2, 1) := by decide +kernel
theorem dL_uses_5 : decode cL_uses 5 = .ok (.invokevirtual 48, 3) := by decide +kernel
theorem dL_uses_8 : decode cL_uses 8 = .ok (.ifCond .eq 7, 3) := by decide +kernel
theorem dL_uses_11 : decode cL_uses 11 = .ok (.lconst 1, 1) := by decide +kernel
theorem dL_uses_12 : decode cL_uses 12 = .ok (.goto 4, 3) := by decide +kernel
theorem dL_uses_15 : decode cL_uses 15 = .ok (.lconst 0, 1) := by decide +kernel
theorem dL_uses_16 : decode cL_uses 16 = .ok (.lastore, 1) := by decide +kernel
theorem dL_uses_17 : decode cL_uses 17 = .ok (.goto 7, 3) := by decide +kernel
theorem dL_uses_20 : decode cL_uses 20 = .ok (.astore 4, 2) := by decide +kernel
theorem dL_uses_22 : decode cL_uses 22 = .ok (.iconst 1, 1) := by decide +kernel
theorem dL_uses_23 : decode cL_uses 23 = .ok (.ireturn, 1) := by decide +kernel
theorem dL_uses_24 : decode cL_uses 24 = .ok (.iconst 0, 1) := by decide +kernel
theorem dL_uses_25 : decode cL_uses 25 = .ok (.ireturn, 1) := by decide +kernel
set_option maxRecDepth 20000 in
theorem ggL_used_X3_used : GoodIn wsL_used wsX3_used := goodIn_ca (goodIn_r _ [6, 7, 8, 9, 10, 5, 11, 12, 13, 14, 15, 16, 17, 18, 19, 20, 21, 22, 23, 24, 25, 26, 27, 28, 29, 30, 31, 32, 33, 34, 35, 36, 37] (by decide +kernel) (by decide +kernel)) (goodIn_sub (fun _ h => List.mem_cons_of_mem _ (List.mem_append_right _ h)) (by decide +kernel))
set_option maxRecDepth 20000 in
theorem gL_used_X3_used : GoodIn wsL_used (wsV RL 52 RX3 yX3_used wsX3_used) := goodIn_app (goodIn_of _ (by decide +kernel)) ggL_used_X3_used
theorem dL_used_0 : decode cL_used 0 = .ok (.aload_n 2, 1) := by decide +kernel
theorem dL_used_1 : decode cL_used 1 = .ok (.iconst 0, 1) := by decide +kernel
theorem dL_used_2 : decode cL_used 2 = .ok (.aload_n 0, 1) := by decide +kernel
theorem dL_used_3 : decode cL_used 3 = .ok (.iload_n 1, 1) := by decide +kernel
theorem dL_used_4 : decode cL_used 4 = .ok (.invokevirtual 52, 3) := by decide +kernel
theorem dL_used_7 : decode cL_used 7 = .ok (.i2l, 1) := by decide +kernel
theorem dL_used_8 : decode cL_used 8 = .ok (.lastore, 1) := by decide +kernel
theorem dL_used_9 : decode cL_used 9 = .ok (.goto 6, 3) := by decide +kernel
theorem dL_used_12 : decode cL_used 12 = .ok (.astore_n 3, 1) := by decide +kernel
theorem dL_used_13 : decode cL_used 13 = .ok (.iconst 1, 1) := by decide +kernel
theorem dL_used_14 : decode cL_used 14 = .ok (.ireturn, 1) := by decide +kernel
theorem dL_used_15 : decode cL_used 15 = .ok (.iconst 0, 1) := by decide +kernel
theorem dL_used_16 : decode cL_used 16 = .ok (.ireturn, 1) := by decide +kernel
set_option maxRecDepth 20000 in
theorem ggL_newest_X3_newest : GoodIn wsL_newest wsX3_newest := goodIn_ca (goodIn_ca (goodIn_r _ [7, 8, 9, 10, 11, 6, 12, 13, 14, 15, 16, 17, 18, 19, 20, 21, 22, 23, 24, 25, 26, 27, 28, 29, 30, 31, 32, 33, 34, 35, 36, 37, 38, 39, 40, 41, 42, 43, 44, 45, 46, 47, 48, 49, 50, 51, 52, 53, 54, 55, 56, 57, 58, 59, 60, 61, 62, 63, 64, 65, 66, 67, 68] (by decide +kernel) (by decide +kernel)) (goodIn_sub (fun _ h => List.mem_cons_of_mem _ (List.mem_append_left _ (List.mem_append_right _ h))) (by decide +kernel))) (goodIn_sub (fun _ h => List.mem_cons_of_mem _ (List.mem_append_right _ h)) (by decide +kernel))
set_option maxRecDepth 20000 in
theorem gL_newest_X3_newest : GoodIn wsL_newest (wsV RL 55 RX3 yX3_newest wsX3_newest) := goodIn_app (goodIn_of _ (by decide +kernel)) ggL_newest_X3_newest
theorem dL_newest_0 : decode cL_newest 0 = .ok (.aload_n 2, 1) := by decide +kernel
theorem dL_newest_1 : decode cL_newest 1 = .ok (.iconst 0, 1) := by decide +kernel
theorem dL_newest_2 : decode cL_newest 2 = .ok (.aload_n 0, 1) := by decide +kernel
theorem dL_newest_3 : decode cL_newest 3 = .ok (.iload_n 1, 1) := by decide +kernel
theorem dL_newest_4 : decode cL_newest 4 = .ok (.invokevirtual 55, 3) := by decide +kernel
theorem dL_newest_7 : decode cL_newest 7 = .ok (.i2l, 1) := by decide +kernel
theorem dL_newest_8 : decode cL_newest 8 = .ok (.lastore, 1) := by decide +kernel
theorem dL_newest_9 : decode cL_newest 9 = .ok (.goto 9, 3) := by decide +kernel
theorem dL_newest_12 : decode cL_newest 12 = .ok (.astore_n 3, 1) := by decide +kernel
theorem dL_newest_13 : decode cL_newest 13 = .ok (.iconst 1, 1) := by decide +kernel
theorem dL_newest_14 : decode cL_newest 14 = .ok (.ireturn, 1) := by decide +kernel
theorem dL_newest_15 : decode cL_newest 15 = .ok (.astore_n 3, 1) := by decide +kernel
theorem dL_newest_16 : decode cL_newest 16 = .ok (.iconst 2, 1) := by decide +kernel
theorem dL_newest_17 : decode cL_newest 17 = .ok (.ireturn, 1) := by decide +kernel
theorem dL_newest_18 : decode cL_newest 18 = .ok (.iconst 0, 1) := by decide +kernel
theorem dL_newest_19 : decode cL_newest 19 = .ok (.ireturn, 1) := by decide +kernel
set_option maxRecDepth 20000 in
theorem ggL_attest_X3_attest : GoodIn wsL_attest wsX3_attest := goodIn_ca (goodIn_ca (goodIn_ca (goodIn_r _ [8, 9, 10, 11, 12, 13, 14, 15, 16, 17, 18, 7, 19, 20, 21, 22, 23, 24, 25, 26, 27, 28, 29, 30, 31, 32, 33, 34, 35, 36, 37, 38, 39, 40, 41, 42, 43, 44, 45, 46, 47, 48, 49, 50, 51, 52, 53, 54, 55, 56, 57, 58, 59, 60, 61, 62, 63, 64, 65, 66, 67, 68, 69, 70, 71, 72, 73, 74] (by decide +kernel) (by decide +kernel)) (goodIn_sub (fun _ h => List.mem_cons_of_mem _ (List.mem_append_left _ (List.mem_append_left _ (List.mem_append_right _ h)))) (by decide +kernel))) (goodIn_sub (fun _ h => List.mem_cons_of_mem _ (List.mem_append_left _ (List.mem_append_right _ h))) (by decide +kernel))) (goodIn_sub (fun _ h => List.mem_cons_of_mem _ (List.mem_append_right _ h)) (by decide +kernel))
set_option maxRecDepth 20000 in
theorem gL_attest_X3_attest : GoodIn wsL_attest (wsV RL 60 RX3 yX3_attest wsX3_attest) := goodIn_app (goodIn_of _ (by decide +kernel)) ggL_attest_X3_attest
theorem dL_attest_0 : decode cL_attest 0 = .ok (.aload_n 3, 1) := by decide +kernel
theorem dL_attest_1 : decode cL_attest 1 = .ok (.iconst 0, 1) := by decide +kernel
theorem dL_attest_2 : decode cL_attest 2 = .ok (.aload_n 0, 1) := by decide +kernel
theorem dL_attest_3 : decode cL_attest 3 = .ok (.iload_n 1, 1) := by decide +kernel
theorem dL_attest_4 : decode cL_attest 4 = .ok (.iload_n 2, 1) := by decide +kernel
theorem dL_attest_5 : decode cL_attest 5 = .ok (.invokevirtual 60, 3) := by decide +kernel
theorem dL_attest_8 : decode cL_attest 8 = .ok (.i2l, 1) := by decide +kernel
theorem dL_attest_9 : decode cL_attest 9 = .ok (.lastore, 1) := by decide +kernel
theorem dL_attest_10 : decode cL_attest 10 = .ok (.goto 15, 3) := by decide +kernel
theorem dL_attest_13 : decode cL_attest 13 = .ok (.astore 4, 2) := by decide +kernel
theorem dL_attest_15 : decode cL_attest 15 = .ok (.iconst 1, 1) := by decide +kernel
theorem dL_attest_16 : decode cL_attest 16 = .ok (.ireturn, 1) := by decide +kernel
theorem dL_attest_17 : decode cL_attest 17 = .ok (.astore 4, 2) := by decide +kernel
theorem dL_attest_19 : decode cL_attest 19 = .ok (.iconst 2, 1) := by decide +kernel
theorem dL_attest_20 : decode cL_attest 20 = .ok (.ireturn, 1) := by decide +kernel
theorem dL_attest_21 : decode cL_attest 21 = .ok (.astore 4, 2) := by decide +kernel
theorem dL_attest_23 : decode cL_attest 23 = .ok (.iconst 3, 1) := by decide +kernel
theorem dL_attest_24 : decode cL_attest 24 = .ok (.ireturn, 1) := by decide +kernel
theorem dL_attest_25 : decode cL_attest 25 = .ok (.iconst 0, 1) := by decide +kernel
theorem dL_attest_26 : decode cL_attest 26 = .ok (.ireturn, 1) := by decide +kernel
set_option maxRecDepth 20000 in
theorem ggL_vouches_X3_vouches : GoodIn wsL_vouches wsX3_vouches := goodIn_ca (goodIn_ca (goodIn_r _ [7, 8, 9, 10, 11, 6, 12, 13, 14, 15, 16, 17, 18, 19, 20, 21, 22, 23, 24, 25, 26, 27, 28, 29, 30, 31, 32, 33, 34, 35, 36, 37, 38, 39, 40, 41, 42, 43] (by decide +kernel) (by decide +kernel)) (goodIn_sub (fun _ h => List.mem_cons_of_mem _ (List.mem_append_left _ (List.mem_append_right _ h))) (by decide +kernel))) (goodIn_sub (fun _ h => List.mem_cons_of_mem _ (List.mem_append_right _ h)) (by decide +kernel))
set_option maxRecDepth 20000 in
theorem gL_vouches_X3_vouches : GoodIn wsL_vouches (wsV RL 63 RX3 yX3_vouches wsX3_vouches) := goodIn_app (goodIn_of _ (by decide +kernel)) ggL_vouches_X3_vouches
theorem dL_vouches_0 : decode cL_vouches 0 = .ok (.aload_n 3, 1) := by decide +kernel
theorem dL_vouches_1 : decode cL_vouches 1 = .ok (.iconst 0, 1) := by decide +kernel
theorem dL_vouches_2 : decode cL_vouches 2 = .ok (.aload_n 0, 1) := by decide +kernel
theorem dL_vouches_3 : decode cL_vouches 3 = .ok (.iload_n 1, 1) := by decide +kernel
theorem dL_vouches_4 : decode cL_vouches 4 = .ok (.iload_n 2, 1) := by decide +kernel
theorem dL_vouches_5 : decode cL_vouches 5 = .ok (.invokevirtual 63, 3) := by decide +kernel
theorem dL_vouches_8 : decode cL_vouches 8 = .ok (.ifCond .eq 7, 3) := by decide +kernel
theorem dL_vouches_11 : decode cL_vouches 11 = .ok (.lconst 1, 1) := by decide +kernel
theorem dL_vouches_12 : decode cL_vouches 12 = .ok (.goto 4, 3) := by decide +kernel
theorem dL_vouches_15 : decode cL_vouches 15 = .ok (.lconst 0, 1) := by decide +kernel
theorem dL_vouches_16 : decode cL_vouches 16 = .ok (.lastore, 1) := by decide +kernel
theorem dL_vouches_17 : decode cL_vouches 17 = .ok (.goto 11, 3) := by decide +kernel
theorem dL_vouches_20 : decode cL_vouches 20 = .ok (.astore 4, 2) := by decide +kernel
theorem dL_vouches_22 : decode cL_vouches 22 = .ok (.iconst 1, 1) := by decide +kernel
theorem dL_vouches_23 : decode cL_vouches 23 = .ok (.ireturn, 1) := by decide +kernel
theorem dL_vouches_24 : decode cL_vouches 24 = .ok (.astore 4, 2) := by decide +kernel
theorem dL_vouches_26 : decode cL_vouches 26 = .ok (.iconst 2, 1) := by decide +kernel
theorem dL_vouches_27 : decode cL_vouches 27 = .ok (.ireturn, 1) := by decide +kernel
theorem dL_vouches_28 : decode cL_vouches 28 = .ok (.iconst 0, 1) := by decide +kernel
theorem dL_vouches_29 : decode cL_vouches 29 = .ok (.ireturn, 1) := by decide +kernel
set_option maxRecDepth 20000 in
theorem ggL_vouchesByList_X3_vouchesByList : GoodIn wsL_vouchesByList wsX3_vouchesByList := goodIn_ca (goodIn_ca (goodIn_r _ [7, 8, 9, 10, 11, 12, 13, 6, 14, 15, 16, 17, 18, 19, 20, 21, 22, 23, 24, 25, 26, 27, 28, 29, 30, 31, 32, 33, 34, 35, 36, 37, 38, 39, 40, 41, 42, 43, 44, 45, 46, 47, 48, 49, 50, 51, 52, 53, 54, 55, 56, 57, 58, 59, 60, 61, 62, 63, 64, 65, 66] (by decide +kernel) (by decide +kernel)) (goodIn_sub (fun _ h => List.mem_cons_of_mem _ (List.mem_append_left _ (List.mem_append_right _ h))) (by decide +kernel))) (goodIn_sub (fun _ h => List.mem_cons_of_mem _ (List.mem_append_right _ h)) (by decide +kernel))
set_option maxRecDepth 20000 in
theorem gL_vouchesByList_X3_vouchesByList : GoodIn wsL_vouchesByList (wsV RL 66 RX3 yX3_vouchesByList wsX3_vouchesByList) := goodIn_app (goodIn_of _ (by decide +kernel)) ggL_vouchesByList_X3_vouchesByList
theorem dL_vouchesByList_0 : decode cL_vouchesByList 0 = .ok (.aload_n 3, 1) := by decide +kernel
theorem dL_vouchesByList_1 : decode cL_vouchesByList 1 = .ok (.iconst 0, 1) := by decide +kernel
theorem dL_vouchesByList_2 : decode cL_vouchesByList 2 = .ok (.aload_n 0, 1) := by decide +kernel
theorem dL_vouchesByList_3 : decode cL_vouchesByList 3 = .ok (.iload_n 1, 1) := by decide +kernel
theorem dL_vouchesByList_4 : decode cL_vouchesByList 4 = .ok (.iload_n 2, 1) := by decide +kernel
theorem dL_vouchesByList_5 : decode cL_vouchesByList 5 = .ok (.invokevirtual 66, 3) := by decide +kernel
theorem dL_vouchesByList_8 : decode cL_vouchesByList 8 = .ok (.ifCond .eq 7, 3) := by decide +kernel
theorem dL_vouchesByList_11 : decode cL_vouchesByList 11 = .ok (.lconst 1, 1) := by decide +kernel
theorem dL_vouchesByList_12 : decode cL_vouchesByList 12 = .ok (.goto 4, 3) := by decide +kernel
theorem dL_vouchesByList_15 : decode cL_vouchesByList 15 = .ok (.lconst 0, 1) := by decide +kernel
theorem dL_vouchesByList_16 : decode cL_vouchesByList 16 = .ok (.lastore, 1) := by decide +kernel
theorem dL_vouchesByList_17 : decode cL_vouchesByList 17 = .ok (.goto 11, 3) := by decide +kernel
theorem dL_vouchesByList_20 : decode cL_vouchesByList 20 = .ok (.astore 4, 2) := by decide +kernel
theorem dL_vouchesByList_22 : decode cL_vouchesByList 22 = .ok (.iconst 1, 1) := by decide +kernel
theorem dL_vouchesByList_23 : decode cL_vouchesByList 23 = .ok (.ireturn, 1) := by decide +kernel
theorem dL_vouchesByList_24 : decode cL_vouchesByList 24 = .ok (.astore 4, 2) := by decide +kernel
theorem dL_vouchesByList_26 : decode cL_vouchesByList 26 = .ok (.iconst 2, 1) := by decide +kernel
theorem dL_vouchesByList_27 : decode cL_vouchesByList 27 = .ok (.ireturn, 1) := by decide +kernel
theorem dL_vouchesByList_28 : decode cL_vouchesByList 28 = .ok (.iconst 0, 1) := by decide +kernel
theorem dL_vouchesByList_29 : decode cL_vouchesByList 29 = .ok (.ireturn, 1) := by decide +kernel
set_option maxRecDepth 20000 in
theorem ggL_score_X3_score : GoodIn wsL_score wsX3_score := goodIn_ca (goodIn_r _ [6, 7, 8, 9, 10, 5, 11, 12, 13, 14, 15, 16, 17, 18, 19, 20, 21, 22, 23, 24, 25, 26, 27, 28, 29, 30, 31, 32, 33, 34, 35, 36, 37, 38, 39, 40, 41, 42] (by decide +kernel) (by decide +kernel)) (goodIn_sub (fun _ h => List.mem_cons_of_mem _ (List.mem_append_right _ h)) (by decide +kernel))
set_option maxRecDepth 20000 in
theorem gL_score_X3_score : GoodIn wsL_score (wsV RL 69 RX3 yX3_score wsX3_score) := goodIn_app (goodIn_of _ (by decide +kernel)) ggL_score_X3_score
theorem dL_score_0 : decode cL_score 0 = .ok (.aload_n 2, 1) := by decide +kernel
theorem dL_score_1 : decode cL_score 1 = .ok (.iconst 0, 1) := by decide +kernel
theorem dL_score_2 : decode cL_score 2 = .ok (.aload_n 0, 1) := by decide +kernel
theorem dL_score_3 : decode cL_score 3 = .ok (.iload_n 1, 1) := by decide +kernel
theorem dL_score_4 : decode cL_score 4 = .ok (.invokevirtual 69, 3) := by decide +kernel
theorem dL_score_7 : decode cL_score 7 = .ok (.f2d, 1) := by decide +kernel
theorem dL_score_8 : decode cL_score 8 = .ok (.dastore, 1) := by decide +kernel
theorem dL_score_9 : decode cL_score 9 = .ok (.goto 6, 3) := by decide +kernel
theorem dL_score_12 : decode cL_score 12 = .ok (.astore_n 3, 1) := by decide +kernel
theorem dL_score_13 : decode cL_score 13 = .ok (.iconst 1, 1) := by decide +kernel
theorem dL_score_14 : decode cL_score 14 = .ok (.ireturn, 1) := by decide +kernel
theorem dL_score_15 : decode cL_score 15 = .ok (.iconst 0, 1) := by decide +kernel
theorem dL_score_16 : decode cL_score 16 = .ok (.ireturn, 1) := by decide +kernel
set_option maxRecDepth 20000 in
theorem ggL_scoreBits_X3_scoreBits : GoodIn wsL_scoreBits wsX3_scoreBits := goodIn_ca (goodIn_r _ [6, 7, 8, 9, 10, 5, 11, 12, 13, 14, 15, 16, 17, 18, 19, 20, 21, 22, 23, 24, 25, 26, 27, 28, 29, 30, 31, 32, 33, 34, 35, 36, 37, 38, 39, 40, 41, 42, 43, 44, 45, 46, 47, 48, 49, 50, 51, 52, 53] (by decide +kernel) (by decide +kernel)) (goodIn_sub (fun _ h => List.mem_cons_of_mem _ (List.mem_append_right _ h)) (by decide +kernel))
set_option maxRecDepth 20000 in
theorem gL_scoreBits_X3_scoreBits : GoodIn wsL_scoreBits (wsV RL 73 RX3 yX3_scoreBits wsX3_scoreBits) := goodIn_app (goodIn_of _ (by decide +kernel)) ggL_scoreBits_X3_scoreBits
theorem dL_scoreBits_0 : decode cL_scoreBits 0 = .ok (.aload_n 2, 1) := by decide +kernel
theorem dL_scoreBits_1 : decode cL_scoreBits 1 = .ok (.iconst 0, 1) := by decide +kernel
theorem dL_scoreBits_2 : decode cL_scoreBits 2 = .ok (.aload_n 0, 1) := by decide +kernel
theorem dL_scoreBits_3 : decode cL_scoreBits 3 = .ok (.iload_n 1, 1) := by decide +kernel
theorem dL_scoreBits_4 : decode cL_scoreBits 4 = .ok (.invokevirtual 73, 3) := by decide +kernel
theorem dL_scoreBits_7 : decode cL_scoreBits 7 = .ok (.i2l, 1) := by decide +kernel
theorem dL_scoreBits_8 : decode cL_scoreBits 8 = .ok (.lastore, 1) := by decide +kernel
theorem dL_scoreBits_9 : decode cL_scoreBits 9 = .ok (.goto 6, 3) := by decide +kernel
theorem dL_scoreBits_12 : decode cL_scoreBits 12 = .ok (.astore_n 3, 1) := by decide +kernel
theorem dL_scoreBits_13 : decode cL_scoreBits 13 = .ok (.iconst 1, 1) := by decide +kernel
theorem dL_scoreBits_14 : decode cL_scoreBits 14 = .ok (.ireturn, 1) := by decide +kernel
theorem dL_scoreBits_15 : decode cL_scoreBits 15 = .ok (.iconst 0, 1) := by decide +kernel
theorem dL_scoreBits_16 : decode cL_scoreBits 16 = .ok (.ireturn, 1) := by decide +kernel
set_option maxRecDepth 20000 in
theorem ggL_isTrusted_X3_isTrusted : GoodIn wsL_isTrusted wsX3_isTrusted := goodIn_ca (goodIn_r _ [6, 7, 8, 9, 10, 5, 11, 12, 13, 14, 15, 16, 17, 18, 19, 20, 21, 22, 23, 24, 25, 26, 27, 28, 29, 30, 31, 32, 33, 34, 35, 36, 37, 38, 39, 40, 41, 42, 43, 44, 45, 46, 47] (by decide +kernel) (by decide +kernel)) (goodIn_sub (fun _ h => List.mem_cons_of_mem _ (List.mem_append_right _ h)) (by decide +kernel))
set_option maxRecDepth 20000 in
theorem gL_isTrusted_X3_isTrusted : GoodIn wsL_isTrusted (wsV RL 76 RX3 yX3_isTrusted wsX3_isTrusted) := goodIn_app (goodIn_of _ (by decide +kernel)) ggL_isTrusted_X3_isTrusted
theorem dL_isTrusted_0 : decode cL_isTrusted 0 = .ok (.aload_n 2, 1) := by decide +kernel
theorem dL_isTrusted_1 : decode cL_isTrusted 1 = .ok (.iconst 0, 1) := by decide +kernel
theorem dL_isTrusted_2 : decode cL_isTrusted 2 = .ok (.aload_n 0, 1) := by decide +kernel
theorem dL_isTrusted_3 : decode cL_isTrusted 3 = .ok (.iload_n 1, 1) := by decide +kernel
theorem dL_isTrusted_4 : decode cL_isTrusted 4 = .ok (.invokevirtual 76, 3) := by decide +kernel
theorem dL_isTrusted_7 : decode cL_isTrusted 7 = .ok (.ifCond .eq 7, 3) := by decide +kernel
theorem dL_isTrusted_10 : decode cL_isTrusted 10 = .ok (.lconst 1, 1) := by decide +kernel
theorem dL_isTrusted_11 : decode cL_isTrusted 11 = .ok (.goto 4, 3) := by decide +kernel
theorem dL_isTrusted_14 : decode cL_isTrusted 14 = .ok (.lconst 0, 1) := by decide +kernel
theorem dL_isTrusted_15 : decode cL_isTrusted 15 = .ok (.lastore, 1) := by decide +kernel
theorem dL_isTrusted_16 : decode cL_isTrusted 16 = .ok (.goto 6, 3) := by decide +kernel
theorem dL_isTrusted_19 : decode cL_isTrusted 19 = .ok (.astore_n 3, 1) := by decide +kernel
theorem dL_isTrusted_20 : decode cL_isTrusted 20 = .ok (.iconst 1, 1) := by decide +kernel
theorem dL_isTrusted_21 : decode cL_isTrusted 21 = .ok (.ireturn, 1) := by decide +kernel
theorem dL_isTrusted_22 : decode cL_isTrusted 22 = .ok (.iconst 0, 1) := by decide +kernel
theorem dL_isTrusted_23 : decode cL_isTrusted 23 = .ok (.ireturn, 1) := by decide +kernel
set_option maxRecDepth 20000 in
theorem ggL_hangsOnKey_X3_hangsOnKey : GoodIn wsL_hangsOnKey wsX3_hangsOnKey := goodIn_ca (goodIn_r _ [6, 7, 8, 9, 10, 11, 12, 5, 13, 14, 15, 16, 17, 18, 19, 20, 21, 22, 23, 24, 25, 26, 27, 28, 29, 30, 31, 32, 33, 34, 35, 36, 37, 38, 39, 40, 41, 42, 43, 44, 45, 46, 47, 48, 49, 50, 51, 52, 53, 54, 55, 56, 57, 58, 59, 60, 61, 62, 63, 64, 65, 66, 67, 68, 69, 70] (by decide +kernel) (by decide +kernel)) (goodIn_sub (fun _ h => List.mem_cons_of_mem _ (List.mem_append_right _ h)) (by decide +kernel))
set_option maxRecDepth 20000 in
theorem gL_hangsOnKey_X3_hangsOnKey : GoodIn wsL_hangsOnKey (wsV RL 79 RX3 yX3_hangsOnKey wsX3_hangsOnKey) := goodIn_app (goodIn_of _ (by decide +kernel)) ggL_hangsOnKey_X3_hangsOnKey
theorem dL_hangsOnKey_0 : decode cL_hangsOnKey 0 = .ok (.aload_n 2, 1) := by decide +kernel
theorem dL_hangsOnKey_1 : decode cL_hangsOnKey 1 = .ok (.iconst 0, 1) := by decide +kernel
theorem dL_hangsOnKey_2 : decode cL_hangsOnKey 2 = .ok (.aload_n 0, 1) := by decide +kernel
theorem dL_hangsOnKey_3 : decode cL_hangsOnKey 3 = .ok (.iload_n 1, 1) := by decide +kernel
theorem dL_hangsOnKey_4 : decode cL_hangsOnKey 4 = .ok (.invokevirtual 79, 3) := by decide +kernel
theorem dL_hangsOnKey_7 : decode cL_hangsOnKey 7 = .ok (.i2l, 1) := by decide +kernel
theorem dL_hangsOnKey_8 : decode cL_hangsOnKey 8 = .ok (.lastore, 1) := by decide +kernel
theorem dL_hangsOnKey_9 : decode cL_hangsOnKey 9 = .ok (.goto 6, 3) := by decide +kernel
theorem dL_hangsOnKey_12 : decode cL_hangsOnKey 12 = .ok (.astore_n 3, 1) := by decide +kernel
theorem dL_hangsOnKey_13 : decode cL_hangsOnKey 13 = .ok (.iconst 1, 1) := by decide +kernel
theorem dL_hangsOnKey_14 : decode cL_hangsOnKey 14 = .ok (.ireturn, 1) := by decide +kernel
theorem dL_hangsOnKey_15 : decode cL_hangsOnKey 15 = .ok (.iconst 0, 1) := by decide +kernel
theorem dL_hangsOnKey_16 : decode cL_hangsOnKey 16 = .ok (.ireturn, 1) := by decide +kernel
set_option maxRecDepth 20000 in
theorem ggL_recall_X3_recall : GoodIn wsL_recall wsX3_recall := goodIn_ca (goodIn_ca (goodIn_r _ [7, 8, 9, 10, 11, 12, 13, 6, 14, 15, 16, 17, 18, 19, 20, 21, 22, 23, 24, 25, 26, 27, 28, 29, 30, 31, 32, 33, 34, 35, 36, 37, 38, 39, 40, 41, 42, 43, 44, 45, 46, 47, 48, 49, 50, 51, 52, 53] (by decide +kernel) (by decide +kernel)) (goodIn_sub (fun _ h => List.mem_cons_of_mem _ (List.mem_append_left _ (List.mem_append_right _ h))) (by decide +kernel))) (goodIn_sub (fun _ h => List.mem_cons_of_mem _ (List.mem_append_right _ h)) (by decide +kernel))
set_option maxRecDepth 20000 in
theorem gL_recall_X3_recall : GoodIn wsL_recall (wsV RL 82 RX3 yX3_recall wsX3_recall) := goodIn_app (goodIn_of _ (by decide +kernel)) ggL_recall_X3_recall
theorem dL_recall_0 : decode cL_recall 0 = .ok (.aload_n 2, 1) := by decide +kernel
theorem dL_recall_1 : decode cL_recall 1 = .ok (.iconst 0, 1) := by decide +kernel
theorem dL_recall_2 : decode cL_recall 2 = .ok (.aload_n 0, 1) := by decide +kernel
theorem dL_recall_3 : decode cL_recall 3 = .ok (.iload_n 1, 1) := by decide +kernel
theorem dL_recall_4 : decode cL_recall 4 = .ok (.invokevirtual 82, 3) := by decide +kernel
theorem dL_recall_7 : decode cL_recall 7 = .ok (.i2l, 1) := by decide +kernel
theorem dL_recall_8 : decode cL_recall 8 = .ok (.lastore, 1) := by decide +kernel
theorem dL_recall_9 : decode cL_recall 9 = .ok (.goto 9, 3) := by decide +kernel
theorem dL_recall_12 : decode cL_recall 12 = .ok (.astore_n 3, 1) := by decide +kernel
theorem dL_recall_13 : decode cL_recall 13 = .ok (.iconst 1, 1) := by decide +kernel
theorem dL_recall_14 : decode cL_recall 14 = .ok (.ireturn, 1) := by decide +kernel
theorem dL_recall_15 : decode cL_recall 15 = .ok (.astore_n 3, 1) := by decide +kernel
theorem dL_recall_16 : decode cL_recall 16 = .ok (.iconst 2, 1) := by decide +kernel
theorem dL_recall_17 : decode cL_recall 17 = .ok (.ireturn, 1) := by decide +kernel
theorem dL_recall_18 : decode cL_recall 18 = .ok (.iconst 0, 1) := by decide +kernel
theorem dL_recall_19 : decode cL_recall 19 = .ok (.ireturn, 1) := by decide +kernel
set_option maxRecDepth 20000 in
theorem ggL_lift_X3_lift : GoodIn wsL_lift wsX3_lift := goodIn_ca (goodIn_ca (goodIn_r _ [7, 8, 9, 10, 11, 12, 13, 6, 14, 15, 16, 17, 18, 19, 20, 21, 22, 23, 24, 25, 26, 27, 28, 29, 30, 31, 32, 33, 34, 35, 36, 37, 38, 39, 40, 41, 42, 43, 44, 45, 46, 47, 48, 49, 50, 51, 52, 53] (by decide +kernel) (by decide +kernel)) (goodIn_sub (fun _ h => List.mem_cons_of_mem _ (List.mem_append_left _ (List.mem_append_right _ h))) (by decide +kernel))) (goodIn_sub (fun _ h => List.mem_cons_of_mem _ (List.mem_append_right _ h)) (by decide +kernel))
set_option maxRecDepth 20000 in
theorem gL_lift_X3_lift : GoodIn wsL_lift (wsV RL 85 RX3 yX3_lift wsX3_lift) := goodIn_app (goodIn_of _ (by decide +kernel)) ggL_lift_X3_lift
theorem dL_lift_0 : decode cL_lift 0 = .ok (.aload_n 2, 1) := by decide +kernel
theorem dL_lift_1 : decode cL_lift 1 = .ok (.iconst 0, 1) := by decide +kernel
theorem dL_lift_2 : decode cL_lift 2 = .ok (.aload_n 0, 1) := by decide +kernel
theorem dL_lift_3 : decode cL_lift 3 = .ok (.iload_n 1, 1) := by decide +kernel
theorem dL_lift_4 : decode cL_lift 4 = .ok (.invokevirtual 85, 3) := by decide +kernel
theorem dL_lift_7 : decode cL_lift 7 = .ok (.i2l, 1) := by decide +kernel
theorem dL_lift_8 : decode cL_lift 8 = .ok (.lastore, 1) := by decide +kernel
theorem dL_lift_9 : decode cL_lift 9 = .ok (.goto 9, 3) := by decide +kernel
theorem dL_lift_12 : decode cL_lift 12 = .ok (.astore_n 3, 1) := by decide +kernel
theorem dL_lift_13 : decode cL_lift 13 = .ok (.iconst 1, 1) := by decide +kernel
theorem dL_lift_14 : decode cL_lift 14 = .ok (.ireturn, 1) := by decide +kernel
theorem dL_lift_15 : decode cL_lift 15 = .ok (.astore_n 3, 1) := by decide +kernel
theorem dL_lift_16 : decode cL_lift 16 = .ok (.iconst 2, 1) := by decide +kernel
theorem dL_lift_17 : decode cL_lift 17 = .ok (.ireturn, 1) := by decide +kernel
theorem dL_lift_18 : decode cL_lift 18 = .ok (.iconst 0, 1) := by decide +kernel
theorem dL_lift_19 : decode cL_lift 19 = .ok (.ireturn, 1) := by decide +kernel
set_option maxRecDepth 20000 in
theorem ggL_isRecalled_X3_isRecalled : GoodIn wsL_isRecalled wsX3_isRecalled := goodIn_ca (goodIn_r _ [6, 7, 8, 9, 10, 5, 11, 12, 13, 14, 15, 16, 17, 18, 19, 20, 21, 22, 23, 24, 25, 26, 27, 28, 29, 30, 31, 32, 33, 34, 35, 36, 37, 38, 39, 40, 41, 42, 43] (by decide +kernel) (by decide +kernel)) (goodIn_sub (fun _ h => List.mem_cons_of_mem _ (List.mem_append_right _ h)) (by decide +kernel))
set_option maxRecDepth 20000 in
theorem gL_isRecalled_X3_isRecalled : GoodIn wsL_isRecalled (wsV RL 88 RX3 yX3_isRecalled wsX3_isRecalled) := goodIn_app (goodIn_of _ (by decide +kernel)) ggL_isRecalled_X3_isRecalled
theorem dL_isRecalled_0 : decode cL_isRecalled 0 = .ok (.aload_n 2, 1) := by decide +kernel
theorem dL_isRecalled_1 : decode cL_isRecalled 1 = .ok (.iconst 0, 1) := by decide +kernel
theorem dL_isRecalled_2 : decode cL_isRecalled 2 = .ok (.aload_n 0, 1) := by decide +kernel
theorem dL_isRecalled_3 : decode cL_isRecalled 3 = .ok (.iload_n 1, 1) := by decide +kernel
theorem dL_isRecalled_4 : decode cL_isRecalled 4 = .ok (.invokevirtual 88, 3) := by decide +kernel
theorem dL_isRecalled_7 : decode cL_isRecalled 7 = .ok (.ifCond .eq 7, 3) := by decide +kernel
theorem dL_isRecalled_10 : decode cL_isRecalled 10 = .ok (.lconst 1, 1) := by decide +kernel
theorem dL_isRecalled_11 : decode cL_isRecalled 11 = .ok (.goto 4, 3) := by decide +kernel
theorem dL_isRecalled_14 : decode cL_isRecalled 14 = .ok (.lconst 0, 1) := by decide +kernel
theorem dL_isRecalled_15 : decode cL_isRecalled 15 = .ok (.lastore, 1) := by decide +kernel
theorem dL_isRecalled_16 : decode cL_isRecalled 16 = .ok (.goto 6, 3) := by decide +kernel
theorem dL_isRecalled_19 : decode cL_isRecalled 19 = .ok (.astore_n 3, 1) := by decide +kernel
theorem dL_isRecalled_20 : decode cL_isRecalled 20 = .ok (.iconst 1, 1) := by decide +kernel
theorem dL_isRecalled_21 : decode cL_isRecalled 21 = .ok (.ireturn, 1) := by decide +kernel
theorem dL_isRecalled_22 : decode cL_isRecalled 22 = .ok (.iconst 0, 1) := by decide +kernel
theorem dL_isRecalled_23 : decode cL_isRecalled 23 = .ok (.ireturn, 1) := by decide +kernel
set_option maxRecDepth 20000 in
theorem ggL_rebuild_X3_rebuild : GoodIn wsL_rebuild wsX3_rebuild := goodIn_ca (goodIn_ca (goodIn_r _ [7, 8, 9, 10, 11, 12, 13, 6, 14, 15, 16, 17, 18, 19, 20, 21, 22, 23, 24, 25, 26, 27, 28, 29, 30, 31, 32, 33] (by decide +kernel) (by decide +kernel)) (goodIn_sub (fun _ h => List.mem_cons_of_mem _ (List.mem_append_left _ (List.mem_append_right _ h))) (by decide +kernel))) (goodIn_sub (fun _ h => List.mem_cons_of_mem _ (List.mem_append_right _ h)) (by decide +kernel))
set_option maxRecDepth 20000 in
theorem gL_rebuild_X3_rebuild : GoodIn wsL_rebuild (wsV RL 91 RX3 yX3_rebuild wsX3_rebuild) := goodIn_app (goodIn_of _ (by decide +kernel)) ggL_rebuild_X3_rebuild
theorem dL_rebuild_0 : decode cL_rebuild 0 = .ok (.aload_n 3, 1) := by decide +kernel
theorem dL_rebuild_1 : decode cL_rebuild 1 = .ok (.iconst 0, 1) := by decide +kernel
theorem dL_rebuild_2 : decode cL_rebuild 2 = .ok (.aload_n 0, 1) := by decide +kernel
theorem dL_rebuild_3 : decode cL_rebuild 3 = .ok (.iload_n 1, 1) := by decide +kernel
theorem dL_rebuild_4 : decode cL_rebuild 4 = .ok (.iload_n 2, 1) := by decide +kernel
theorem dL_rebuild_5 : decode cL_rebuild 5 = .ok (.invokevirtual 91, 3) := by decide +kernel
theorem dL_rebuild_8 : decode cL_rebuild 8 = .ok (.ifCond .eq 7, 3) := by decide +kernel
theorem dL_rebuild_11 : decode cL_rebuild 11 = .ok (.lconst 1, 1) := by decide +kernel
theorem dL_rebuild_12 : decode cL_rebuild 12 = .ok (.goto 4, 3) := by decide +kernel
theorem dL_rebuild_15 : decode cL_rebuild 15 = .ok (.lconst 0, 1) := by decide +kernel
theorem dL_rebuild_16 : decode cL_rebuild 16 = .ok (.lastore, 1) := by decide +kernel
theorem dL_rebuild_17 : decode cL_rebuild 17 = .ok (.goto 11, 3) := by decide +kernel
theorem dL_rebuild_20 : decode cL_rebuild 20 = .ok (.astore 4, 2) := by decide +kernel
theorem dL_rebuild_22 : decode cL_rebuild 22 = .ok (.iconst 1, 1) := by decide +kernel
theorem dL_rebuild_23 : decode cL_rebuild 23 = .ok (.ireturn, 1) := by decide +kernel
theorem dL_rebuild_24 : decode cL_rebuild 24 = .ok (.astore 4, 2) := by decide +kernel
theorem dL_rebuild_26 : decode cL_rebuild 26 = .ok (.iconst 2, 1) := by decide +kernel
theorem dL_rebuild_27 : decode cL_rebuild 27 = .ok (.ireturn, 1) := by decide +kernel
theorem dL_rebuild_28 : decode cL_rebuild 28 = .ok (.iconst 0, 1) := by decide +kernel
theorem dL_rebuild_29 : decode cL_rebuild 29 = .ok (.ireturn, 1) := by decide +kernel
set_option maxRecDepth 20000 in
theorem ggL_share_X3_share : GoodIn wsL_share wsX3_share := goodIn_ca (goodIn_ca (goodIn_r _ [7, 8, 9, 10, 11, 12, 13, 6, 14, 15, 16, 17, 18, 19, 20, 21, 22, 23, 24, 25, 26, 27, 28, 29, 30, 31, 32, 33] (by decide +kernel) (by decide +kernel)) (goodIn_sub (fun _ h => List.mem_cons_of_mem _ (List.mem_append_left _ (List.mem_append_right _ h))) (by decide +kernel))) (goodIn_sub (fun _ h => List.mem_cons_of_mem _ (List.mem_append_right _ h)) (by decide +kernel))
set_option maxRecDepth 20000 in
theorem gL_share_X3_share : GoodIn wsL_share (wsV RL 94 RX3 yX3_share wsX3_share) := goodIn_app (goodIn_of _ (by decide +kernel)) ggL_share_X3_share
theorem dL_share_0 : decode cL_share 0 = .ok (.aload_n 2, 1) := by decide +kernel
theorem dL_share_1 : decode cL_share 1 = .ok (.iconst 0, 1) := by decide +kernel
theorem dL_share_2 : decode cL_share 2 = .ok (.aload_n 0, 1) := by decide +kernel
theorem dL_share_3 : decode cL_share 3 = .ok (.iload_n 1, 1) := by decide +kernel
theorem dL_share_4 : decode cL_share 4 = .ok (.invokevirtual 94, 3) := by decide +kernel
theorem dL_share_7 : decode cL_share 7 = .ok (.f2d, 1) := by decide +kernel
theorem dL_share_8 : decode cL_share 8 = .ok (.dastore, 1) := by decide +kernel
theorem dL_share_9 : decode cL_share 9 = .ok (.goto 9, 3) := by decide +kernel
theorem dL_share_12 : decode cL_share 12 = .ok (.astore_n 3, 1) := by decide +kernel
theorem dL_share_13 : decode cL_share 13 = .ok (.iconst 1, 1) := by decide +kernel
theorem dL_share_14 : decode cL_share 14 = .ok (.ireturn, 1) := by decide +kernel
theorem dL_share_15 : decode cL_share 15 = .ok (.astore_n 3, 1) := by decide +kernel
theorem dL_share_16 : decode cL_share 16 = .ok (.iconst 2, 1) := by decide +kernel
theorem dL_share_17 : decode cL_share 17 = .ok (.ireturn, 1) := by decide +kernel
theorem dL_share_18 : decode cL_share 18 = .ok (.iconst 0, 1) := by decide +kernel
theorem dL_share_19 : decode cL_share 19 = .ok (.ireturn, 1) := by decide +kernel
set_option maxRecDepth 20000 in
theorem ggL_addMirror_X3_addMirror : GoodIn wsL_addMirror wsX3_addMirror := goodIn_ca (goodIn_r _ [6, 7, 8, 9, 10, 11, 12, 13, 14, 15, 16, 17, 18, 19, 20, 21, 22, 23, 24, 25, 26] (by decide +kernel) (by decide +kernel)) (goodIn_sub (fun _ h => List.mem_cons_of_mem _ (List.mem_append_right _ h)) (by decide +kernel))
set_option maxRecDepth 20000 in
theorem gL_addMirror_X3_addMirror : GoodIn wsL_addMirror (wsV RL 97 RX3 yX3_addMirror wsX3_addMirror) := goodIn_app (goodIn_of _ (by decide +kernel)) ggL_addMirror_X3_addMirror
theorem dL_addMirror_0 : decode cL_addMirror 0 = .ok (.aload_n 1, 1) := by decide +kernel
theorem dL_addMirror_1 : decode cL_addMirror 1 = .ok (.iconst 0, 1) := by decide +kernel
theorem dL_addMirror_2 : decode cL_addMirror 2 = .ok (.aload_n 0, 1) := by decide +kernel
theorem dL_addMirror_3 : decode cL_addMirror 3 = .ok (.invokevirtual 97, 3) := by decide +kernel
theorem dL_addMirror_6 : decode cL_addMirror 6 = .ok (.i2l, 1) := by decide +kernel
theorem dL_addMirror_7 : decode cL_addMirror 7 = .ok (.lastore, 1) := by decide +kernel
theorem dL_addMirror_8 : decode cL_addMirror 8 = .ok (.goto 6, 3) := by decide +kernel
theorem dL_addMirror_11 : decode cL_addMirror 11 = .ok (.astore_n 2, 1) := by decide +kernel
theorem dL_addMirror_12 : decode cL_addMirror 12 = .ok (.iconst 1, 1) := by decide +kernel
theorem dL_addMirror_13 : decode cL_addMirror 13 = .ok (.ireturn, 1) := by decide +kernel
theorem dL_addMirror_14 : decode cL_addMirror 14 = .ok (.iconst 0, 1) := by decide +kernel
theorem dL_addMirror_15 : decode cL_addMirror 15 = .ok (.ireturn, 1) := by decide +kernel
set_option maxRecDepth 20000 in
theorem ggL_update_X3_update : GoodIn wsL_update wsX3_update := goodIn_ca (goodIn_r _ [6, 7, 8, 9, 10, 11, 12, 5, 13, 14, 15, 16, 17, 18, 19, 20, 21, 22, 23, 24, 25, 26, 27, 28, 29, 30, 31, 32, 33, 34, 35, 36, 37, 38, 39, 40, 41, 42, 43, 44, 45, 46, 47] (by decide +kernel) (by decide +kernel)) (goodIn_sub (fun _ h => List.mem_cons_of_mem _ (List.mem_append_right _ h)) (by decide +kernel))
set_option maxRecDepth 20000 in
theorem gL_update_X3_update : GoodIn wsL_update (wsV RL 101 RX3 yX3_update wsX3_update) := goodIn_app (goodIn_of _ (by decide +kernel)) ggL_update_X3_update
theorem dL_update_0 : decode cL_update 0 = .ok (.aload_n 2, 1) := by decide +kernel
theorem dL_update_1 : decode cL_update 1 = .ok (.iconst 0, 1) := by decide +kernel
theorem dL_update_2 : decode cL_update 2 = .ok (.aload_n 0, 1) := by decide +kernel
theorem dL_update_3 : decode cL_update 3 = .ok (.iload_n 1, 1) := by decide +kernel
theorem dL_update_4 : decode cL_update 4 = .ok (.invokevirtual 101, 3) := by decide +kernel
theorem dL_update_7 : decode cL_update 7 = .ok (.i2l, 1) := by decide +kernel
theorem dL_update_8 : decode cL_update 8 = .ok (.lastore, 1) := by decide +kernel
theorem dL_update_9 : decode cL_update 9 = .ok (.goto 6, 3) := by decide +kernel
theorem dL_update_12 : decode cL_update 12 = .ok (.astore_n 3, 1) := by decide +kernel
theorem dL_update_13 : decode cL_update 13 = .ok (.iconst 1, 1) := by decide +kernel
theorem dL_update_14 : decode cL_update 14 = .ok (.ireturn, 1) := by decide +kernel
theorem dL_update_15 : decode cL_update 15 = .ok (.iconst 0, 1) := by decide +kernel
theorem dL_update_16 : decode cL_update 16 = .ok (.ireturn, 1) := by decide +kernel
set_option maxRecDepth 20000 in
theorem ggL_isExpired_X3_isExpired : GoodIn wsL_isExpired wsX3_isExpired := goodIn_ca (goodIn_r _ [6, 7, 8, 9, 5, 10, 11, 12, 13, 14, 15, 16, 17, 18, 19, 20, 21, 22, 23, 24, 25, 26, 27, 28, 29] (by decide +kernel) (by decide +kernel)) (goodIn_sub (fun _ h => List.mem_cons_of_mem _ (List.mem_append_right _ h)) (by decide +kernel))
set_option maxRecDepth 20000 in
theorem gL_isExpired_X3_isExpired : GoodIn wsL_isExpired (wsV RL 104 RX3 yX3_isExpired wsX3_isExpired) := goodIn_app (goodIn_of _ (by decide +kernel)) ggL_isExpired_X3_isExpired
theorem dL_isExpired_0 : decode cL_isExpired 0 = .ok (.aload_n 2, 1) := by decide +kernel
theorem dL_isExpired_1 : decode cL_isExpired 1 = .ok (.iconst 0, 1) := by decide +kernel
theorem dL_isExpired_2 : decode cL_isExpired 2 = .ok (.aload_n 0, 1) := by decide +kernel
theorem dL_isExpired_3 : decode cL_isExpired 3 = .ok (.iload_n 1, 1) := by decide +kernel
theorem dL_isExpired_4 : decode cL_isExpired 4 = .ok (.invokevirtual 104, 3) := by decide +kernel
theorem dL_isExpired_7 : decode cL_isExpired 7 = .ok (.ifCond .eq 7, 3) := by decide +kernel
theorem dL_isExpired_10 : decode cL_isExpired 10 = .ok (.lconst 1, 1) := by decide +kernel
theorem dL_isExpired_11 : decode cL_isExpired 11 = .ok (.goto 4, 3) := by decide +kernel
theorem dL_isExpired_14 : decode cL_isExpired 14 = .ok (.lconst 0, 1) := by decide +kernel
theorem dL_isExpired_15 : decode cL_isExpired 15 = .ok (.lastore, 1) := by decide +kernel
theorem dL_isExpired_16 : decode cL_isExpired 16 = .ok (.goto 6, 3) := by decide +kernel
theorem dL_isExpired_19 : decode cL_isExpired 19 = .ok (.astore_n 3, 1) := by decide +kernel
theorem dL_isExpired_20 : decode cL_isExpired 20 = .ok (.iconst 1, 1) := by decide +kernel
theorem dL_isExpired_21 : decode cL_isExpired 21 = .ok (.ireturn, 1) := by decide +kernel
theorem dL_isExpired_22 : decode cL_isExpired 22 = .ok (.iconst 0, 1) := by decide +kernel
theorem dL_isExpired_23 : decode cL_isExpired 23 = .ok (.ireturn, 1) := by decide +kernel
set_option maxRecDepth 20000 in
theorem ggL_setExpiry_X3_setExpiry : GoodIn wsL_setExpiry wsX3_setExpiry := goodIn_ca (goodIn_r _ [6, 7, 8, 9, 10, 11, 12, 13, 14, 15, 16] (by decide +kernel) (by decide +kernel)) (goodIn_sub (fun _ h => List.mem_cons_of_mem _ (List.mem_append_right _ h)) (by decide +kernel))
set_option maxRecDepth 20000 in
theorem gL_setExpiry_X3_setExpiry : GoodIn wsL_setExpiry (wsV RL 107 RX3 yX3_setExpiry wsX3_setExpiry) := goodIn_app (goodIn_of _ (by decide +kernel)) ggL_setExpiry_X3_setExpiry
theorem dL_setExpiry_0 : decode cL_setExpiry 0 = .ok (.aload_n 2, 1) := by decide +kernel
theorem dL_setExpiry_1 : decode cL_setExpiry 1 = .ok (.iconst 0, 1) := by decide +kernel
theorem dL_setExpiry_2 : decode cL_setExpiry 2 = .ok (.aload_n 0, 1) := by decide +kernel
theorem dL_setExpiry_3 : decode cL_setExpiry 3 = .ok (.iload_n 1, 1) := by decide +kernel
theorem dL_setExpiry_4 : decode cL_setExpiry 4 = .ok (.invokevirtual 107, 3) := by decide +kernel
theorem dL_setExpiry_7 : decode cL_setExpiry 7 = .ok (.i2l, 1) := by decide +kernel
theorem dL_setExpiry_8 : decode cL_setExpiry 8 = .ok (.lastore, 1) := by decide +kernel
theorem dL_setExpiry_9 : decode cL_setExpiry 9 = .ok (.goto 6, 3) := by decide +kernel
theorem dL_setExpiry_12 : decode cL_setExpiry 12 = .ok (.astore_n 3, 1) := by decide +kernel
theorem dL_setExpiry_13 : decode cL_setExpiry 13 = .ok (.iconst 1, 1) := by decide +kernel
theorem dL_setExpiry_14 : decode cL_setExpiry 14 = .ok (.ireturn, 1) := by decide +kernel
theorem dL_setExpiry_15 : decode cL_setExpiry 15 = .ok (.iconst 0, 1) := by decide +kernel
theorem dL_setExpiry_16 : decode cL_setExpiry 16 = .ok (.ireturn, 1) := by decide +kernel
set_option maxRecDepth 20000 in
theorem ggL_install_X3_install : GoodIn wsL_install wsX3_install := goodIn_ca (goodIn_ca (goodIn_ca (goodIn_ca (goodIn_r _ [9, 10, 11, 12, 13, 14, 15, 16, 8, 17, 18, 19, 20, 21, 22, 23, 24, 25, 26, 27, 28, 29, 30, 31, 32, 33, 34, 35, 36, 37, 38, 39, 40, 41, 42, 43, 44, 45, 46, 47, 48, 49, 50, 51, 52, 53, 54, 55, 56, 57, 58, 59, 60, 61, 62, 63, 64, 65, 66, 67, 68, 69, 70, 71, 72, 73, 74, 75, 76, 77, 78, 79, 80, 81, 82, 83] (by decide +kernel) (by decide +kernel)) (goodIn_sub (fun _ h => List.mem_cons_of_mem _ (List.mem_append_left _ (List.mem_append_left _ (List.mem_append_left _ (List.mem_append_right _ h))))) (by decide +kernel))) (goodIn_sub (fun _ h => List.mem_cons_of_mem _ (List.mem_append_left _ (List.mem_append_left _ (List.mem_append_right _ h)))) (by decide +kernel))) (goodIn_sub (fun _ h => List.mem_cons_of_mem _ (List.mem_append_left _ (List.mem_append_right _ h))) (by decide +kernel))) (goodIn_sub (fun _ h => List.mem_cons_of_mem _ (List.mem_append_right _ h)) (by decide +kernel))
set_option maxRecDepth 20000 in
theorem gL_install_X3_install : GoodIn wsL_install (wsV RL 110 RX3 yX3_install wsX3_install) := goodIn_app (goodIn_of _ (by decide +kernel)) ggL_install_X3_install
theorem dL_install_0 : decode cL_install 0 = .ok (.aload_n 3, 1) := by decide +kernel
theorem dL_install_1 : decode cL_install 1 = .ok (.iconst 0, 1) := by decide +kernel
theorem dL_install_2 : decode cL_install 2 = .ok (.aload_n 0, 1) := by decide +kernel
theorem dL_install_3 : decode cL_install 3 = .ok (.iload_n 1, 1) := by decide +kernel
theorem dL_install_4 : decode cL_install 4 = .ok (.iload_n 2, 1) := by decide +kernel
theorem dL_install_5 : decode cL_install 5 = .ok (.invokevirtual 110, 3) := by decide +kernel
theorem dL_install_8 : decode cL_install 8 = .ok (.i2l, 1) := by decide +kernel
theorem dL_install_9 : decode cL_install 9 = .ok (.lastore, 1) := by decide +kernel
theorem dL_install_10 : decode cL_install 10 = .ok (.goto 19, 3) := by decide +kernel
theorem dL_install_13 : decode cL_install 13 = .ok (.astore 4, 2) := by decide +kernel
theorem dL_install_15 : decode cL_install 15 = .ok (.iconst 1, 1) := by decide +kernel
theorem dL_install_16 : decode cL_install 16 = .ok (.ireturn, 1) := by decide +kernel
theorem dL_install_17 : decode cL_install 17 = .ok (.astore 4, 2) := by decide +kernel
theorem dL_install_19 : decode cL_install 19 = .ok (.iconst 2, 1) := by decide +kernel
theorem dL_install_20 : decode cL_install 20 = .ok (.ireturn, 1) := by decide +kernel
theorem dL_install_21 : decode cL_install 21 = .ok (.astore 4, 2) := by decide +kernel
theorem dL_install_23 : decode cL_install 23 = .ok (.iconst 3, 1) := by decide +kernel
theorem dL_install_24 : decode cL_install 24 = .ok (.ireturn, 1) := by decide +kernel
theorem dL_install_25 : decode cL_install 25 = .ok (.astore 4, 2) := by decide +kernel
theorem dL_install_27 : decode cL_install 27 = .ok (.iconst 4, 1) := by decide +kernel
theorem dL_install_28 : decode cL_install 28 = .ok (.ireturn, 1) := by decide +kernel
theorem dL_install_29 : decode cL_install 29 = .ok (.iconst 0, 1) := by decide +kernel
theorem dL_install_30 : decode cL_install 30 = .ok (.ireturn, 1) := by decide +kernel
set_option maxRecDepth 20000 in
theorem ggL_pass_X3_pass : GoodIn wsL_pass wsX3_pass := goodIn_ca (goodIn_r _ [6, 7, 8, 9, 10, 11, 12, 13, 14, 5, 15, 16, 17, 18, 19, 20, 21, 22, 23, 24, 25, 26, 27, 28, 29, 30, 31, 32, 33, 34, 35, 36, 37, 38, 39, 40, 41, 42, 43, 44, 45, 46, 47, 48, 49, 50, 51, 52, 53, 54, 55, 56, 57, 58, 59, 60, 61, 62, 63, 64, 65, 66, 67, 68, 69, 70, 71, 72, 73, 74, 75, 76, 77, 78, 79, 80, 81, 82, 83, 84] (by decide +kernel) (by decide +kernel)) (goodIn_sub (fun _ h => List.mem_cons_of_mem _ (List.mem_append_right _ h)) (by decide +kernel))
set_option maxRecDepth 20000 in
theorem gL_pass_X3_pass : GoodIn wsL_pass (wsV RL 113 RX3 yX3_pass wsX3_pass) := goodIn_app (goodIn_of _ (by decide +kernel)) ggL_pass_X3_pass
theorem dL_pass_0 : decode cL_pass 0 = .ok (.aload_n 2, 1) := by decide +kernel
theorem dL_pass_1 : decode cL_pass 1 = .ok (.iconst 0, 1) := by decide +kernel
theorem dL_pass_2 : decode cL_pass 2 = .ok (.aload_n 0, 1) := by decide +kernel
theorem dL_pass_3 : decode cL_pass 3 = .ok (.iload_n 1, 1) := by decide +kernel
theorem dL_pass_4 : decode cL_pass 4 = .ok (.invokevirtual 113, 3) := by decide +kernel
theorem dL_pass_7 : decode cL_pass 7 = .ok (.i2l, 1) := by decide +kernel
theorem dL_pass_8 : decode cL_pass 8 = .ok (.lastore, 1) := by decide +kernel
theorem dL_pass_9 : decode cL_pass 9 = .ok (.goto 6, 3) := by decide +kernel
theorem dL_pass_12 : decode cL_pass 12 = .ok (.astore_n 3, 1) := by decide +kernel
theorem dL_pass_13 : decode cL_pass 13 = .ok (.iconst 1, 1) := by decide +kernel
theorem dL_pass_14 : decode cL_pass 14 = .ok (.ireturn, 1) := by decide +kernel
theorem dL_pass_15 : decode cL_pass 15 = .ok (.iconst 0, 1) := by decide +kernel
theorem dL_pass_16 : decode cL_pass 16 = .ok (.ireturn, 1) := by decide +kernel
