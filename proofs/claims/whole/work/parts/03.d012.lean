theorem dX0_init_0 : decode cX0_init 0 = .ok (.aload_n 0, 1) := by decide +kernel
theorem dX0_init_1 : decode cX0_init 1 = .ok (.invokespecial 3, 3) := by decide +kernel
theorem dX0_init_4 : decode cX0_init 4 = .ok (.aload_n 0, 1) := by decide +kernel
theorem dX0_init_5 : decode cX0_init 5 = .ok (.bipush 24, 2) := by decide +kernel
theorem dX0_init_7 : decode cX0_init 7 = .ok (.newarray .int, 2) := by decide +kernel
theorem dX0_init_9 : decode cX0_init 9 = .ok (.putfield 9, 3) := by decide +kernel
theorem dX0_init_12 : decode cX0_init 12 = .ok (.aload_n 0, 1) := by decide +kernel
theorem dX0_init_13 : decode cX0_init 13 = .ok (.bipush 24, 2) := by decide +kernel
theorem dX0_init_15 : decode cX0_init 15 = .ok (.newarray .int, 2) := by decide +kernel
theorem dX0_init_17 : decode cX0_init 17 = .ok (.putfield 15, 3) := by decide +kernel
theorem dX0_init_20 : decode cX0_init 20 = .ok (.aload_n 0, 1) := by decide +kernel
theorem dX0_init_21 : decode cX0_init 21 = .ok (.bipush 24, 2) := by decide +kernel
theorem dX0_init_23 : decode cX0_init 23 = .ok (.newarray .int, 2) := by decide +kernel
theorem dX0_init_25 : decode cX0_init 25 = .ok (.putfield 18, 3) := by decide +kernel
theorem dX0_init_28 : decode cX0_init 28 = .ok (.aload_n 0, 1) := by decide +kernel
theorem dX0_init_29 : decode cX0_init 29 = .ok (.bipush 24, 2) := by decide +kernel
theorem dX0_init_31 : decode cX0_init 31 = .ok (.newarray .int, 2) := by decide +kernel
theorem dX0_init_33 : decode cX0_init 33 = .ok (.putfield 21, 3) := by decide +kernel
theorem dX0_init_36 : decode cX0_init 36 = .ok (.aload_n 0, 1) := by decide +kernel
theorem dX0_init_37 : decode cX0_init 37 = .ok (.bipush 24, 2) := by decide +kernel
theorem dX0_init_39 : decode cX0_init 39 = .ok (.newarray .int, 2) := by decide +kernel
theorem dX0_init_41 : decode cX0_init 41 = .ok (.putfield 24, 3) := by decide +kernel
theorem dX0_init_44 : decode cX0_init 44 = .ok (.aload_n 0, 1) := by decide +kernel
theorem dX0_init_45 : decode cX0_init 45 = .ok (.bipush 24, 2) := by decide +kernel
theorem dX0_init_47 : decode cX0_init 47 = .ok (.newarray .int, 2) := by decide +kernel
theorem dX0_init_49 : decode cX0_init 49 = .ok (.putfield 27, 3) := by decide +kernel
theorem dX0_init_52 : decode cX0_init 52 = .ok (.aload_n 0, 1) := by decide +kernel
theorem dX0_init_53 : decode cX0_init 53 = .ok (.bipush 24, 2) := by decide +kernel
theorem dX0_init_55 : decode cX0_init 55 = .ok (.newarray .int, 2) := by decide +kernel
theorem dX0_init_57 : decode cX0_init 57 = .ok (.putfield 30, 3) := by decide +kernel
theorem dX0_init_60 : decode cX0_init 60 = .ok (.aload_n 0, 1) := by decide +kernel
theorem dX0_init_61 : decode cX0_init 61 = .ok (.bipush 24, 2) := by decide +kernel
theorem dX0_init_63 : decode cX0_init 63 = .ok (.newarray .int, 2) := by decide +kernel
theorem dX0_init_65 : decode cX0_init 65 = .ok (.putfield 33, 3) := by decide +kernel
theorem dX0_init_68 : decode cX0_init 68 = .ok (.return_, 1) := by decide +kernel
set_option maxRecDepth 20000 in
theorem ggX0_append_X0_countOf : GoodIn wsX0_append wsX0_countOf := goodIn_r _ [10, 1, 2, 21, 22, 23, 24, 25, 26, 27, 28, 29, 30] (by decide +kernel) (by decide +kernel)
set_option maxRecDepth 20000 in
theorem gX0_append_X0_countOf : GoodIn wsX0_append (wsV RX0 40 RX0 yX0_countOf wsX0_countOf) := goodIn_app (goodIn_of _ (by decide +kernel)) ggX0_append_X0_countOf
set_option maxRecDepth 20000 in
theorem ggX0_append_X0_withTheirSources : GoodIn wsX0_append wsX0_withTheirSources := goodIn_r _ [14, 1, 4, 15, 16, 17, 18, 19, 20, 21, 22, 23, 24, 25, 26, 27, 28, 29, 30] (by decide +kernel) (by decide +kernel)
set_option maxRecDepth 20000 in
theorem gX0_append_X0_withTheirSources : GoodIn wsX0_append (wsV RX0 44 RX0 yX0_withTheirSources wsX0_withTheirSources) := goodIn_app (goodIn_of _ (by decide +kernel)) ggX0_append_X0_withTheirSources
theorem dX0_append_0 : decode cX0_append 0 = .ok (.aload_n 0, 1) := by decide +kernel
theorem dX0_append_1 : decode cX0_append 1 = .ok (.getfield 36, 3) := by decide +kernel
theorem dX0_append_4 : decode cX0_append 4 = .ok (.istore 4, 2) := by decide +kernel
theorem dX0_append_6 : decode cX0_append 6 = .ok (.aload_n 0, 1) := by decide +kernel
theorem dX0_append_7 : decode cX0_append 7 = .ok (.getfield 9, 3) := by decide +kernel
theorem dX0_append_10 : decode cX0_append 10 = .ok (.iload 4, 2) := by decide +kernel
theorem dX0_append_12 : decode cX0_append 12 = .ok (.iload_n 1, 1) := by decide +kernel
theorem dX0_append_13 : decode cX0_append 13 = .ok (.iastore, 1) := by decide +kernel
theorem dX0_append_14 : decode cX0_append 14 = .ok (.aload_n 0, 1) := by decide +kernel
theorem dX0_append_15 : decode cX0_append 15 = .ok (.getfield 15, 3) := by decide +kernel
theorem dX0_append_18 : decode cX0_append 18 = .ok (.iload 4, 2) := by decide +kernel
theorem dX0_append_20 : decode cX0_append 20 = .ok (.iconst 1, 1) := by decide +kernel
theorem dX0_append_21 : decode cX0_append 21 = .ok (.aload_n 0, 1) := by decide +kernel
theorem dX0_append_22 : decode cX0_append 22 = .ok (.iload_n 1, 1) := by decide +kernel
theorem dX0_append_23 : decode cX0_append 23 = .ok (.invokevirtual 40, 3) := by decide +kernel
theorem dX0_append_26 : decode cX0_append 26 = .ok (.iadd, 1) := by decide +kernel
theorem dX0_append_27 : decode cX0_append 27 = .ok (.iastore, 1) := by decide +kernel
theorem dX0_append_28 : decode cX0_append 28 = .ok (.aload_n 0, 1) := by decide +kernel
theorem dX0_append_29 : decode cX0_append 29 = .ok (.getfield 18, 3) := by decide +kernel
theorem dX0_append_32 : decode cX0_append 32 = .ok (.iload 4, 2) := by decide +kernel
theorem dX0_append_34 : decode cX0_append 34 = .ok (.aload_n 0, 1) := by decide +kernel
theorem dX0_append_35 : decode cX0_append 35 = .ok (.iload_n 2, 1) := by decide +kernel
theorem dX0_append_36 : decode cX0_append 36 = .ok (.invokevirtual 44, 3) := by decide +kernel
theorem dX0_append_39 : decode cX0_append 39 = .ok (.iastore, 1) := by decide +kernel
theorem dX0_append_40 : decode cX0_append 40 = .ok (.aload_n 0, 1) := by decide +kernel
theorem dX0_append_41 : decode cX0_append 41 = .ok (.getfield 21, 3) := by decide +kernel
theorem dX0_append_44 : decode cX0_append 44 = .ok (.iload 4, 2) := by decide +kernel
theorem dX0_append_46 : decode cX0_append 46 = .ok (.iload_n 3, 1) := by decide +kernel
theorem dX0_append_47 : decode cX0_append 47 = .ok (.iastore, 1) := by decide +kernel
theorem dX0_append_48 : decode cX0_append 48 = .ok (.aload_n 0, 1) := by decide +kernel
theorem dX0_append_49 : decode cX0_append 49 = .ok (.dup, 1) := by decide +kernel
theorem dX0_append_50 : decode cX0_append 50 = .ok (.getfield 36, 3) := by decide +kernel
theorem dX0_append_53 : decode cX0_append 53 = .ok (.iconst 1, 1) := by decide +kernel
theorem dX0_append_54 : decode cX0_append 54 = .ok (.iadd, 1) := by decide +kernel
theorem dX0_append_55 : decode cX0_append 55 = .ok (.putfield 36, 3) := by decide +kernel
theorem dX0_append_58 : decode cX0_append 58 = .ok (.iload 4, 2) := by decide +kernel
theorem dX0_append_60 : decode cX0_append 60 = .ok (.ireturn, 1) := by decide +kernel
theorem dX0_countOf_0 : decode cX0_countOf 0 = .ok (.iconst 0, 1) := by decide +kernel
theorem dX0_countOf_1 : decode cX0_countOf 1 = .ok (.istore_n 2, 1) := by decide +kernel
theorem dX0_countOf_2 : decode cX0_countOf 2 = .ok (.iconst 0, 1) := by decide +kernel
theorem dX0_countOf_3 : decode cX0_countOf 3 = .ok (.istore_n 3, 1) := by decide +kernel
theorem dX0_countOf_4 : decode cX0_countOf 4 = .ok (.iload_n 3, 1) := by decide +kernel
theorem dX0_countOf_5 : decode cX0_countOf 5 = .ok (.aload_n 0, 1) := by decide +kernel
theorem dX0_countOf_6 : decode cX0_countOf 6 = .ok (.getfield 36, 3) := by decide +kernel
theorem dX0_countOf_9 : decode cX0_countOf 9 = .ok (.if_icmp .ge 22, 3) := by decide +kernel
theorem dX0_countOf_12 : decode cX0_countOf 12 = .ok (.aload_n 0, 1) := by decide +kernel
theorem dX0_countOf_13 : decode cX0_countOf 13 = .ok (.getfield 9, 3) := by decide +kernel
theorem dX0_countOf_16 : decode cX0_countOf 16 = .ok (.iload_n 3, 1) := by decide +kernel
theorem dX0_countOf_17 : decode cX0_countOf 17 = .ok (.iaload, 1) := by decide +kernel
theorem dX0_countOf_18 : decode cX0_countOf 18 = .ok (.iload_n 1, 1) := by decide +kernel
theorem dX0_countOf_19 : decode cX0_countOf 19 = .ok (.if_icmp .ne 6, 3) := by decide +kernel
theorem dX0_countOf_22 : decode cX0_countOf 22 = .ok (.iinc 2 1, 3) := by decide +kernel
theorem dX0_countOf_25 : decode cX0_countOf 25 = .ok (.iinc 3 1, 3) := by decide +kernel
theorem dX0_countOf_28 : decode cX0_countOf 28 = .ok (.goto (-24), 3) := by decide +kernel
theorem dX0_countOf_31 : decode cX0_countOf 31 = .ok (.iload_n 2, 1) := by decide +kernel
theorem dX0_countOf_32 : decode cX0_countOf 32 = .ok (.ireturn, 1) := by decide +kernel
set_option maxRecDepth 20000 in
theorem ggX0_withTheirSources_X3_holds : GoodIn wsX0_withTheirSources wsX3_holds := goodIn_r _ [5, 6, 7, 4, 8] (by decide +kernel) (by decide +kernel)
set_option maxRecDepth 20000 in
theorem gX0_withTheirSources_X3_holds_n47 : GoodIn wsX0_withTheirSources (wsX3_holds) := ggX0_withTheirSources_X3_holds
theorem dX0_withTheirSources_0 : decode cX0_withTheirSources 0 = .ok (.iload_n 1, 1) := by decide +kernel
theorem dX0_withTheirSources_1 : decode cX0_withTheirSources 1 = .ok (.istore_n 2, 1) := by decide +kernel
theorem dX0_withTheirSources_2 : decode cX0_withTheirSources 2 = .ok (.iconst 0, 1) := by decide +kernel
theorem dX0_withTheirSources_3 : decode cX0_withTheirSources 3 = .ok (.istore_n 3, 1) := by decide +kernel
theorem dX0_withTheirSources_4 : decode cX0_withTheirSources 4 = .ok (.iload_n 3, 1) := by decide +kernel
theorem dX0_withTheirSources_5 : decode cX0_withTheirSources 5 = .ok (.aload_n 0, 1) := by decide +kernel
theorem dX0_withTheirSources_6 : decode cX0_withTheirSources 6 = .ok (.getfield 36, 3) := by decide +kernel
theorem dX0_withTheirSources_9 : decode cX0_withTheirSources 9 = .ok (.if_icmp .ge 26, 3) := by decide +kernel
theorem dX0_withTheirSources_12 : decode cX0_withTheirSources 12 = .ok (.iload_n 1, 1) := by decide +kernel
theorem dX0_withTheirSources_13 : decode cX0_withTheirSources 13 = .ok (.iload_n 3, 1) := by decide +kernel
theorem dX0_withTheirSources_14 : decode cX0_withTheirSources 14 = .ok (.invokestatic 47, 3) := by decide +kernel
theorem dX0_withTheirSources_17 : decode cX0_withTheirSources 17 = .ok (.ifCond .eq 12, 3) := by decide +kernel
theorem dX0_withTheirSources_20 : decode cX0_withTheirSources 20 = .ok (.iload_n 2, 1) := by decide +kernel
theorem dX0_withTheirSources_21 : decode cX0_withTheirSources 21 = .ok (.aload_n 0, 1) := by decide +kernel
theorem dX0_withTheirSources_22 : decode cX0_withTheirSources 22 = .ok (.getfield 18, 3) := by decide +kernel
theorem dX0_withTheirSources_25 : decode cX0_withTheirSources 25 = .ok (.iload_n 3, 1) := by decide +kernel
theorem dX0_withTheirSources_26 : decode cX0_withTheirSources 26 = .ok (.iaload, 1) := by decide +kernel
theorem dX0_withTheirSources_27 : decode cX0_withTheirSources 27 = .ok (.ior, 1) := by decide +kernel
theorem dX0_withTheirSources_28 : decode cX0_withTheirSources 28 = .ok (.istore_n 2, 1) := by decide +kernel
theorem dX0_withTheirSources_29 : decode cX0_withTheirSources 29 = .ok (.iinc 3 1, 3) := by decide +kernel
theorem dX0_withTheirSources_32 : decode cX0_withTheirSources 32 = .ok (.goto (-28), 3) := by decide +kernel
theorem dX0_withTheirSources_35 : decode cX0_withTheirSources 35 = .ok (.iload_n 2, 1) := by decide +kernel
theorem dX0_withTheirSources_36 : decode cX0_withTheirSources 36 = .ok (.ireturn, 1) := by decide +kernel
set_option maxRecDepth 20000 in
theorem ggX0_all_X3_only : GoodIn wsX0_all wsX3_only := goodIn_r _ [4] (by decide +kernel) (by decide +kernel)
set_option maxRecDepth 20000 in
theorem gX0_all_X3_only_n51 : GoodIn wsX0_all (wsX3_only) := ggX0_all_X3_only
theorem dX0_all_0 : decode cX0_all 0 = .ok (.aload_n 0, 1) := by decide +kernel
theorem dX0_all_1 : decode cX0_all 1 = .ok (.getfield 36, 3) := by decide +kernel
theorem dX0_all_4 : decode cX0_all 4 = .ok (.invokestatic 51, 3) := by decide +kernel
theorem dX0_all_7 : decode cX0_all 7 = .ok (.iconst 1, 1) := by decide +kernel
theorem dX0_all_8 : decode cX0_all 8 = .ok (.isub, 1) := by decide +kernel
theorem dX0_all_9 : decode cX0_all 9 = .ok (.ireturn, 1) := by decide +kernel
set_option maxRecDepth 20000 in
theorem ggX0_recalled_X3_only : GoodIn wsX0_recalled wsX3_only := goodIn_r _ [6] (by decide +kernel) (by decide +kernel)
set_option maxRecDepth 20000 in
theorem gX0_recalled_X3_only_n51 : GoodIn wsX0_recalled (wsX3_only) := ggX0_recalled_X3_only
theorem dX0_recalled_0 : decode cX0_recalled 0 = .ok (.aload_n 0, 1) := by decide +kernel
theorem dX0_recalled_1 : decode cX0_recalled 1 = .ok (.getfield 54, 3) := by decide +kernel
theorem dX0_recalled_4 : decode cX0_recalled 4 = .ok (.istore_n 1, 1) := by decide +kernel
theorem dX0_recalled_5 : decode cX0_recalled 5 = .ok (.iconst 0, 1) := by decide +kernel
theorem dX0_recalled_6 : decode cX0_recalled 6 = .ok (.istore_n 2, 1) := by decide +kernel
theorem dX0_recalled_7 : decode cX0_recalled 7 = .ok (.iload_n 2, 1) := by decide +kernel
theorem dX0_recalled_8 : decode cX0_recalled 8 = .ok (.aload_n 0, 1) := by decide +kernel
theorem dX0_recalled_9 : decode cX0_recalled 9 = .ok (.getfield 36, 3) := by decide +kernel
theorem dX0_recalled_12 : decode cX0_recalled 12 = .ok (.if_icmp .ge 30, 3) := by decide +kernel
theorem dX0_recalled_15 : decode cX0_recalled 15 = .ok (.aload_n 0, 1) := by decide +kernel
theorem dX0_recalled_16 : decode cX0_recalled 16 = .ok (.getfield 18, 3) := by decide +kernel
theorem dX0_recalled_19 : decode cX0_recalled 19 = .ok (.iload_n 2, 1) := by decide +kernel
theorem dX0_recalled_20 : decode cX0_recalled 20 = .ok (.iaload, 1) := by decide +kernel
theorem dX0_recalled_21 : decode cX0_recalled 21 = .ok (.aload_n 0, 1) := by decide +kernel
theorem dX0_recalled_22 : decode cX0_recalled 22 = .ok (.getfield 54, 3) := by decide +kernel
theorem dX0_recalled_25 : decode cX0_recalled 25 = .ok (.iand, 1) := by decide +kernel
theorem dX0_recalled_26 : decode cX0_recalled 26 = .ok (.ifCond .eq 10, 3) := by decide +kernel
theorem dX0_recalled_29 : decode cX0_recalled 29 = .ok (.iload_n 1, 1) := by decide +kernel
theorem dX0_recalled_30 : decode cX0_recalled 30 = .ok (.iload_n 2, 1) := by decide +kernel
theorem dX0_recalled_31 : decode cX0_recalled 31 = .ok (.invokestatic 51, 3) := by decide +kernel
theorem dX0_recalled_34 : decode cX0_recalled 34 = .ok (.ior, 1) := by decide +kernel
theorem dX0_recalled_35 : decode cX0_recalled 35 = .ok (.istore_n 1, 1) := by decide +kernel
theorem dX0_recalled_36 : decode cX0_recalled 36 = .ok (.iinc 2 1, 3) := by decide +kernel
theorem dX0_recalled_39 : decode cX0_recalled 39 = .ok (.goto (-32), 3) := by decide +kernel
theorem dX0_recalled_42 : decode cX0_recalled 42 = .ok (.iload_n 1, 1) := by decide +kernel
theorem dX0_recalled_43 : decode cX0_recalled 43 = .ok (.ireturn, 1) := by decide +kernel
set_option maxRecDepth 20000 in
theorem ggX0_newestOf_X3_holds : GoodIn wsX0_newestOf wsX3_holds := goodIn_r _ [5, 6, 7, 4, 8] (by decide +kernel) (by decide +kernel)
set_option maxRecDepth 20000 in
theorem gX0_newestOf_X3_holds_n47 : GoodIn wsX0_newestOf (wsX3_holds) := ggX0_newestOf_X3_holds
theorem dX0_newestOf_0 : decode cX0_newestOf 0 = .ok (.iconst (-1), 1) := by decide +kernel
theorem dX0_newestOf_1 : decode cX0_newestOf 1 = .ok (.istore_n 3, 1) := by decide +kernel
theorem dX0_newestOf_2 : decode cX0_newestOf 2 = .ok (.iconst 0, 1) := by decide +kernel
theorem dX0_newestOf_3 : decode cX0_newestOf 3 = .ok (.istore 4, 2) := by decide +kernel
theorem dX0_newestOf_5 : decode cX0_newestOf 5 = .ok (.iload 4, 2) := by decide +kernel
theorem dX0_newestOf_7 : decode cX0_newestOf 7 = .ok (.aload_n 0, 1) := by decide +kernel
theorem dX0_newestOf_8 : decode cX0_newestOf 8 = .ok (.getfield 36, 3) := by decide +kernel
theorem dX0_newestOf_11 : decode cX0_newestOf 11 = .ok (.if_icmp .ge 32, 3) := by decide +kernel
theorem dX0_newestOf_14 : decode cX0_newestOf 14 = .ok (.aload_n 0, 1) := by decide +kernel
theorem dX0_newestOf_15 : decode cX0_newestOf 15 = .ok (.getfield 9, 3) := by decide +kernel
theorem dX0_newestOf_18 : decode cX0_newestOf 18 = .ok (.iload 4, 2) := by decide +kernel
theorem dX0_newestOf_20 : decode cX0_newestOf 20 = .ok (.iaload, 1) := by decide +kernel
theorem dX0_newestOf_21 : decode cX0_newestOf 21 = .ok (.iload_n 1, 1) := by decide +kernel
theorem dX0_newestOf_22 : decode cX0_newestOf 22 = .ok (.if_icmp .ne 15, 3) := by decide +kernel
theorem dX0_newestOf_25 : decode cX0_newestOf 25 = .ok (.iload_n 2, 1) := by decide +kernel
theorem dX0_newestOf_26 : decode cX0_newestOf 26 = .ok (.iload 4, 2) := by decide +kernel
theorem dX0_newestOf_28 : decode cX0_newestOf 28 = .ok (.invokestatic 47, 3) := by decide +kernel
theorem dX0_newestOf_31 : decode cX0_newestOf 31 = .ok (.ifCond .eq 6, 3) := by decide +kernel
theorem dX0_newestOf_34 : decode cX0_newestOf 34 = .ok (.iload 4, 2) := by decide +kernel
theorem dX0_newestOf_36 : decode cX0_newestOf 36 = .ok (.istore_n 3, 1) := by decide +kernel
theorem dX0_newestOf_37 : decode cX0_newestOf 37 = .ok (.iinc 4 1, 3) := by decide +kernel
theorem dX0_newestOf_40 : decode cX0_newestOf 40 = .ok (.goto (-35), 3) := by decide +kernel
theorem dX0_newestOf_43 : decode cX0_newestOf 43 = .ok (.iload_n 3, 1) := by decide +kernel
theorem dX0_newestOf_44 : decode cX0_newestOf 44 = .ok (.ireturn, 1) := by decide +kernel
set_option maxRecDepth 20000 in
theorem ggX0_keepVouchers_X1_live : GoodIn wsX0_keepVouchers wsX1_live := goodIn_r _ [7, 8, 9, 10, 11, 5, 12, 13, 14, 15, 16, 17, 18, 19, 20, 21, 36, 37, 38, 39, 40] (by decide +kernel) (by decide +kernel)
set_option maxRecDepth 20000 in
theorem gX0_keepVouchers_X1_live_n57 : GoodIn wsX0_keepVouchers (wsX1_live) := ggX0_keepVouchers_X1_live
set_option maxRecDepth 20000 in
theorem ggX0_keepVouchers_X1_signersOf : GoodIn wsX0_keepVouchers wsX1_signersOf := goodIn_r _ [24, 8, 25, 16, 17, 18, 19, 20, 21, 36, 37, 38, 39, 40] (by decide +kernel) (by decide +kernel)
set_option maxRecDepth 20000 in
theorem gX0_keepVouchers_X1_signersOf_n62 : GoodIn wsX0_keepVouchers (wsX1_signersOf) := ggX0_keepVouchers_X1_signersOf
theorem dX0_keepVouchers_0 : decode cX0_keepVouchers 0 = .ok (.aload_n 1, 1) := by decide +kernel
theorem dX0_keepVouchers_1 : decode cX0_keepVouchers 1 = .ok (.iload_n 2, 1) := by decide +kernel
theorem dX0_keepVouchers_2 : decode cX0_keepVouchers 2 = .ok (.invokevirtual 57, 3) := by decide +kernel
theorem dX0_keepVouchers_5 : decode cX0_keepVouchers 5 = .ok (.istore_n 3, 1) := by decide +kernel
theorem dX0_keepVouchers_6 : decode cX0_keepVouchers 6 = .ok (.iconst 0, 1) := by decide +kernel
theorem dX0_keepVouchers_7 : decode cX0_keepVouchers 7 = .ok (.istore 4, 2) := by decide +kernel
theorem dX0_keepVouchers_9 : decode cX0_keepVouchers 9 = .ok (.iload 4, 2) := by decide +kernel
theorem dX0_keepVouchers_11 : decode cX0_keepVouchers 11 = .ok (.aload_n 0, 1) := by decide +kernel
theorem dX0_keepVouchers_12 : decode cX0_keepVouchers 12 = .ok (.getfield 36, 3) := by decide +kernel
theorem dX0_keepVouchers_15 : decode cX0_keepVouchers 15 = .ok (.if_icmp .ge 29, 3) := by decide +kernel
theorem dX0_keepVouchers_18 : decode cX0_keepVouchers 18 = .ok (.aload_n 0, 1) := by decide +kernel
theorem dX0_keepVouchers_19 : decode cX0_keepVouchers 19 = .ok (.getfield 27, 3) := by decide +kernel
theorem dX0_keepVouchers_22 : decode cX0_keepVouchers 22 = .ok (.iload 4, 2) := by decide +kernel
theorem dX0_keepVouchers_24 : decode cX0_keepVouchers 24 = .ok (.aload_n 1, 1) := by decide +kernel
theorem dX0_keepVouchers_25 : decode cX0_keepVouchers 25 = .ok (.aload_n 0, 1) := by decide +kernel
theorem dX0_keepVouchers_26 : decode cX0_keepVouchers 26 = .ok (.getfield 24, 3) := by decide +kernel
theorem dX0_keepVouchers_29 : decode cX0_keepVouchers 29 = .ok (.iload 4, 2) := by decide +kernel
theorem dX0_keepVouchers_31 : decode cX0_keepVouchers 31 = .ok (.iaload, 1) := by decide +kernel
theorem dX0_keepVouchers_32 : decode cX0_keepVouchers 32 = .ok (.iload_n 3, 1) := by decide +kernel
theorem dX0_keepVouchers_33 : decode cX0_keepVouchers 33 = .ok (.iand, 1) := by decide +kernel
theorem dX0_keepVouchers_34 : decode cX0_keepVouchers 34 = .ok (.invokevirtual 62, 3) := by decide +kernel
theorem dX0_keepVouchers_37 : decode cX0_keepVouchers 37 = .ok (.iastore, 1) := by decide +kernel
theorem dX0_keepVouchers_38 : decode cX0_keepVouchers 38 = .ok (.iinc 4 1, 3) := by decide +kernel
theorem dX0_keepVouchers_41 : decode cX0_keepVouchers 41 = .ok (.goto (-32), 3) := by decide +kernel
theorem dX0_keepVouchers_44 : decode cX0_keepVouchers 44 = .ok (.return_, 1) := by decide +kernel
theorem dX1_init_0 : decode cX1_init 0 = .ok (.aload_n 0, 1) := by decide +kernel
theorem dX1_init_1 : decode cX1_init 1 = .ok (.invokespecial 3, 3) := by decide +kernel
theorem dX1_init_4 : decode cX1_init 4 = .ok (.aload_n 0, 1) := by decide +kernel
theorem dX1_init_5 : decode cX1_init 5 = .ok (.bipush 8, 2) := by decide +kernel
theorem dX1_init_7 : decode cX1_init 7 = .ok (.newarray .int, 2) := by decide +kernel
theorem dX1_init_9 : decode cX1_init 9 = .ok (.putfield 9, 3) := by decide +kernel
theorem dX1_init_12 : decode cX1_init 12 = .ok (.aload_n 0, 1) := by decide +kernel
theorem dX1_init_13 : decode cX1_init 13 = .ok (.bipush 8, 2) := by decide +kernel
theorem dX1_init_15 : decode cX1_init 15 = .ok (.newarray .int, 2) := by decide +kernel
theorem dX1_init_17 : decode cX1_init 17 = .ok (.putfield 15, 3) := by decide +kernel
theorem dX1_init_20 : decode cX1_init 20 = .ok (.aload_n 0, 1) := by decide +kernel
theorem dX1_init_21 : decode cX1_init 21 = .ok (.bipush 8, 2) := by decide +kernel
theorem dX1_init_23 : decode cX1_init 23 = .ok (.newarray .int, 2) := by decide +kernel
theorem dX1_init_25 : decode cX1_init 25 = .ok (.putfield 18, 3) := by decide +kernel
theorem dX1_init_28 : decode cX1_init 28 = .ok (.return_, 1) := by decide +kernel
theorem dX1_append_0 : decode cX1_append 0 = .ok (.aload_n 0, 1) := by decide +kernel
theorem dX1_append_1 : decode cX1_append 1 = .ok (.getfield 21, 3) := by decide +kernel
theorem dX1_append_4 : decode cX1_append 4 = .ok (.istore 4, 2) := by decide +kernel
theorem dX1_append_6 : decode cX1_append 6 = .ok (.aload_n 0, 1) := by decide +kernel
theorem dX1_append_7 : decode cX1_append 7 = .ok (.getfield 9, 3) := by decide +kernel
theorem dX1_append_10 : decode cX1_append 10 = .ok (.iload 4, 2) := by decide +kernel
theorem dX1_append_12 : decode cX1_append 12 = .ok (.iload_n 1, 1) := by decide +kernel
theorem dX1_append_13 : decode cX1_append 13 = .ok (.iastore, 1) := by decide +kernel
theorem dX1_append_14 : decode cX1_append 14 = .ok (.aload_n 0, 1) := by decide +kernel
theorem dX1_append_15 : decode cX1_append 15 = .ok (.getfield 15, 3) := by decide +kernel
theorem dX1_append_18 : decode cX1_append 18 = .ok (.iload 4, 2) := by decide +kernel
theorem dX1_append_20 : decode cX1_append 20 = .ok (.iload_n 2, 1) := by decide +kernel
theorem dX1_append_21 : decode cX1_append 21 = .ok (.iastore, 1) := by decide +kernel
theorem dX1_append_22 : decode cX1_append 22 = .ok (.aload_n 0, 1) := by decide +kernel
theorem dX1_append_23 : decode cX1_append 23 = .ok (.getfield 18, 3) := by decide +kernel
theorem dX1_append_26 : decode cX1_append 26 = .ok (.iload 4, 2) := by decide +kernel
theorem dX1_append_28 : decode cX1_append 28 = .ok (.iload_n 3, 1) := by decide +kernel
theorem dX1_append_29 : decode cX1_append 29 = .ok (.iastore, 1) := by decide +kernel
theorem dX1_append_30 : decode cX1_append 30 = .ok (.aload_n 0, 1) := by decide +kernel
theorem dX1_append_31 : decode cX1_append 31 = .ok (.dup, 1) := by decide +kernel
theorem dX1_append_32 : decode cX1_append 32 = .ok (.getfield 21, 3) := by decide +kernel
theorem dX1_append_35 : decode cX1_append 35 = .ok (.iconst 1, 1) := by decide +kernel
theorem dX1_append_36 : decode cX1_append 36 = .ok (.iadd, 1) := by decide +kernel
theorem dX1_append_37 : decode cX1_append 37 = .ok (.putfield 21, 3) := by decide +kernel
theorem dX1_append_40 : decode cX1_append 40 = .ok (.iload 4, 2) := by decide +kernel
theorem dX1_append_42 : decode cX1_append 42 = .ok (.ireturn, 1) := by decide +kernel
set_option maxRecDepth 20000 in
theorem ggX1_liveOn_X3_holds : GoodIn wsX1_liveOn wsX3_holds := goodIn_r _ [6, 7, 8, 5, 9] (by decide +kernel) (by decide +kernel)
set_option maxRecDepth 20000 in
theorem gX1_liveOn_X3_holds_n28 : GoodIn wsX1_liveOn (wsX3_holds) := ggX1_liveOn_X3_holds
theorem dX1_liveOn_0 : decode cX1_liveOn 0 = .ok (.aload_n 0, 1) := by decide +kernel
theorem dX1_liveOn_1 : decode cX1_liveOn 1 = .ok (.getfield 15, 3) := by decide +kernel
theorem dX1_liveOn_4 : decode cX1_liveOn 4 = .ok (.iload_n 1, 1) := by decide +kernel
theorem dX1_liveOn_5 : decode cX1_liveOn 5 = .ok (.iaload, 1) := by decide +kernel
theorem dX1_liveOn_6 : decode cX1_liveOn 6 = .ok (.iload_n 2, 1) := by decide +kernel
theorem dX1_liveOn_7 : decode cX1_liveOn 7 = .ok (.if_icmp .gt 28, 3) := by decide +kernel
theorem dX1_liveOn_10 : decode cX1_liveOn 10 = .ok (.iload_n 2, 1) := by decide +kernel
theorem dX1_liveOn_11 : decode cX1_liveOn 11 = .ok (.aload_n 0, 1) := by decide +kernel
theorem dX1_liveOn_12 : decode cX1_liveOn 12 = .ok (.getfield 18, 3) := by decide +kernel
theorem dX1_liveOn_15 : decode cX1_liveOn 15 = .ok (.iload_n 1, 1) := by decide +kernel
theorem dX1_liveOn_16 : decode cX1_liveOn 16 = .ok (.iaload, 1) := by decide +kernel
theorem dX1_liveOn_17 : decode cX1_liveOn 17 = .ok (.if_icmp .gt 18, 3) := by decide +kernel
theorem dX1_liveOn_20 : decode cX1_liveOn 20 = .ok (.aload_n 0, 1) := by decide +kernel
theorem dX1_liveOn_21 : decode cX1_liveOn 21 = .ok (.getfield 25, 3) := by decide +kernel
theorem dX1_liveOn_24 : decode cX1_liveOn 24 = .ok (.iload_n 1, 1) := by decide +kernel
theorem dX1_liveOn_25 : decode cX1_liveOn 25 = .ok (.invokestatic 28, 3) := by decide +kernel
theorem dX1_liveOn_28 : decode cX1_liveOn 28 = .ok (.ifCond .ne 7, 3) := by decide +kernel
theorem dX1_liveOn_31 : decode cX1_liveOn 31 = .ok (.iconst 1, 1) := by decide +kernel
theorem dX1_liveOn_32 : decode cX1_liveOn 32 = .ok (.goto 4, 3) := by decide +kernel
theorem dX1_liveOn_35 : decode cX1_liveOn 35 = .ok (.iconst 0, 1) := by decide +kernel
theorem dX1_liveOn_36 : decode cX1_liveOn 36 = .ok (.ireturn, 1) := by decide +kernel
set_option maxRecDepth 20000 in
theorem ggX1_live_X1_liveOn : GoodIn wsX1_live wsX1_liveOn := goodIn_r _ [6, 7, 8, 9, 10, 11, 12, 13, 14, 15, 16, 17, 18, 19, 20] (by decide +kernel) (by decide +kernel)
set_option maxRecDepth 20000 in
theorem gX1_live_X1_liveOn : GoodIn wsX1_live (wsV RX1 32 RX1 yX1_liveOn wsX1_liveOn) := goodIn_app (goodIn_of _ (by decide +kernel)) ggX1_live_X1_liveOn
set_option maxRecDepth 20000 in
theorem ggX1_live_X3_only : GoodIn wsX1_live wsX3_only := goodIn_r _ [15] (by decide +kernel) (by decide +kernel)
set_option maxRecDepth 20000 in
theorem gX1_live_X3_only_n35 : GoodIn wsX1_live (wsX3_only) := ggX1_live_X3_only
theorem dX1_live_0 : decode cX1_live 0 = .ok (.iconst 0, 1) := by decide +kernel
theorem dX1_live_1 : decode cX1_live 1 = .ok (.istore_n 2, 1) := by decide +kernel
theorem dX1_live_2 : decode cX1_live 2 = .ok (.iconst 0, 1) := by decide +kernel
theorem dX1_live_3 : decode cX1_live 3 = .ok (.istore_n 3, 1) := by decide +kernel
theorem dX1_live_4 : decode cX1_live 4 = .ok (.iload_n 3, 1) := by decide +kernel
theorem dX1_live_5 : decode cX1_live 5 = .ok (.aload_n 0, 1) := by decide +kernel
theorem dX1_live_6 : decode cX1_live 6 = .ok (.getfield 21, 3) := by decide +kernel
theorem dX1_live_9 : decode cX1_live 9 = .ok (.if_icmp .ge 25, 3) := by decide +kernel
theorem dX1_live_12 : decode cX1_live 12 = .ok (.aload_n 0, 1) := by decide +kernel
theorem dX1_live_13 : decode cX1_live 13 = .ok (.iload_n 3, 1) := by decide +kernel
theorem dX1_live_14 : decode cX1_live 14 = .ok (.iload_n 1, 1) := by decide +kernel
theorem dX1_live_15 : decode cX1_live 15 = .ok (.invokevirtual 32, 3) := by decide +kernel
theorem dX1_live_18 : decode cX1_live 18 = .ok (.ifCond .eq 10, 3) := by decide +kernel
theorem dX1_live_21 : decode cX1_live 21 = .ok (.iload_n 2, 1) := by decide +kernel
theorem dX1_live_22 : decode cX1_live 22 = .ok (.iload_n 3, 1) := by decide +kernel
theorem dX1_live_23 : decode cX1_live 23 = .ok (.invokestatic 35, 3) := by decide +kernel
theorem dX1_live_26 : decode cX1_live 26 = .ok (.ior, 1) := by decide +kernel
theorem dX1_live_27 : decode cX1_live 27 = .ok (.istore_n 2, 1) := by decide +kernel
theorem dX1_live_28 : decode cX1_live 28 = .ok (.iinc 3 1, 3) := by decide +kernel
theorem dX1_live_31 : decode cX1_live 31 = .ok (.goto (-27), 3) := by decide +kernel
theorem dX1_live_34 : decode cX1_live 34 = .ok (.iload_n 2, 1) := by decide +kernel
theorem dX1_live_35 : decode cX1_live 35 = .ok (.ireturn, 1) := by decide +kernel
set_option maxRecDepth 20000 in
theorem ggX1_signersOf_X3_holds : GoodIn wsX1_signersOf wsX3_holds := goodIn_r _ [5, 6, 7, 4, 8] (by decide +kernel) (by decide +kernel)
set_option maxRecDepth 20000 in
theorem gX1_signersOf_X3_holds_n28 : GoodIn wsX1_signersOf (wsX3_holds) := ggX1_signersOf_X3_holds
set_option maxRecDepth 20000 in
theorem ggX1_signersOf_X3_only : GoodIn wsX1_signersOf wsX3_only := goodIn_r _ [8] (by decide +kernel) (by decide +kernel)
set_option maxRecDepth 20000 in
theorem gX1_signersOf_X3_only_n35 : GoodIn wsX1_signersOf (wsX3_only) := ggX1_signersOf_X3_only
theorem dX1_signersOf_0 : decode cX1_signersOf 0 = .ok (.iconst 0, 1) := by decide +kernel
theorem dX1_signersOf_1 : decode cX1_signersOf 1 = .ok (.istore_n 2, 1) := by decide +kernel
theorem dX1_signersOf_2 : decode cX1_signersOf 2 = .ok (.iconst 0, 1) := by decide +kernel
theorem dX1_signersOf_3 : decode cX1_signersOf 3 = .ok (.istore_n 3, 1) := by decide +kernel
theorem dX1_signersOf_4 : decode cX1_signersOf 4 = .ok (.iload_n 3, 1) := by decide +kernel
theorem dX1_signersOf_5 : decode cX1_signersOf 5 = .ok (.aload_n 0, 1) := by decide +kernel
theorem dX1_signersOf_6 : decode cX1_signersOf 6 = .ok (.getfield 21, 3) := by decide +kernel
theorem dX1_signersOf_9 : decode cX1_signersOf 9 = .ok (.if_icmp .ge 29, 3) := by decide +kernel
theorem dX1_signersOf_12 : decode cX1_signersOf 12 = .ok (.iload_n 1, 1) := by decide +kernel
theorem dX1_signersOf_13 : decode cX1_signersOf 13 = .ok (.iload_n 3, 1) := by decide +kernel
theorem dX1_signersOf_14 : decode cX1_signersOf 14 = .ok (.invokestatic 28, 3) := by decide +kernel
theorem dX1_signersOf_17 : decode cX1_signersOf 17 = .ok (.ifCond .eq 15, 3) := by decide +kernel
theorem dX1_signersOf_20 : decode cX1_signersOf 20 = .ok (.iload_n 2, 1) := by decide +kernel
theorem dX1_signersOf_21 : decode cX1_signersOf 21 = .ok (.aload_n 0, 1) := by decide +kernel
theorem dX1_signersOf_22 : decode cX1_signersOf 22 = .ok (.getfield 9, 3) := by decide +kernel
theorem dX1_signersOf_25 : decode cX1_signersOf 25 = .ok (.iload_n 3, 1) := by decide +kernel
theorem dX1_signersOf_26 : decode cX1_signersOf 26 = .ok (.iaload, 1) := by decide +kernel
theorem dX1_signersOf_27 : decode cX1_signersOf 27 = .ok (.invokestatic 35, 3) := by decide +kernel
theorem dX1_signersOf_30 : decode cX1_signersOf 30 = .ok (.ior, 1) := by decide +kernel
theorem dX1_signersOf_31 : decode cX1_signersOf 31 = .ok (.istore_n 2, 1) := by decide +kernel
theorem dX1_signersOf_32 : decode cX1_signersOf 32 = .ok (.iinc 3 1, 3) := by decide +kernel
theorem dX1_signersOf_35 : decode cX1_signersOf 35 = .ok (.goto (-31), 3) := by decide +kernel
theorem dX1_signersOf_38 : decode cX1_signersOf 38 = .ok (.iload_n 2, 1) := by decide +kernel
theorem dX1_signersOf_39 : decode cX1_signersOf 39 = .ok (.ireturn, 1) := by decide +kernel
theorem dX2_init_0 : decode cX2_init 0 = .ok (.aload_n 0, 1) := by decide +kernel
theorem dX2_init_1 : decode cX2_init 1 = .ok (.invokespecial 3, 3) := by decide +kernel
theorem dX2_init_4 : decode cX2_init 4 = .ok (.aload_n 0, 1) := by decide +kernel
theorem dX2_init_5 : decode cX2_init 5 = .ok (.iconst 3, 1) := by decide +kernel
theorem dX2_init_6 : decode cX2_init 6 = .ok (.newarray .int, 2) := by decide +kernel
theorem dX2_init_8 : decode cX2_init 8 = .ok (.putfield 9, 3) := by decide +kernel
theorem dX2_init_11 : decode cX2_init 11 = .ok (.aload_n 0, 1) := by decide +kernel
theorem dX2_init_12 : decode cX2_init 12 = .ok (.iconst 3, 1) := by decide +kernel
theorem dX2_init_13 : decode cX2_init 13 = .ok (.newarray .int, 2) := by decide +kernel
theorem dX2_init_15 : decode cX2_init 15 = .ok (.putfield 15, 3) := by decide +kernel
theorem dX2_init_18 : decode cX2_init 18 = .ok (.return_, 1) := by decide +kernel
theorem dX2_append_0 : decode cX2_append 0 = .ok (.aload_n 0, 1) := by decide +kernel
theorem dX2_append_1 : decode cX2_append 1 = .ok (.getfield 18, 3) := by decide +kernel
theorem dX2_append_4 : decode cX2_append 4 = .ok (.istore_n 1, 1) := by decide +kernel
theorem dX2_append_5 : decode cX2_append 5 = .ok (.aload_n 0, 1) := by decide +kernel
theorem dX2_append_6 : decode cX2_append 6 = .ok (.getfield 9, 3) := by decide +kernel
theorem dX2_append_9 : decode cX2_append 9 = .ok (.iload_n 1, 1) := by decide +kernel
theorem dX2_append_10 : decode cX2_append 10 = .ok (.iconst (-1), 1) := by decide +kernel
theorem dX2_append_11 : decode cX2_append 11 = .ok (.iastore, 1) := by decide +kernel
theorem dX2_append_12 : decode cX2_append 12 = .ok (.aload_n 0, 1) := by decide +kernel
theorem dX2_append_13 : decode cX2_append 13 = .ok (.getfield 15, 3) := by decide +kernel
theorem dX2_append_16 : decode cX2_append 16 = .ok (.iload_n 1, 1) := by decide +kernel
theorem dX2_append_17 : decode cX2_append 17 = .ok (.iconst 0, 1) := by decide +kernel
theorem dX2_append_18 : decode cX2_append 18 = .ok (.iastore, 1) := by decide +kernel
theorem dX2_append_19 : decode cX2_append 19 = .ok (.aload_n 0, 1) := by decide +kernel
theorem dX2_append_20 : decode cX2_append 20 = .ok (.dup, 1) := by decide +kernel
theorem dX2_append_21 : decode cX2_append 21 = .ok (.getfield 18, 3) := by decide +kernel
theorem dX2_append_24 : decode cX2_append 24 = .ok (.iconst 1, 1) := by decide +kernel
theorem dX2_append_25 : decode cX2_append 25 = .ok (.iadd, 1) := by decide +kernel
theorem dX2_append_26 : decode cX2_append 26 = .ok (.putfield 18, 3) := by decide +kernel
theorem dX2_append_29 : decode cX2_append 29 = .ok (.iload_n 1, 1) := by decide +kernel
theorem dX2_append_30 : decode cX2_append 30 = .ok (.ireturn, 1) := by decide +kernel
set_option maxRecDepth 20000 in
theorem ggX3_init_X1_init : GoodIn wsX3_init wsX1_init := goodIn_r _ [22, 23, 2, 3, 16, 24, 25, 26, 43, 44, 45, 46, 47] (by decide +kernel) (by decide +kernel)
set_option maxRecDepth 20000 in
theorem gX3_init_X1_init_n9 : GoodIn wsX3_init (wsX1_init) := ggX3_init_X1_init
set_option maxRecDepth 20000 in
theorem ggX3_init_X0_init : GoodIn wsX3_init wsX0_init := goodIn_r _ [28, 29, 2, 3, 16, 30, 31, 32, 33, 34, 35, 36, 37, 55, 56, 57, 58, 59, 60, 61, 62, 63, 64] (by decide +kernel) (by decide +kernel)
set_option maxRecDepth 20000 in
theorem gX3_init_X0_init_n18 : GoodIn wsX3_init (wsX0_init) := ggX3_init_X0_init
set_option maxRecDepth 20000 in
theorem ggX3_init_X2_init : GoodIn wsX3_init wsX2_init := goodIn_r _ [39, 40, 2, 3, 16, 41, 42, 65, 66, 67] (by decide +kernel) (by decide +kernel)
set_option maxRecDepth 20000 in
theorem gX3_init_X2_init_n25 : GoodIn wsX3_init (wsX2_init) := ggX3_init_X2_init
