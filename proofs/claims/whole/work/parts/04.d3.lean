theorem dX3_init_0 : decode cX3_init 0 = .ok (.aload_n 0, 1) := by decide +kernel
theorem dX3_init_1 : decode cX3_init 1 = .ok (.invokespecial 1, 3) := by decide +kernel
theorem dX3_init_4 : decode cX3_init 4 = .ok (.aload_n 0, 1) := by decide +kernel
theorem dX3_init_5 : decode cX3_init 5 = .ok (.new 7, 3) := by decide +kernel
theorem dX3_init_8 : decode cX3_init 8 = .ok (.dup, 1) := by decide +kernel
theorem dX3_init_9 : decode cX3_init 9 = .ok (.invokespecial 9, 3) := by decide +kernel
theorem dX3_init_12 : decode cX3_init 12 = .ok (.putfield 10, 3) := by decide +kernel
theorem dX3_init_15 : decode cX3_init 15 = .ok (.aload_n 0, 1) := by decide +kernel
theorem dX3_init_16 : decode cX3_init 16 = .ok (.new 16, 3) := by decide +kernel
theorem dX3_init_19 : decode cX3_init 19 = .ok (.dup, 1) := by decide +kernel
theorem dX3_init_20 : decode cX3_init 20 = .ok (.invokespecial 18, 3) := by decide +kernel
theorem dX3_init_23 : decode cX3_init 23 = .ok (.putfield 19, 3) := by decide +kernel
theorem dX3_init_26 : decode cX3_init 26 = .ok (.aload_n 0, 1) := by decide +kernel
theorem dX3_init_27 : decode cX3_init 27 = .ok (.new 23, 3) := by decide +kernel
theorem dX3_init_30 : decode cX3_init 30 = .ok (.dup, 1) := by decide +kernel
theorem dX3_init_31 : decode cX3_init 31 = .ok (.invokespecial 25, 3) := by decide +kernel
theorem dX3_init_34 : decode cX3_init 34 = .ok (.putfield 26, 3) := by decide +kernel
theorem dX3_init_37 : decode cX3_init 37 = .ok (.aload_n 0, 1) := by decide +kernel
theorem dX3_init_38 : decode cX3_init 38 = .ok (.iconst 4, 1) := by decide +kernel
theorem dX3_init_39 : decode cX3_init 39 = .ok (.newarray .int, 2) := by decide +kernel
theorem dX3_init_41 : decode cX3_init 41 = .ok (.putfield 30, 3) := by decide +kernel
theorem dX3_init_44 : decode cX3_init 44 = .ok (.aload_n 0, 1) := by decide +kernel
theorem dX3_init_45 : decode cX3_init 45 = .ok (.iconst 5, 1) := by decide +kernel
theorem dX3_init_46 : decode cX3_init 46 = .ok (.newarray .int, 2) := by decide +kernel
theorem dX3_init_48 : decode cX3_init 48 = .ok (.putfield 34, 3) := by decide +kernel
theorem dX3_init_51 : decode cX3_init 51 = .ok (.aload_n 0, 1) := by decide +kernel
theorem dX3_init_52 : decode cX3_init 52 = .ok (.bipush 7, 2) := by decide +kernel
theorem dX3_init_54 : decode cX3_init 54 = .ok (.putfield 37, 3) := by decide +kernel
theorem dX3_init_57 : decode cX3_init 57 = .ok (.aload_n 0, 1) := by decide +kernel
theorem dX3_init_58 : decode cX3_init 58 = .ok (.iconst 0, 1) := by decide +kernel
theorem dX3_init_59 : decode cX3_init 59 = .ok (.putfield 41, 3) := by decide +kernel
theorem dX3_init_62 : decode cX3_init 62 = .ok (.iconst 0, 1) := by decide +kernel
theorem dX3_init_63 : decode cX3_init 63 = .ok (.istore_n 1, 1) := by decide +kernel
theorem dX3_init_64 : decode cX3_init 64 = .ok (.iload_n 1, 1) := by decide +kernel
theorem dX3_init_65 : decode cX3_init 65 = .ok (.iconst 4, 1) := by decide +kernel
theorem dX3_init_66 : decode cX3_init 66 = .ok (.if_icmp .ge 17, 3) := by decide +kernel
theorem dX3_init_69 : decode cX3_init 69 = .ok (.aload_n 0, 1) := by decide +kernel
theorem dX3_init_70 : decode cX3_init 70 = .ok (.getfield 30, 3) := by decide +kernel
theorem dX3_init_73 : decode cX3_init 73 = .ok (.iload_n 1, 1) := by decide +kernel
theorem dX3_init_74 : decode cX3_init 74 = .ok (.bipush 50, 2) := by decide +kernel
theorem dX3_init_76 : decode cX3_init 76 = .ok (.iastore, 1) := by decide +kernel
theorem dX3_init_77 : decode cX3_init 77 = .ok (.iinc 1 1, 3) := by decide +kernel
theorem dX3_init_80 : decode cX3_init 80 = .ok (.goto (-16), 3) := by decide +kernel
theorem dX3_init_83 : decode cX3_init 83 = .ok (.iconst 0, 1) := by decide +kernel
theorem dX3_init_84 : decode cX3_init 84 = .ok (.istore_n 1, 1) := by decide +kernel
theorem dX3_init_85 : decode cX3_init 85 = .ok (.iload_n 1, 1) := by decide +kernel
theorem dX3_init_86 : decode cX3_init 86 = .ok (.iconst 5, 1) := by decide +kernel
theorem dX3_init_87 : decode cX3_init 87 = .ok (.if_icmp .ge 17, 3) := by decide +kernel
theorem dX3_init_90 : decode cX3_init 90 = .ok (.aload_n 0, 1) := by decide +kernel
theorem dX3_init_91 : decode cX3_init 91 = .ok (.getfield 34, 3) := by decide +kernel
theorem dX3_init_94 : decode cX3_init 94 = .ok (.iload_n 1, 1) := by decide +kernel
theorem dX3_init_95 : decode cX3_init 95 = .ok (.bipush 100, 2) := by decide +kernel
theorem dX3_init_97 : decode cX3_init 97 = .ok (.iastore, 1) := by decide +kernel
theorem dX3_init_98 : decode cX3_init 98 = .ok (.iinc 1 1, 3) := by decide +kernel
theorem dX3_init_101 : decode cX3_init 101 = .ok (.goto (-16), 3) := by decide +kernel
theorem dX3_init_104 : decode cX3_init 104 = .ok (.return_, 1) := by decide +kernel
set_option maxRecDepth 20000 in
theorem ggX3_addKey_X3_requireSigner : GoodIn wsX3_addKey wsX3_requireSigner := goodIn_ca (goodIn_r _ [11, 1, 2] (by decide +kernel) (by decide +kernel)) (goodIn_sub (fun _ h => List.mem_cons_of_mem _ (List.mem_append_left _ (List.mem_append_right _ h))) (by decide +kernel))
set_option maxRecDepth 20000 in
theorem gX3_addKey_X3_requireSigner : GoodIn wsX3_addKey (wsV RX3 44 RX3 yX3_requireSigner wsX3_requireSigner) := goodIn_app (goodIn_of _ (by decide +kernel)) ggX3_addKey_X3_requireSigner
set_option maxRecDepth 20000 in
theorem ggX3_addKey_X1_append : GoodIn wsX3_addKey wsX1_append := goodIn_r _ [15, 16, 17, 18, 19, 27, 28, 29, 30, 31] (by decide +kernel) (by decide +kernel)
set_option maxRecDepth 20000 in
theorem gX3_addKey_X1_append_n63 : GoodIn wsX3_addKey (wsX1_append) := ggX3_addKey_X1_append
theorem dX3_addKey_0 : decode cX3_addKey 0 = .ok (.aload_n 0, 1) := by decide +kernel
theorem dX3_addKey_1 : decode cX3_addKey 1 = .ok (.iload_n 1, 1) := by decide +kernel
theorem dX3_addKey_2 : decode cX3_addKey 2 = .ok (.invokevirtual 44, 3) := by decide +kernel
theorem dX3_addKey_5 : decode cX3_addKey 5 = .ok (.iload_n 2, 1) := by decide +kernel
theorem dX3_addKey_6 : decode cX3_addKey 6 = .ok (.aload_n 0, 1) := by decide +kernel
theorem dX3_addKey_7 : decode cX3_addKey 7 = .ok (.getfield 41, 3) := by decide +kernel
theorem dX3_addKey_10 : decode cX3_addKey 10 = .ok (.if_icmp .lt 15, 3) := by decide +kernel
theorem dX3_addKey_13 : decode cX3_addKey 13 = .ok (.iload_n 3, 1) := by decide +kernel
theorem dX3_addKey_14 : decode cX3_addKey 14 = .ok (.iload_n 2, 1) := by decide +kernel
theorem dX3_addKey_15 : decode cX3_addKey 15 = .ok (.if_icmp .lt 10, 3) := by decide +kernel
theorem dX3_addKey_18 : decode cX3_addKey 18 = .ok (.iload_n 3, 1) := by decide +kernel
theorem dX3_addKey_19 : decode cX3_addKey 19 = .ok (.sipush 999, 3) := by decide +kernel
theorem dX3_addKey_22 : decode cX3_addKey 22 = .ok (.if_icmp .le 13, 3) := by decide +kernel
theorem dX3_addKey_25 : decode cX3_addKey 25 = .ok (.new 48, 3) := by decide +kernel
theorem dX3_addKey_28 : decode cX3_addKey 28 = .ok (.dup, 1) := by decide +kernel
theorem dX3_addKey_29 : decode cX3_addKey 29 = .ok (.ldc 50, 2) := by decide +kernel
theorem dX3_addKey_31 : decode cX3_addKey 31 = .ok (.invokespecial 52, 3) := by decide +kernel
theorem dX3_addKey_34 : decode cX3_addKey 34 = .ok (.athrow, 1) := by decide +kernel
theorem dX3_addKey_35 : decode cX3_addKey 35 = .ok (.aload_n 0, 1) := by decide +kernel
theorem dX3_addKey_36 : decode cX3_addKey 36 = .ok (.getfield 10, 3) := by decide +kernel
theorem dX3_addKey_39 : decode cX3_addKey 39 = .ok (.getfield 55, 3) := by decide +kernel
theorem dX3_addKey_42 : decode cX3_addKey 42 = .ok (.bipush 8, 2) := by decide +kernel
theorem dX3_addKey_44 : decode cX3_addKey 44 = .ok (.if_icmp .lt 13, 3) := by decide +kernel
theorem dX3_addKey_47 : decode cX3_addKey 47 = .ok (.new 58, 3) := by decide +kernel
theorem dX3_addKey_50 : decode cX3_addKey 50 = .ok (.dup, 1) := by decide +kernel
theorem dX3_addKey_51 : decode cX3_addKey 51 = .ok (.ldc 60, 2) := by decide +kernel
theorem dX3_addKey_53 : decode cX3_addKey 53 = .ok (.invokespecial 62, 3) := by decide +kernel
theorem dX3_addKey_56 : decode cX3_addKey 56 = .ok (.athrow, 1) := by decide +kernel
theorem dX3_addKey_57 : decode cX3_addKey 57 = .ok (.aload_n 0, 1) := by decide +kernel
theorem dX3_addKey_58 : decode cX3_addKey 58 = .ok (.getfield 10, 3) := by decide +kernel
theorem dX3_addKey_61 : decode cX3_addKey 61 = .ok (.iload_n 1, 1) := by decide +kernel
theorem dX3_addKey_62 : decode cX3_addKey 62 = .ok (.iload_n 2, 1) := by decide +kernel
theorem dX3_addKey_63 : decode cX3_addKey 63 = .ok (.iload_n 3, 1) := by decide +kernel
theorem dX3_addKey_64 : decode cX3_addKey 64 = .ok (.invokevirtual 63, 3) := by decide +kernel
theorem dX3_addKey_67 : decode cX3_addKey 67 = .ok (.ireturn, 1) := by decide +kernel
set_option maxRecDepth 20000 in
theorem ggX3_loseKey_X3_requireKey : GoodIn wsX3_loseKey wsX3_requireKey := goodIn_ca (goodIn_r _ [10, 11, 12, 3, 64, 65, 66, 67, 68, 69, 70, 71, 72, 73, 74, 75] (by decide +kernel) (by decide +kernel)) (goodIn_sub (fun _ h => List.mem_cons_of_mem _ (List.mem_append_right _ h)) (by decide +kernel))
set_option maxRecDepth 20000 in
theorem gX3_loseKey_X3_requireKey : GoodIn wsX3_loseKey (wsV RX3 67 RX3 yX3_requireKey wsX3_requireKey) := goodIn_app (goodIn_of _ (by decide +kernel)) ggX3_loseKey_X3_requireKey
set_option maxRecDepth 20000 in
theorem ggX3_loseKey_X3_holds : GoodIn wsX3_loseKey wsX3_holds := goodIn_r _ [15, 16, 17, 9, 18] (by decide +kernel) (by decide +kernel)
set_option maxRecDepth 20000 in
theorem gX3_loseKey_X3_holds : GoodIn wsX3_loseKey (va_wsS RX3 73 yX3_holds wsX3_holds) := goodIn_app (goodIn_of _ (by decide +kernel)) ggX3_loseKey_X3_holds
set_option maxRecDepth 20000 in
theorem ggX3_loseKey_X3_trustedBuilds : GoodIn wsX3_loseKey wsX3_trustedBuilds := goodIn_r _ [22, 4, 23, 24, 25, 9, 26, 27, 28, 29, 30, 31, 32, 33, 13, 14, 15, 16, 17, 18, 64, 65, 66, 67, 68, 69, 70, 76, 77, 78, 79, 80, 81, 82, 83, 84, 85] (by decide +kernel) (by decide +kernel)
set_option maxRecDepth 20000 in
theorem gX3_loseKey_X3_trustedBuilds : GoodIn wsX3_loseKey (wsV RX3 79 RX3 yX3_trustedBuilds wsX3_trustedBuilds) := goodIn_app (goodIn_of _ (by decide +kernel)) ggX3_loseKey_X3_trustedBuilds
set_option maxRecDepth 20000 in
theorem ggX3_loseKey_X3_only : GoodIn wsX3_loseKey wsX3_only := goodIn_r _ [18] (by decide +kernel) (by decide +kernel)
set_option maxRecDepth 20000 in
theorem gX3_loseKey_X3_only : GoodIn wsX3_loseKey (va_wsS RX3 83 yX3_only wsX3_only) := goodIn_app (goodIn_of _ (by decide +kernel)) ggX3_loseKey_X3_only
set_option maxRecDepth 20000 in
theorem ggX3_loseKey_X0_keepVouchers : GoodIn wsX3_loseKey wsX0_keepVouchers := goodIn_r _ [37, 38, 39, 40, 41, 42, 43, 44, 45, 46, 47, 48, 49, 50, 51, 52, 14, 9, 15, 16, 17, 18, 53, 54, 55, 56, 76, 77, 78, 79, 80, 81, 82, 83, 84, 85, 71, 72, 73, 74, 75] (by decide +kernel) (by decide +kernel)
set_option maxRecDepth 20000 in
theorem gX3_loseKey_X0_keepVouchers_n87 : GoodIn wsX3_loseKey (wsX0_keepVouchers) := ggX3_loseKey_X0_keepVouchers
set_option maxRecDepth 20000 in
theorem ggX3_loseKey_J6_bitCount_0f7a4 : GoodIn wsX3_loseKey wsJ6_bitCount_0f7a4 := goodIn_r _ [60, 61, 62, 63] (by decide +kernel) (by decide +kernel)
set_option maxRecDepth 20000 in
theorem gX3_loseKey_J6_bitCount_0f7a4 : GoodIn wsX3_loseKey (va_wsS RX3 91 yJ6_bitCount_0f7a4 wsJ6_bitCount_0f7a4) := goodIn_app (goodIn_of _ (by decide +kernel)) ggX3_loseKey_J6_bitCount_0f7a4
theorem dX3_loseKey_0 : decode cX3_loseKey 0 = .ok (.aload_n 0, 1) := by decide +kernel
theorem dX3_loseKey_1 : decode cX3_loseKey 1 = .ok (.iload_n 1, 1) := by decide +kernel
theorem dX3_loseKey_2 : decode cX3_loseKey 2 = .ok (.invokevirtual 67, 3) := by decide +kernel
theorem dX3_loseKey_5 : decode cX3_loseKey 5 = .ok (.aload_n 0, 1) := by decide +kernel
theorem dX3_loseKey_6 : decode cX3_loseKey 6 = .ok (.getfield 10, 3) := by decide +kernel
theorem dX3_loseKey_9 : decode cX3_loseKey 9 = .ok (.getfield 70, 3) := by decide +kernel
theorem dX3_loseKey_12 : decode cX3_loseKey 12 = .ok (.iload_n 1, 1) := by decide +kernel
theorem dX3_loseKey_13 : decode cX3_loseKey 13 = .ok (.invokestatic 73, 3) := by decide +kernel
theorem dX3_loseKey_16 : decode cX3_loseKey 16 = .ok (.ifCond .eq 13, 3) := by decide +kernel
theorem dX3_loseKey_19 : decode cX3_loseKey 19 = .ok (.new 58, 3) := by decide +kernel
theorem dX3_loseKey_22 : decode cX3_loseKey 22 = .ok (.dup, 1) := by decide +kernel
theorem dX3_loseKey_23 : decode cX3_loseKey 23 = .ok (.ldc 77, 2) := by decide +kernel
theorem dX3_loseKey_25 : decode cX3_loseKey 25 = .ok (.invokespecial 62, 3) := by decide +kernel
theorem dX3_loseKey_28 : decode cX3_loseKey 28 = .ok (.athrow, 1) := by decide +kernel
theorem dX3_loseKey_29 : decode cX3_loseKey 29 = .ok (.aload_n 0, 1) := by decide +kernel
theorem dX3_loseKey_30 : decode cX3_loseKey 30 = .ok (.invokevirtual 79, 3) := by decide +kernel
theorem dX3_loseKey_33 : decode cX3_loseKey 33 = .ok (.istore_n 2, 1) := by decide +kernel
theorem dX3_loseKey_34 : decode cX3_loseKey 34 = .ok (.aload_n 0, 1) := by decide +kernel
theorem dX3_loseKey_35 : decode cX3_loseKey 35 = .ok (.getfield 10, 3) := by decide +kernel
theorem dX3_loseKey_38 : decode cX3_loseKey 38 = .ok (.dup, 1) := by decide +kernel
theorem dX3_loseKey_39 : decode cX3_loseKey 39 = .ok (.getfield 70, 3) := by decide +kernel
theorem dX3_loseKey_42 : decode cX3_loseKey 42 = .ok (.iload_n 1, 1) := by decide +kernel
theorem dX3_loseKey_43 : decode cX3_loseKey 43 = .ok (.invokestatic 83, 3) := by decide +kernel
theorem dX3_loseKey_46 : decode cX3_loseKey 46 = .ok (.ior, 1) := by decide +kernel
theorem dX3_loseKey_47 : decode cX3_loseKey 47 = .ok (.putfield 70, 3) := by decide +kernel
theorem dX3_loseKey_50 : decode cX3_loseKey 50 = .ok (.aload_n 0, 1) := by decide +kernel
theorem dX3_loseKey_51 : decode cX3_loseKey 51 = .ok (.getfield 19, 3) := by decide +kernel
theorem dX3_loseKey_54 : decode cX3_loseKey 54 = .ok (.aload_n 0, 1) := by decide +kernel
theorem dX3_loseKey_55 : decode cX3_loseKey 55 = .ok (.getfield 10, 3) := by decide +kernel
theorem dX3_loseKey_58 : decode cX3_loseKey 58 = .ok (.aload_n 0, 1) := by decide +kernel
theorem dX3_loseKey_59 : decode cX3_loseKey 59 = .ok (.getfield 41, 3) := by decide +kernel
theorem dX3_loseKey_62 : decode cX3_loseKey 62 = .ok (.invokevirtual 87, 3) := by decide +kernel
theorem dX3_loseKey_65 : decode cX3_loseKey 65 = .ok (.iload_n 2, 1) := by decide +kernel
theorem dX3_loseKey_66 : decode cX3_loseKey 66 = .ok (.aload_n 0, 1) := by decide +kernel
theorem dX3_loseKey_67 : decode cX3_loseKey 67 = .ok (.invokevirtual 79, 3) := by decide +kernel
theorem dX3_loseKey_70 : decode cX3_loseKey 70 = .ok (.iconst (-1), 1) := by decide +kernel
theorem dX3_loseKey_71 : decode cX3_loseKey 71 = .ok (.ixor, 1) := by decide +kernel
theorem dX3_loseKey_72 : decode cX3_loseKey 72 = .ok (.iand, 1) := by decide +kernel
theorem dX3_loseKey_73 : decode cX3_loseKey 73 = .ok (.invokestatic 91, 3) := by decide +kernel
theorem dX3_loseKey_76 : decode cX3_loseKey 76 = .ok (.ireturn, 1) := by decide +kernel
set_option maxRecDepth 20000 in
theorem ggX3_extendKey_X3_requireKey : GoodIn wsX3_extendKey wsX3_requireKey := goodIn_ca (goodIn_r _ [11, 12, 13, 5, 20, 21, 22, 23, 24, 25, 26, 27, 28, 29, 30, 31] (by decide +kernel) (by decide +kernel)) (goodIn_sub (fun _ h => List.mem_cons_of_mem _ (List.mem_append_right _ h)) (by decide +kernel))
set_option maxRecDepth 20000 in
theorem gX3_extendKey_X3_requireKey : GoodIn wsX3_extendKey (wsV RX3 67 RX3 yX3_requireKey wsX3_requireKey) := goodIn_app (goodIn_of _ (by decide +kernel)) ggX3_extendKey_X3_requireKey
set_option maxRecDepth 20000 in
theorem ggX3_extendKey_X3_holds : GoodIn wsX3_extendKey wsX3_holds := goodIn_r _ [16, 17, 18, 10, 19] (by decide +kernel) (by decide +kernel)
set_option maxRecDepth 20000 in
theorem gX3_extendKey_X3_holds : GoodIn wsX3_extendKey (va_wsS RX3 73 yX3_holds wsX3_holds) := goodIn_app (goodIn_of _ (by decide +kernel)) ggX3_extendKey_X3_holds
theorem dX3_extendKey_0 : decode cX3_extendKey 0 = .ok (.aload_n 0, 1) := by decide +kernel
theorem dX3_extendKey_1 : decode cX3_extendKey 1 = .ok (.iload_n 1, 1) := by decide +kernel
theorem dX3_extendKey_2 : decode cX3_extendKey 2 = .ok (.invokevirtual 67, 3) := by decide +kernel
theorem dX3_extendKey_5 : decode cX3_extendKey 5 = .ok (.aload_n 0, 1) := by decide +kernel
theorem dX3_extendKey_6 : decode cX3_extendKey 6 = .ok (.getfield 10, 3) := by decide +kernel
theorem dX3_extendKey_9 : decode cX3_extendKey 9 = .ok (.getfield 96, 3) := by decide +kernel
theorem dX3_extendKey_12 : decode cX3_extendKey 12 = .ok (.iload_n 1, 1) := by decide +kernel
theorem dX3_extendKey_13 : decode cX3_extendKey 13 = .ok (.iaload, 1) := by decide +kernel
theorem dX3_extendKey_14 : decode cX3_extendKey 14 = .ok (.istore_n 3, 1) := by decide +kernel
theorem dX3_extendKey_15 : decode cX3_extendKey 15 = .ok (.iload_n 2, 1) := by decide +kernel
theorem dX3_extendKey_16 : decode cX3_extendKey 16 = .ok (.iload_n 3, 1) := by decide +kernel
theorem dX3_extendKey_17 : decode cX3_extendKey 17 = .ok (.if_icmp .le 10, 3) := by decide +kernel
theorem dX3_extendKey_20 : decode cX3_extendKey 20 = .ok (.iload_n 2, 1) := by decide +kernel
theorem dX3_extendKey_21 : decode cX3_extendKey 21 = .ok (.sipush 999, 3) := by decide +kernel
theorem dX3_extendKey_24 : decode cX3_extendKey 24 = .ok (.if_icmp .le 13, 3) := by decide +kernel
theorem dX3_extendKey_27 : decode cX3_extendKey 27 = .ok (.new 48, 3) := by decide +kernel
theorem dX3_extendKey_30 : decode cX3_extendKey 30 = .ok (.dup, 1) := by decide +kernel
theorem dX3_extendKey_31 : decode cX3_extendKey 31 = .ok (.ldc 99, 2) := by decide +kernel
theorem dX3_extendKey_33 : decode cX3_extendKey 33 = .ok (.invokespecial 52, 3) := by decide +kernel
theorem dX3_extendKey_36 : decode cX3_extendKey 36 = .ok (.athrow, 1) := by decide +kernel
theorem dX3_extendKey_37 : decode cX3_extendKey 37 = .ok (.aload_n 0, 1) := by decide +kernel
theorem dX3_extendKey_38 : decode cX3_extendKey 38 = .ok (.getfield 10, 3) := by decide +kernel
theorem dX3_extendKey_41 : decode cX3_extendKey 41 = .ok (.getfield 70, 3) := by decide +kernel
theorem dX3_extendKey_44 : decode cX3_extendKey 44 = .ok (.iload_n 1, 1) := by decide +kernel
theorem dX3_extendKey_45 : decode cX3_extendKey 45 = .ok (.invokestatic 73, 3) := by decide +kernel
theorem dX3_extendKey_48 : decode cX3_extendKey 48 = .ok (.ifCond .ne 11, 3) := by decide +kernel
theorem dX3_extendKey_51 : decode cX3_extendKey 51 = .ok (.iload_n 3, 1) := by decide +kernel
theorem dX3_extendKey_52 : decode cX3_extendKey 52 = .ok (.aload_n 0, 1) := by decide +kernel
theorem dX3_extendKey_53 : decode cX3_extendKey 53 = .ok (.getfield 41, 3) := by decide +kernel
theorem dX3_extendKey_56 : decode cX3_extendKey 56 = .ok (.if_icmp .ge 13, 3) := by decide +kernel
theorem dX3_extendKey_59 : decode cX3_extendKey 59 = .ok (.new 58, 3) := by decide +kernel
theorem dX3_extendKey_62 : decode cX3_extendKey 62 = .ok (.dup, 1) := by decide +kernel
theorem dX3_extendKey_63 : decode cX3_extendKey 63 = .ok (.ldc 101, 2) := by decide +kernel
theorem dX3_extendKey_65 : decode cX3_extendKey 65 = .ok (.invokespecial 62, 3) := by decide +kernel
theorem dX3_extendKey_68 : decode cX3_extendKey 68 = .ok (.athrow, 1) := by decide +kernel
theorem dX3_extendKey_69 : decode cX3_extendKey 69 = .ok (.aload_n 0, 1) := by decide +kernel
theorem dX3_extendKey_70 : decode cX3_extendKey 70 = .ok (.getfield 10, 3) := by decide +kernel
theorem dX3_extendKey_73 : decode cX3_extendKey 73 = .ok (.getfield 96, 3) := by decide +kernel
theorem dX3_extendKey_76 : decode cX3_extendKey 76 = .ok (.iload_n 1, 1) := by decide +kernel
theorem dX3_extendKey_77 : decode cX3_extendKey 77 = .ok (.iload_n 2, 1) := by decide +kernel
theorem dX3_extendKey_78 : decode cX3_extendKey 78 = .ok (.iastore, 1) := by decide +kernel
theorem dX3_extendKey_79 : decode cX3_extendKey 79 = .ok (.iload_n 3, 1) := by decide +kernel
theorem dX3_extendKey_80 : decode cX3_extendKey 80 = .ok (.ireturn, 1) := by decide +kernel
set_option maxRecDepth 20000 in
theorem ggX3_isLive_X3_requireKey : GoodIn wsX3_isLive wsX3_requireKey := goodIn_ca (goodIn_r _ [7, 8, 9, 1, 22, 23, 24, 25, 26, 27, 28, 29, 30, 31, 32, 33] (by decide +kernel) (by decide +kernel)) (goodIn_sub (fun _ h => List.mem_cons_of_mem _ (List.mem_append_right _ h)) (by decide +kernel))
set_option maxRecDepth 20000 in
theorem gX3_isLive_X3_requireKey : GoodIn wsX3_isLive (wsV RX3 67 RX3 yX3_requireKey wsX3_requireKey) := goodIn_app (goodIn_of _ (by decide +kernel)) ggX3_isLive_X3_requireKey
set_option maxRecDepth 20000 in
theorem ggX3_isLive_X1_liveOn : GoodIn wsX3_isLive wsX1_liveOn := goodIn_r _ [13, 14, 15, 16, 17, 6, 18, 19, 20, 21, 29, 30, 31, 32, 33] (by decide +kernel) (by decide +kernel)
set_option maxRecDepth 20000 in
theorem gX3_isLive_X1_liveOn_n103 : GoodIn wsX3_isLive (wsX1_liveOn) := ggX3_isLive_X1_liveOn
theorem dX3_isLive_0 : decode cX3_isLive 0 = .ok (.aload_n 0, 1) := by decide +kernel
theorem dX3_isLive_1 : decode cX3_isLive 1 = .ok (.iload_n 1, 1) := by decide +kernel
theorem dX3_isLive_2 : decode cX3_isLive 2 = .ok (.invokevirtual 67, 3) := by decide +kernel
theorem dX3_isLive_5 : decode cX3_isLive 5 = .ok (.aload_n 0, 1) := by decide +kernel
theorem dX3_isLive_6 : decode cX3_isLive 6 = .ok (.getfield 10, 3) := by decide +kernel
theorem dX3_isLive_9 : decode cX3_isLive 9 = .ok (.iload_n 1, 1) := by decide +kernel
theorem dX3_isLive_10 : decode cX3_isLive 10 = .ok (.aload_n 0, 1) := by decide +kernel
theorem dX3_isLive_11 : decode cX3_isLive 11 = .ok (.getfield 41, 3) := by decide +kernel
theorem dX3_isLive_14 : decode cX3_isLive 14 = .ok (.invokevirtual 103, 3) := by decide +kernel
theorem dX3_isLive_17 : decode cX3_isLive 17 = .ok (.ireturn, 1) := by decide +kernel
set_option maxRecDepth 20000 in
theorem ggX3_setWeight_X3_requireSigner : GoodIn wsX3_setWeight wsX3_requireSigner := goodIn_ca (goodIn_r _ [8, 1, 2] (by decide +kernel) (by decide +kernel)) (goodIn_sub (fun _ h => List.mem_cons_of_mem _ (List.mem_append_right _ h)) (by decide +kernel))
set_option maxRecDepth 20000 in
theorem gX3_setWeight_X3_requireSigner : GoodIn wsX3_setWeight (wsV RX3 44 RX3 yX3_requireSigner wsX3_requireSigner) := goodIn_app (goodIn_of _ (by decide +kernel)) ggX3_setWeight_X3_requireSigner
theorem dX3_setWeight_0 : decode cX3_setWeight 0 = .ok (.aload_n 0, 1) := by decide +kernel
theorem dX3_setWeight_1 : decode cX3_setWeight 1 = .ok (.iload_n 1, 1) := by decide +kernel
theorem dX3_setWeight_2 : decode cX3_setWeight 2 = .ok (.invokevirtual 44, 3) := by decide +kernel
theorem dX3_setWeight_5 : decode cX3_setWeight 5 = .ok (.iload_n 2, 1) := by decide +kernel
theorem dX3_setWeight_6 : decode cX3_setWeight 6 = .ok (.ifCond .lt 9, 3) := by decide +kernel
theorem dX3_setWeight_9 : decode cX3_setWeight 9 = .ok (.iload_n 2, 1) := by decide +kernel
theorem dX3_setWeight_10 : decode cX3_setWeight 10 = .ok (.bipush 100, 2) := by decide +kernel
theorem dX3_setWeight_12 : decode cX3_setWeight 12 = .ok (.if_icmp .le 13, 3) := by decide +kernel
theorem dX3_setWeight_15 : decode cX3_setWeight 15 = .ok (.new 48, 3) := by decide +kernel
theorem dX3_setWeight_18 : decode cX3_setWeight 18 = .ok (.dup, 1) := by decide +kernel
theorem dX3_setWeight_19 : decode cX3_setWeight 19 = .ok (.ldc 106, 2) := by decide +kernel
theorem dX3_setWeight_21 : decode cX3_setWeight 21 = .ok (.invokespecial 52, 3) := by decide +kernel
theorem dX3_setWeight_24 : decode cX3_setWeight 24 = .ok (.athrow, 1) := by decide +kernel
theorem dX3_setWeight_25 : decode cX3_setWeight 25 = .ok (.aload_n 0, 1) := by decide +kernel
theorem dX3_setWeight_26 : decode cX3_setWeight 26 = .ok (.getfield 30, 3) := by decide +kernel
theorem dX3_setWeight_29 : decode cX3_setWeight 29 = .ok (.iload_n 1, 1) := by decide +kernel
theorem dX3_setWeight_30 : decode cX3_setWeight 30 = .ok (.iaload, 1) := by decide +kernel
theorem dX3_setWeight_31 : decode cX3_setWeight 31 = .ok (.istore_n 3, 1) := by decide +kernel
theorem dX3_setWeight_32 : decode cX3_setWeight 32 = .ok (.aload_n 0, 1) := by decide +kernel
theorem dX3_setWeight_33 : decode cX3_setWeight 33 = .ok (.getfield 30, 3) := by decide +kernel
theorem dX3_setWeight_36 : decode cX3_setWeight 36 = .ok (.iload_n 1, 1) := by decide +kernel
theorem dX3_setWeight_37 : decode cX3_setWeight 37 = .ok (.iload_n 2, 1) := by decide +kernel
theorem dX3_setWeight_38 : decode cX3_setWeight 38 = .ok (.iastore, 1) := by decide +kernel
theorem dX3_setWeight_39 : decode cX3_setWeight 39 = .ok (.iload_n 3, 1) := by decide +kernel
theorem dX3_setWeight_40 : decode cX3_setWeight 40 = .ok (.ireturn, 1) := by decide +kernel
set_option maxRecDepth 20000 in
theorem ggX3_setThreshold_X3_requireName : GoodIn wsX3_setThreshold wsX3_requireName := goodIn_ca (goodIn_r _ [8, 1, 2] (by decide +kernel) (by decide +kernel)) (goodIn_sub (fun _ h => List.mem_cons_of_mem _ (List.mem_append_right _ h)) (by decide +kernel))
set_option maxRecDepth 20000 in
theorem gX3_setThreshold_X3_requireName : GoodIn wsX3_setThreshold (wsV RX3 108 RX3 yX3_requireName wsX3_requireName) := goodIn_app (goodIn_of _ (by decide +kernel)) ggX3_setThreshold_X3_requireName
theorem dX3_setThreshold_0 : decode cX3_setThreshold 0 = .ok (.aload_n 0, 1) := by decide +kernel
theorem dX3_setThreshold_1 : decode cX3_setThreshold 1 = .ok (.iload_n 1, 1) := by decide +kernel
theorem dX3_setThreshold_2 : decode cX3_setThreshold 2 = .ok (.invokevirtual 108, 3) := by decide +kernel
theorem dX3_setThreshold_5 : decode cX3_setThreshold 5 = .ok (.iload_n 2, 1) := by decide +kernel
theorem dX3_setThreshold_6 : decode cX3_setThreshold 6 = .ok (.iconst 1, 1) := by decide +kernel
theorem dX3_setThreshold_7 : decode cX3_setThreshold 7 = .ok (.if_icmp .lt 10, 3) := by decide +kernel
theorem dX3_setThreshold_10 : decode cX3_setThreshold 10 = .ok (.iload_n 2, 1) := by decide +kernel
theorem dX3_setThreshold_11 : decode cX3_setThreshold 11 = .ok (.sipush 400, 3) := by decide +kernel
theorem dX3_setThreshold_14 : decode cX3_setThreshold 14 = .ok (.if_icmp .le 13, 3) := by decide +kernel
theorem dX3_setThreshold_17 : decode cX3_setThreshold 17 = .ok (.new 48, 3) := by decide +kernel
theorem dX3_setThreshold_20 : decode cX3_setThreshold 20 = .ok (.dup, 1) := by decide +kernel
theorem dX3_setThreshold_21 : decode cX3_setThreshold 21 = .ok (.ldc 111, 2) := by decide +kernel
theorem dX3_setThreshold_23 : decode cX3_setThreshold 23 = .ok (.invokespecial 52, 3) := by decide +kernel
theorem dX3_setThreshold_26 : decode cX3_setThreshold 26 = .ok (.athrow, 1) := by decide +kernel
theorem dX3_setThreshold_27 : decode cX3_setThreshold 27 = .ok (.aload_n 0, 1) := by decide +kernel
theorem dX3_setThreshold_28 : decode cX3_setThreshold 28 = .ok (.getfield 34, 3) := by decide +kernel
theorem dX3_setThreshold_31 : decode cX3_setThreshold 31 = .ok (.iload_n 1, 1) := by decide +kernel
theorem dX3_setThreshold_32 : decode cX3_setThreshold 32 = .ok (.iaload, 1) := by decide +kernel
theorem dX3_setThreshold_33 : decode cX3_setThreshold 33 = .ok (.istore_n 3, 1) := by decide +kernel
theorem dX3_setThreshold_34 : decode cX3_setThreshold 34 = .ok (.aload_n 0, 1) := by decide +kernel
theorem dX3_setThreshold_35 : decode cX3_setThreshold 35 = .ok (.getfield 34, 3) := by decide +kernel
theorem dX3_setThreshold_38 : decode cX3_setThreshold 38 = .ok (.iload_n 1, 1) := by decide +kernel
theorem dX3_setThreshold_39 : decode cX3_setThreshold 39 = .ok (.iload_n 2, 1) := by decide +kernel
theorem dX3_setThreshold_40 : decode cX3_setThreshold 40 = .ok (.iastore, 1) := by decide +kernel
theorem dX3_setThreshold_41 : decode cX3_setThreshold 41 = .ok (.iload_n 3, 1) := by decide +kernel
theorem dX3_setThreshold_42 : decode cX3_setThreshold 42 = .ok (.ireturn, 1) := by decide +kernel
set_option maxRecDepth 20000 in
theorem ggX3_build_X3_requireName : GoodIn wsX3_build wsX3_requireName := goodIn_ca (goodIn_r _ [12, 1, 2] (by decide +kernel) (by decide +kernel)) (goodIn_sub (fun _ h => List.mem_cons_of_mem _ (List.mem_append_left _ (List.mem_append_left _ (List.mem_append_right _ h)))) (by decide +kernel))
set_option maxRecDepth 20000 in
theorem gX3_build_X3_requireName : GoodIn wsX3_build (wsV RX3 108 RX3 yX3_requireName wsX3_requireName) := goodIn_app (goodIn_of _ (by decide +kernel)) ggX3_build_X3_requireName
set_option maxRecDepth 20000 in
theorem ggX3_build_X0_all : GoodIn wsX3_build wsX0_all := goodIn_r _ [16, 17, 18, 11, 19, 49, 50, 51, 52, 53, 54, 55, 56, 57, 58] (by decide +kernel) (by decide +kernel)
set_option maxRecDepth 20000 in
theorem gX3_build_X0_all_n113 : GoodIn wsX3_build (wsX0_all) := ggX3_build_X0_all
set_option maxRecDepth 20000 in
theorem ggX3_build_X0_recalled : GoodIn wsX3_build wsX0_recalled := goodIn_r _ [22, 23, 17, 24, 18, 11, 19, 49, 50, 51, 52, 53, 54, 55, 56, 57, 58] (by decide +kernel) (by decide +kernel)
set_option maxRecDepth 20000 in
theorem gX3_build_X0_recalled_n118 : GoodIn wsX3_build (wsX0_recalled) := ggX3_build_X0_recalled
set_option maxRecDepth 20000 in
theorem ggX3_build_X0_append : GoodIn wsX3_build wsX0_append := goodIn_r _ [27, 17, 28, 29, 24, 30, 31, 32, 33, 14, 34, 35, 36, 37, 38, 39, 11, 40, 41, 18, 19, 49, 50, 51, 52, 53, 54, 55, 56, 57, 58] (by decide +kernel) (by decide +kernel)
set_option maxRecDepth 20000 in
theorem gX3_build_X0_append_n129 : GoodIn wsX3_build (wsX0_append) := ggX3_build_X0_append
theorem dX3_build_0 : decode cX3_build 0 = .ok (.aload_n 0, 1) := by decide +kernel
theorem dX3_build_1 : decode cX3_build 1 = .ok (.iload_n 1, 1) := by decide +kernel
theorem dX3_build_2 : decode cX3_build 2 = .ok (.invokevirtual 108, 3) := by decide +kernel
theorem dX3_build_5 : decode cX3_build 5 = .ok (.iload_n 2, 1) := by decide +kernel
theorem dX3_build_6 : decode cX3_build 6 = .ok (.aload_n 0, 1) := by decide +kernel
theorem dX3_build_7 : decode cX3_build 7 = .ok (.getfield 19, 3) := by decide +kernel
theorem dX3_build_10 : decode cX3_build 10 = .ok (.invokevirtual 113, 3) := by decide +kernel
theorem dX3_build_13 : decode cX3_build 13 = .ok (.iconst (-1), 1) := by decide +kernel
theorem dX3_build_14 : decode cX3_build 14 = .ok (.ixor, 1) := by decide +kernel
theorem dX3_build_15 : decode cX3_build 15 = .ok (.iand, 1) := by decide +kernel
theorem dX3_build_16 : decode cX3_build 16 = .ok (.ifCond .eq 13, 3) := by decide +kernel
theorem dX3_build_19 : decode cX3_build 19 = .ok (.new 48, 3) := by decide +kernel
theorem dX3_build_22 : decode cX3_build 22 = .ok (.dup, 1) := by decide +kernel
theorem dX3_build_23 : decode cX3_build 23 = .ok (.ldc 116, 2) := by decide +kernel
theorem dX3_build_25 : decode cX3_build 25 = .ok (.invokespecial 52, 3) := by decide +kernel
theorem dX3_build_28 : decode cX3_build 28 = .ok (.athrow, 1) := by decide +kernel
theorem dX3_build_29 : decode cX3_build 29 = .ok (.iload_n 2, 1) := by decide +kernel
theorem dX3_build_30 : decode cX3_build 30 = .ok (.aload_n 0, 1) := by decide +kernel
theorem dX3_build_31 : decode cX3_build 31 = .ok (.getfield 19, 3) := by decide +kernel
theorem dX3_build_34 : decode cX3_build 34 = .ok (.invokevirtual 118, 3) := by decide +kernel
theorem dX3_build_37 : decode cX3_build 37 = .ok (.iand, 1) := by decide +kernel
theorem dX3_build_38 : decode cX3_build 38 = .ok (.ifCond .eq 13, 3) := by decide +kernel
theorem dX3_build_41 : decode cX3_build 41 = .ok (.new 121, 3) := by decide +kernel
theorem dX3_build_44 : decode cX3_build 44 = .ok (.dup, 1) := by decide +kernel
theorem dX3_build_45 : decode cX3_build 45 = .ok (.ldc 123, 2) := by decide +kernel
theorem dX3_build_47 : decode cX3_build 47 = .ok (.invokespecial 125, 3) := by decide +kernel
theorem dX3_build_50 : decode cX3_build 50 = .ok (.athrow, 1) := by decide +kernel
theorem dX3_build_51 : decode cX3_build 51 = .ok (.aload_n 0, 1) := by decide +kernel
theorem dX3_build_52 : decode cX3_build 52 = .ok (.getfield 19, 3) := by decide +kernel
theorem dX3_build_55 : decode cX3_build 55 = .ok (.getfield 126, 3) := by decide +kernel
theorem dX3_build_58 : decode cX3_build 58 = .ok (.bipush 24, 2) := by decide +kernel
theorem dX3_build_60 : decode cX3_build 60 = .ok (.if_icmp .lt 13, 3) := by decide +kernel
theorem dX3_build_63 : decode cX3_build 63 = .ok (.new 58, 3) := by decide +kernel
theorem dX3_build_66 : decode cX3_build 66 = .ok (.dup, 1) := by decide +kernel
theorem dX3_build_67 : decode cX3_build 67 = .ok (.ldc 127, 2) := by decide +kernel
theorem dX3_build_69 : decode cX3_build 69 = .ok (.invokespecial 62, 3) := by decide +kernel
theorem dX3_build_72 : decode cX3_build 72 = .ok (.athrow, 1) := by decide +kernel
theorem dX3_build_73 : decode cX3_build 73 = .ok (.aload_n 0, 1) := by decide +kernel
theorem dX3_build_74 : decode cX3_build 74 = .ok (.getfield 19, 3) := by decide +kernel
theorem dX3_build_77 : decode cX3_build 77 = .ok (.iload_n 1, 1) := by decide +kernel
theorem dX3_build_78 : decode cX3_build 78 = .ok (.iload_n 2, 1) := by decide +kernel
theorem dX3_build_79 : decode cX3_build 79 = .ok (.iload_n 3, 1) := by decide +kernel
theorem dX3_build_80 : decode cX3_build 80 = .ok (.invokevirtual 129, 3) := by decide +kernel
theorem dX3_build_83 : decode cX3_build 83 = .ok (.ireturn, 1) := by decide +kernel
set_option maxRecDepth 20000 in
theorem ggX3_nameOf_X3_requireBuild : GoodIn wsX3_nameOf wsX3_requireBuild := goodIn_ca (goodIn_r _ [6, 7, 8, 1, 9, 10, 11, 12, 13, 14, 15, 16, 17, 18, 19, 20, 21, 22, 23, 24, 25] (by decide +kernel) (by decide +kernel)) (goodIn_sub (fun _ h => List.mem_cons_of_mem _ (List.mem_append_right _ h)) (by decide +kernel))
set_option maxRecDepth 20000 in
theorem gX3_nameOf_X3_requireBuild : GoodIn wsX3_nameOf (wsV RX3 130 RX3 yX3_requireBuild wsX3_requireBuild) := goodIn_app (goodIn_of _ (by decide +kernel)) ggX3_nameOf_X3_requireBuild
theorem dX3_nameOf_0 : decode cX3_nameOf 0 = .ok (.aload_n 0, 1) := by decide +kernel
theorem dX3_nameOf_1 : decode cX3_nameOf 1 = .ok (.iload_n 1, 1) := by decide +kernel
theorem dX3_nameOf_2 : decode cX3_nameOf 2 = .ok (.invokevirtual 130, 3) := by decide +kernel
theorem dX3_nameOf_5 : decode cX3_nameOf 5 = .ok (.aload_n 0, 1) := by decide +kernel
theorem dX3_nameOf_6 : decode cX3_nameOf 6 = .ok (.getfield 19, 3) := by decide +kernel
theorem dX3_nameOf_9 : decode cX3_nameOf 9 = .ok (.getfield 133, 3) := by decide +kernel
theorem dX3_nameOf_12 : decode cX3_nameOf 12 = .ok (.iload_n 1, 1) := by decide +kernel
theorem dX3_nameOf_13 : decode cX3_nameOf 13 = .ok (.iaload, 1) := by decide +kernel
theorem dX3_nameOf_14 : decode cX3_nameOf 14 = .ok (.ireturn, 1) := by decide +kernel
set_option maxRecDepth 20000 in
theorem ggX3_version_X3_requireBuild : GoodIn wsX3_version wsX3_requireBuild := goodIn_ca (goodIn_r _ [6, 7, 8, 1, 9, 10, 11, 12, 13, 14, 15, 16, 17, 18, 19, 20, 21, 22, 23, 24, 25] (by decide +kernel) (by decide +kernel)) (goodIn_sub (fun _ h => List.mem_cons_of_mem _ (List.mem_append_right _ h)) (by decide +kernel))
set_option maxRecDepth 20000 in
theorem gX3_version_X3_requireBuild : GoodIn wsX3_version (wsV RX3 130 RX3 yX3_requireBuild wsX3_requireBuild) := goodIn_app (goodIn_of _ (by decide +kernel)) ggX3_version_X3_requireBuild
theorem dX3_version_0 : decode cX3_version 0 = .ok (.aload_n 0, 1) := by decide +kernel
theorem dX3_version_1 : decode cX3_version 1 = .ok (.iload_n 1, 1) := by decide +kernel
theorem dX3_version_2 : decode cX3_version 2 = .ok (.invokevirtual 130, 3) := by decide +kernel
theorem dX3_version_5 : decode cX3_version 5 = .ok (.aload_n 0, 1) := by decide +kernel
theorem dX3_version_6 : decode cX3_version 6 = .ok (.getfield 19, 3) := by decide +kernel
theorem dX3_version_9 : decode cX3_version 9 = .ok (.getfield 136, 3) := by decide +kernel
theorem dX3_version_12 : decode cX3_version 12 = .ok (.iload_n 1, 1) := by decide +kernel
theorem dX3_version_13 : decode cX3_version 13 = .ok (.iaload, 1) := by decide +kernel
theorem dX3_version_14 : decode cX3_version 14 = .ok (.ireturn, 1) := by decide +kernel
set_option maxRecDepth 20000 in
theorem ggX3_uses_X3_requireBuild : GoodIn wsX3_uses wsX3_requireBuild := goodIn_ca (goodIn_r _ [6, 7, 8, 1, 15, 16, 17, 18, 19, 20, 21, 22, 23, 24, 25, 26, 27, 28, 29, 30, 31] (by decide +kernel) (by decide +kernel)) (goodIn_sub (fun _ h => List.mem_cons_of_mem _ (List.mem_append_right _ h)) (by decide +kernel))
set_option maxRecDepth 20000 in
theorem gX3_uses_X3_requireBuild : GoodIn wsX3_uses (wsV RX3 130 RX3 yX3_requireBuild wsX3_requireBuild) := goodIn_app (goodIn_of _ (by decide +kernel)) ggX3_uses_X3_requireBuild
set_option maxRecDepth 20000 in
theorem ggX3_uses_X3_holds : GoodIn wsX3_uses wsX3_holds := goodIn_r _ [11, 12, 13, 5, 14] (by decide +kernel) (by decide +kernel)
set_option maxRecDepth 20000 in
theorem gX3_uses_X3_holds : GoodIn wsX3_uses (va_wsS RX3 73 yX3_holds wsX3_holds) := goodIn_app (goodIn_of _ (by decide +kernel)) ggX3_uses_X3_holds
theorem dX3_uses_0 : decode cX3_uses 0 = .ok (.aload_n 0, 1) := by decide +kernel
theorem dX3_uses_1 : decode cX3_uses 1 = .ok (.iload_n 1, 1) := by decide +kernel
theorem dX3_uses_2 : decode cX3_uses 2 = .ok (.invokevirtual 130, 3) := by decide +kernel
theorem dX3_uses_5 : decode cX3_uses 5 = .ok (.aload_n 0, 1) := by decide +kernel
theorem dX3_uses_6 : decode cX3_uses 6 = .ok (.iload_n 2, 1) := by decide +kernel
theorem dX3_uses_7 : decode cX3_uses 7 = .ok (.invokevirtual 130, 3) := by decide +kernel
theorem dX3_uses_10 : decode cX3_uses 10 = .ok (.aload_n 0, 1) := by decide +kernel
theorem dX3_uses_11 : decode cX3_uses 11 = .ok (.getfield 19, 3) := by decide +kernel
theorem dX3_uses_14 : decode cX3_uses 14 = .ok (.getfield 139, 3) := by decide +kernel
theorem dX3_uses_17 : decode cX3_uses 17 = .ok (.iload_n 1, 1) := by decide +kernel
theorem dX3_uses_18 : decode cX3_uses 18 = .ok (.iaload, 1) := by decide +kernel
theorem dX3_uses_19 : decode cX3_uses 19 = .ok (.iload_n 2, 1) := by decide +kernel
theorem dX3_uses_20 : decode cX3_uses 20 = .ok (.invokestatic 73, 3) := by decide +kernel
theorem dX3_uses_23 : decode cX3_uses 23 = .ok (.ireturn, 1) := by decide +kernel
set_option maxRecDepth 20000 in
theorem ggX3_used_X3_requireBuild : GoodIn wsX3_used wsX3_requireBuild := goodIn_ca (goodIn_r _ [6, 7, 8, 1, 16, 17, 18, 19, 20, 21, 22, 23, 24, 25, 26, 27, 28, 29, 30, 31, 32] (by decide +kernel) (by decide +kernel)) (goodIn_sub (fun _ h => List.mem_cons_of_mem _ (List.mem_append_right _ h)) (by decide +kernel))
set_option maxRecDepth 20000 in
theorem gX3_used_X3_requireBuild : GoodIn wsX3_used (wsV RX3 130 RX3 yX3_requireBuild wsX3_requireBuild) := goodIn_app (goodIn_of _ (by decide +kernel)) ggX3_used_X3_requireBuild
set_option maxRecDepth 20000 in
theorem ggX3_used_J6_bitCount_0f7a4 : GoodIn wsX3_used wsJ6_bitCount_0f7a4 := goodIn_r _ [12, 13, 14, 15] (by decide +kernel) (by decide +kernel)
set_option maxRecDepth 20000 in
theorem gX3_used_J6_bitCount_0f7a4 : GoodIn wsX3_used (va_wsS RX3 91 yJ6_bitCount_0f7a4 wsJ6_bitCount_0f7a4) := goodIn_app (goodIn_of _ (by decide +kernel)) ggX3_used_J6_bitCount_0f7a4
theorem dX3_used_0 : decode cX3_used 0 = .ok (.aload_n 0, 1) := by decide +kernel
theorem dX3_used_1 : decode cX3_used 1 = .ok (.iload_n 1, 1) := by decide +kernel
theorem dX3_used_2 : decode cX3_used 2 = .ok (.invokevirtual 130, 3) := by decide +kernel
theorem dX3_used_5 : decode cX3_used 5 = .ok (.aload_n 0, 1) := by decide +kernel
theorem dX3_used_6 : decode cX3_used 6 = .ok (.getfield 19, 3) := by decide +kernel
theorem dX3_used_9 : decode cX3_used 9 = .ok (.getfield 139, 3) := by decide +kernel
theorem dX3_used_12 : decode cX3_used 12 = .ok (.iload_n 1, 1) := by decide +kernel
theorem dX3_used_13 : decode cX3_used 13 = .ok (.iaload, 1) := by decide +kernel
theorem dX3_used_14 : decode cX3_used 14 = .ok (.invokestatic 91, 3) := by decide +kernel
theorem dX3_used_17 : decode cX3_used 17 = .ok (.ireturn, 1) := by decide +kernel
set_option maxRecDepth 20000 in
theorem ggX3_newest_X3_requireName : GoodIn wsX3_newest wsX3_requireName := goodIn_ca (goodIn_r _ [6, 7, 8] (by decide +kernel) (by decide +kernel)) (goodIn_sub (fun _ h => List.mem_cons_of_mem _ (List.mem_append_left _ (List.mem_append_right _ h))) (by decide +kernel))
set_option maxRecDepth 20000 in
theorem gX3_newest_X3_requireName : GoodIn wsX3_newest (wsV RX3 108 RX3 yX3_requireName wsX3_requireName) := goodIn_app (goodIn_of _ (by decide +kernel)) ggX3_newest_X3_requireName
set_option maxRecDepth 20000 in
theorem ggX3_newest_X3_trustedBuilds : GoodIn wsX3_newest wsX3_trustedBuilds := goodIn_r _ [12, 1, 13, 14, 15, 5, 16, 17, 18, 19, 20, 21, 22, 23, 24, 25, 26, 27, 28, 29, 46, 47, 48, 49, 50, 51, 52, 53, 54, 55, 56, 57, 58, 59, 60, 61, 62] (by decide +kernel) (by decide +kernel)
set_option maxRecDepth 20000 in
theorem gX3_newest_X3_trustedBuilds : GoodIn wsX3_newest (wsV RX3 79 RX3 yX3_trustedBuilds wsX3_trustedBuilds) := goodIn_app (goodIn_of _ (by decide +kernel)) ggX3_newest_X3_trustedBuilds
set_option maxRecDepth 20000 in
theorem ggX3_newest_X0_recalled : GoodIn wsX3_newest wsX0_recalled := goodIn_r _ [33, 34, 35, 36, 28, 5, 29, 53, 54, 55, 56, 57, 58, 59, 60, 61, 62] (by decide +kernel) (by decide +kernel)
set_option maxRecDepth 20000 in
theorem gX3_newest_X0_recalled_n118 : GoodIn wsX3_newest (wsX0_recalled) := ggX3_newest_X0_recalled
set_option maxRecDepth 20000 in
theorem ggX3_newest_X0_newestOf : GoodIn wsX3_newest wsX0_newestOf := goodIn_r _ [39, 35, 40, 25, 5, 26, 27, 28, 29, 53, 54, 55, 56, 57, 58, 59, 60, 61, 62] (by decide +kernel) (by decide +kernel)
set_option maxRecDepth 20000 in
theorem gX3_newest_X0_newestOf_n142 : GoodIn wsX3_newest (wsX0_newestOf) := ggX3_newest_X0_newestOf
set_option maxRecDepth 20000 in
theorem ggX3_newest_X3_requireFound : GoodIn wsX3_newest wsX3_requireFound := goodIn_ca (goodIn_r _ [43, 44, 45] (by decide +kernel) (by decide +kernel)) (goodIn_sub (fun _ h => List.mem_cons_of_mem _ (List.mem_append_right _ h)) (by decide +kernel))
set_option maxRecDepth 20000 in
theorem gX3_newest_X3_requireFound : GoodIn wsX3_newest (va_wsS RX3 146 yX3_requireFound wsX3_requireFound) := goodIn_app (goodIn_of _ (by decide +kernel)) ggX3_newest_X3_requireFound
theorem dX3_newest_0 : decode cX3_newest 0 = .ok (.aload_n 0, 1) := by decide +kernel
theorem dX3_newest_1 : decode cX3_newest 1 = .ok (.iload_n 1, 1) := by decide +kernel
theorem dX3_newest_2 : decode cX3_newest 2 = .ok (.invokevirtual 108, 3) := by decide +kernel
theorem dX3_newest_5 : decode cX3_newest 5 = .ok (.aload_n 0, 1) := by decide +kernel
theorem dX3_newest_6 : decode cX3_newest 6 = .ok (.getfield 19, 3) := by decide +kernel
theorem dX3_newest_9 : decode cX3_newest 9 = .ok (.iload_n 1, 1) := by decide +kernel
theorem dX3_newest_10 : decode cX3_newest 10 = .ok (.aload_n 0, 1) := by decide +kernel
theorem dX3_newest_11 : decode cX3_newest 11 = .ok (.invokevirtual 79, 3) := by decide +kernel
theorem dX3_newest_14 : decode cX3_newest 14 = .ok (.aload_n 0, 1) := by decide +kernel
theorem dX3_newest_15 : decode cX3_newest 15 = .ok (.getfield 19, 3) := by decide +kernel
theorem dX3_newest_18 : decode cX3_newest 18 = .ok (.invokevirtual 118, 3) := by decide +kernel
theorem dX3_newest_21 : decode cX3_newest 21 = .ok (.iconst (-1), 1) := by decide +kernel
theorem dX3_newest_22 : decode cX3_newest 22 = .ok (.ixor, 1) := by decide +kernel
theorem dX3_newest_23 : decode cX3_newest 23 = .ok (.iand, 1) := by decide +kernel
theorem dX3_newest_24 : decode cX3_newest 24 = .ok (.invokevirtual 142, 3) := by decide +kernel
theorem dX3_newest_27 : decode cX3_newest 27 = .ok (.invokestatic 146, 3) := by decide +kernel
theorem dX3_newest_30 : decode cX3_newest 30 = .ok (.ireturn, 1) := by decide +kernel
set_option maxRecDepth 20000 in
theorem ggX3_attest_X3_requireBuild : GoodIn wsX3_attest wsX3_requireBuild := goodIn_ca (goodIn_r _ [12, 13, 14, 7, 46, 47, 48, 49, 50, 51, 52, 53, 54, 55, 56, 57, 58, 59, 60, 61, 62] (by decide +kernel) (by decide +kernel)) (goodIn_sub (fun _ h => List.mem_cons_of_mem _ (List.mem_append_right _ h)) (by decide +kernel))
set_option maxRecDepth 20000 in
theorem gX3_attest_X3_requireBuild : GoodIn wsX3_attest (wsV RX3 130 RX3 yX3_requireBuild wsX3_requireBuild) := goodIn_app (goodIn_of _ (by decide +kernel)) ggX3_attest_X3_requireBuild
set_option maxRecDepth 20000 in
theorem ggX3_attest_X3_requireKey : GoodIn wsX3_attest wsX3_requireKey := goodIn_ca (goodIn_r _ [18, 13, 14, 5, 46, 47, 48, 49, 50, 51, 52, 63, 64, 65, 66, 67] (by decide +kernel) (by decide +kernel)) (goodIn_sub (fun _ h => List.mem_cons_of_mem _ (List.mem_append_right _ h)) (by decide +kernel))
set_option maxRecDepth 20000 in
theorem gX3_attest_X3_requireKey : GoodIn wsX3_attest (wsV RX3 67 RX3 yX3_requireKey wsX3_requireKey) := goodIn_app (goodIn_of _ (by decide +kernel)) ggX3_attest_X3_requireKey
set_option maxRecDepth 20000 in
theorem ggX3_attest_X1_liveOn : GoodIn wsX3_attest wsX1_liveOn := goodIn_r _ [22, 23, 24, 25, 26, 11, 27, 28, 29, 30, 63, 64, 65, 66, 67] (by decide +kernel) (by decide +kernel)
set_option maxRecDepth 20000 in
theorem gX3_attest_X1_liveOn_n103 : GoodIn wsX3_attest (wsX1_liveOn) := ggX3_attest_X1_liveOn
set_option maxRecDepth 20000 in
theorem ggX3_attest_X3_holds : GoodIn wsX3_attest wsX3_holds := goodIn_r _ [27, 28, 29, 11, 30] (by decide +kernel) (by decide +kernel)
set_option maxRecDepth 20000 in
theorem gX3_attest_X3_holds : GoodIn wsX3_attest (va_wsS RX3 73 yX3_holds wsX3_holds) := goodIn_app (goodIn_of _ (by decide +kernel)) ggX3_attest_X3_holds
set_option maxRecDepth 20000 in
theorem ggX3_attest_X0_recalled : GoodIn wsX3_attest wsX0_recalled := goodIn_r _ [35, 36, 37, 38, 29, 11, 30, 53, 54, 55, 56, 57, 58, 59, 60, 61, 62] (by decide +kernel) (by decide +kernel)
set_option maxRecDepth 20000 in
theorem gX3_attest_X0_recalled_n118 : GoodIn wsX3_attest (wsX0_recalled) := ggX3_attest_X0_recalled
set_option maxRecDepth 20000 in
theorem ggX3_attest_X3_only : GoodIn wsX3_attest wsX3_only := goodIn_r _ [30] (by decide +kernel) (by decide +kernel)
set_option maxRecDepth 20000 in
theorem gX3_attest_X3_only : GoodIn wsX3_attest (va_wsS RX3 83 yX3_only wsX3_only) := goodIn_app (goodIn_of _ (by decide +kernel)) ggX3_attest_X3_only
set_option maxRecDepth 20000 in
theorem ggX3_attest_J6_bitCount_0f7a4 : GoodIn wsX3_attest wsJ6_bitCount_0f7a4 := goodIn_r _ [42, 43, 44, 45] (by decide +kernel) (by decide +kernel)
set_option maxRecDepth 20000 in
theorem gX3_attest_J6_bitCount_0f7a4 : GoodIn wsX3_attest (va_wsS RX3 91 yJ6_bitCount_0f7a4 wsJ6_bitCount_0f7a4) := goodIn_app (goodIn_of _ (by decide +kernel)) ggX3_attest_J6_bitCount_0f7a4
theorem dX3_attest_0 : decode cX3_attest 0 = .ok (.aload_n 0, 1) := by decide +kernel
theorem dX3_attest_1 : decode cX3_attest 1 = .ok (.iload_n 1, 1) := by decide +kernel
theorem dX3_attest_2 : decode cX3_attest 2 = .ok (.invokevirtual 130, 3) := by decide +kernel
theorem dX3_attest_5 : decode cX3_attest 5 = .ok (.aload_n 0, 1) := by decide +kernel
theorem dX3_attest_6 : decode cX3_attest 6 = .ok (.iload_n 2, 1) := by decide +kernel
theorem dX3_attest_7 : decode cX3_attest 7 = .ok (.invokevirtual 67, 3) := by decide +kernel
theorem dX3_attest_10 : decode cX3_attest 10 = .ok (.aload_n 0, 1) := by decide +kernel
theorem dX3_attest_11 : decode cX3_attest 11 = .ok (.getfield 10, 3) := by decide +kernel
theorem dX3_attest_14 : decode cX3_attest 14 = .ok (.iload_n 2, 1) := by decide +kernel
theorem dX3_attest_15 : decode cX3_attest 15 = .ok (.aload_n 0, 1) := by decide +kernel
theorem dX3_attest_16 : decode cX3_attest 16 = .ok (.getfield 41, 3) := by decide +kernel
theorem dX3_attest_19 : decode cX3_attest 19 = .ok (.invokevirtual 103, 3) := by decide +kernel
theorem dX3_attest_22 : decode cX3_attest 22 = .ok (.ifCond .eq 19, 3) := by decide +kernel
theorem dX3_attest_25 : decode cX3_attest 25 = .ok (.aload_n 0, 1) := by decide +kernel
theorem dX3_attest_26 : decode cX3_attest 26 = .ok (.getfield 19, 3) := by decide +kernel
theorem dX3_attest_29 : decode cX3_attest 29 = .ok (.getfield 149, 3) := by decide +kernel
theorem dX3_attest_32 : decode cX3_attest 32 = .ok (.iload_n 1, 1) := by decide +kernel
theorem dX3_attest_33 : decode cX3_attest 33 = .ok (.iaload, 1) := by decide +kernel
theorem dX3_attest_34 : decode cX3_attest 34 = .ok (.iload_n 2, 1) := by decide +kernel
theorem dX3_attest_35 : decode cX3_attest 35 = .ok (.invokestatic 73, 3) := by decide +kernel
theorem dX3_attest_38 : decode cX3_attest 38 = .ok (.ifCond .eq 13, 3) := by decide +kernel
theorem dX3_attest_41 : decode cX3_attest 41 = .ok (.new 58, 3) := by decide +kernel
theorem dX3_attest_44 : decode cX3_attest 44 = .ok (.dup, 1) := by decide +kernel
theorem dX3_attest_45 : decode cX3_attest 45 = .ok (.ldc 152, 2) := by decide +kernel
theorem dX3_attest_47 : decode cX3_attest 47 = .ok (.invokespecial 62, 3) := by decide +kernel
theorem dX3_attest_50 : decode cX3_attest 50 = .ok (.athrow, 1) := by decide +kernel
theorem dX3_attest_51 : decode cX3_attest 51 = .ok (.aload_n 0, 1) := by decide +kernel
theorem dX3_attest_52 : decode cX3_attest 52 = .ok (.getfield 19, 3) := by decide +kernel
theorem dX3_attest_55 : decode cX3_attest 55 = .ok (.invokevirtual 118, 3) := by decide +kernel
theorem dX3_attest_58 : decode cX3_attest 58 = .ok (.iload_n 1, 1) := by decide +kernel
theorem dX3_attest_59 : decode cX3_attest 59 = .ok (.invokestatic 73, 3) := by decide +kernel
theorem dX3_attest_62 : decode cX3_attest 62 = .ok (.ifCond .eq 13, 3) := by decide +kernel
theorem dX3_attest_65 : decode cX3_attest 65 = .ok (.new 121, 3) := by decide +kernel
theorem dX3_attest_68 : decode cX3_attest 68 = .ok (.dup, 1) := by decide +kernel
theorem dX3_attest_69 : decode cX3_attest 69 = .ok (.ldc 154, 2) := by decide +kernel
theorem dX3_attest_71 : decode cX3_attest 71 = .ok (.invokespecial 125, 3) := by decide +kernel
theorem dX3_attest_74 : decode cX3_attest 74 = .ok (.athrow, 1) := by decide +kernel
theorem dX3_attest_75 : decode cX3_attest 75 = .ok (.aload_n 0, 1) := by decide +kernel
theorem dX3_attest_76 : decode cX3_attest 76 = .ok (.getfield 19, 3) := by decide +kernel
theorem dX3_attest_79 : decode cX3_attest 79 = .ok (.getfield 149, 3) := by decide +kernel
theorem dX3_attest_82 : decode cX3_attest 82 = .ok (.iload_n 1, 1) := by decide +kernel
theorem dX3_attest_83 : decode cX3_attest 83 = .ok (.dup2, 1) := by decide +kernel
theorem dX3_attest_84 : decode cX3_attest 84 = .ok (.iaload, 1) := by decide +kernel
theorem dX3_attest_85 : decode cX3_attest 85 = .ok (.iload_n 2, 1) := by decide +kernel
theorem dX3_attest_86 : decode cX3_attest 86 = .ok (.invokestatic 83, 3) := by decide +kernel
theorem dX3_attest_89 : decode cX3_attest 89 = .ok (.ior, 1) := by decide +kernel
theorem dX3_attest_90 : decode cX3_attest 90 = .ok (.iastore, 1) := by decide +kernel
theorem dX3_attest_91 : decode cX3_attest 91 = .ok (.aload_n 0, 1) := by decide +kernel
theorem dX3_attest_92 : decode cX3_attest 92 = .ok (.getfield 19, 3) := by decide +kernel
theorem dX3_attest_95 : decode cX3_attest 95 = .ok (.getfield 156, 3) := by decide +kernel
theorem dX3_attest_98 : decode cX3_attest 98 = .ok (.iload_n 1, 1) := by decide +kernel
theorem dX3_attest_99 : decode cX3_attest 99 = .ok (.dup2, 1) := by decide +kernel
theorem dX3_attest_100 : decode cX3_attest 100 = .ok (.iaload, 1) := by decide +kernel
theorem dX3_attest_101 : decode cX3_attest 101 = .ok (.aload_n 0, 1) := by decide +kernel
theorem dX3_attest_102 : decode cX3_attest 102 = .ok (.getfield 10, 3) := by decide +kernel
theorem dX3_attest_105 : decode cX3_attest 105 = .ok (.getfield 159, 3) := by decide +kernel
theorem dX3_attest_108 : decode cX3_attest 108 = .ok (.iload_n 2, 1) := by decide +kernel
theorem dX3_attest_109 : decode cX3_attest 109 = .ok (.iaload, 1) := by decide +kernel
theorem dX3_attest_110 : decode cX3_attest 110 = .ok (.invokestatic 83, 3) := by decide +kernel
theorem dX3_attest_113 : decode cX3_attest 113 = .ok (.ior, 1) := by decide +kernel
theorem dX3_attest_114 : decode cX3_attest 114 = .ok (.iastore, 1) := by decide +kernel
theorem dX3_attest_115 : decode cX3_attest 115 = .ok (.aload_n 0, 1) := by decide +kernel
theorem dX3_attest_116 : decode cX3_attest 116 = .ok (.getfield 19, 3) := by decide +kernel
theorem dX3_attest_119 : decode cX3_attest 119 = .ok (.getfield 149, 3) := by decide +kernel
theorem dX3_attest_122 : decode cX3_attest 122 = .ok (.iload_n 1, 1) := by decide +kernel
theorem dX3_attest_123 : decode cX3_attest 123 = .ok (.iaload, 1) := by decide +kernel
theorem dX3_attest_124 : decode cX3_attest 124 = .ok (.invokestatic 91, 3) := by decide +kernel
theorem dX3_attest_127 : decode cX3_attest 127 = .ok (.ireturn, 1) := by decide +kernel
set_option maxRecDepth 20000 in
theorem ggX3_vouches_X3_requireBuild : GoodIn wsX3_vouches wsX3_requireBuild := goodIn_ca (goodIn_r _ [6, 7, 8, 1, 21, 22, 23, 24, 25, 26, 27, 28, 29, 30, 31, 32, 33, 34, 35, 36, 37] (by decide +kernel) (by decide +kernel)) (goodIn_sub (fun _ h => List.mem_cons_of_mem _ (List.mem_append_left _ (List.mem_append_right _ h))) (by decide +kernel))
set_option maxRecDepth 20000 in
theorem gX3_vouches_X3_requireBuild : GoodIn wsX3_vouches (wsV RX3 130 RX3 yX3_requireBuild wsX3_requireBuild) := goodIn_app (goodIn_of _ (by decide +kernel)) ggX3_vouches_X3_requireBuild
set_option maxRecDepth 20000 in
theorem ggX3_vouches_X3_requireSigner : GoodIn wsX3_vouches wsX3_requireSigner := goodIn_ca (goodIn_r _ [12, 13, 14] (by decide +kernel) (by decide +kernel)) (goodIn_sub (fun _ h => List.mem_cons_of_mem _ (List.mem_append_right _ h)) (by decide +kernel))
set_option maxRecDepth 20000 in
theorem gX3_vouches_X3_requireSigner : GoodIn wsX3_vouches (wsV RX3 44 RX3 yX3_requireSigner wsX3_requireSigner) := goodIn_app (goodIn_of _ (by decide +kernel)) ggX3_vouches_X3_requireSigner
set_option maxRecDepth 20000 in
theorem ggX3_vouches_X3_holds : GoodIn wsX3_vouches wsX3_holds := goodIn_r _ [17, 18, 19, 5, 20] (by decide +kernel) (by decide +kernel)
set_option maxRecDepth 20000 in
theorem gX3_vouches_X3_holds : GoodIn wsX3_vouches (va_wsS RX3 73 yX3_holds wsX3_holds) := goodIn_app (goodIn_of _ (by decide +kernel)) ggX3_vouches_X3_holds
theorem dX3_vouches_0 : decode cX3_vouches 0 = .ok (.aload_n 0, 1) := by decide +kernel
theorem dX3_vouches_1 : decode cX3_vouches 1 = .ok (.iload_n 1, 1) := by decide +kernel
theorem dX3_vouches_2 : decode cX3_vouches 2 = .ok (.invokevirtual 130, 3) := by decide +kernel
theorem dX3_vouches_5 : decode cX3_vouches 5 = .ok (.aload_n 0, 1) := by decide +kernel
theorem dX3_vouches_6 : decode cX3_vouches 6 = .ok (.iload_n 2, 1) := by decide +kernel
theorem dX3_vouches_7 : decode cX3_vouches 7 = .ok (.invokevirtual 44, 3) := by decide +kernel
theorem dX3_vouches_10 : decode cX3_vouches 10 = .ok (.aload_n 0, 1) := by decide +kernel
theorem dX3_vouches_11 : decode cX3_vouches 11 = .ok (.getfield 19, 3) := by decide +kernel
theorem dX3_vouches_14 : decode cX3_vouches 14 = .ok (.getfield 156, 3) := by decide +kernel
theorem dX3_vouches_17 : decode cX3_vouches 17 = .ok (.iload_n 1, 1) := by decide +kernel
theorem dX3_vouches_18 : decode cX3_vouches 18 = .ok (.iaload, 1) := by decide +kernel
theorem dX3_vouches_19 : decode cX3_vouches 19 = .ok (.iload_n 2, 1) := by decide +kernel
theorem dX3_vouches_20 : decode cX3_vouches 20 = .ok (.invokestatic 73, 3) := by decide +kernel
theorem dX3_vouches_23 : decode cX3_vouches 23 = .ok (.ireturn, 1) := by decide +kernel
set_option maxRecDepth 20000 in
theorem ggX3_vouchesByList_X3_requireBuild : GoodIn wsX3_vouchesByList wsX3_requireBuild := goodIn_ca (goodIn_r _ [8, 9, 10, 2, 39, 40, 41, 42, 43, 44, 45, 46, 47, 48, 49, 50, 51, 52, 53, 54, 55] (by decide +kernel) (by decide +kernel)) (goodIn_sub (fun _ h => List.mem_cons_of_mem _ (List.mem_append_left _ (List.mem_append_right _ h))) (by decide +kernel))
set_option maxRecDepth 20000 in
theorem gX3_vouchesByList_X3_requireBuild : GoodIn wsX3_vouchesByList (wsV RX3 130 RX3 yX3_requireBuild wsX3_requireBuild) := goodIn_app (goodIn_of _ (by decide +kernel)) ggX3_vouchesByList_X3_requireBuild
set_option maxRecDepth 20000 in
theorem ggX3_vouchesByList_X3_requireSigner : GoodIn wsX3_vouchesByList wsX3_requireSigner := goodIn_ca (goodIn_r _ [14, 15, 16] (by decide +kernel) (by decide +kernel)) (goodIn_sub (fun _ h => List.mem_cons_of_mem _ (List.mem_append_right _ h)) (by decide +kernel))
set_option maxRecDepth 20000 in
theorem gX3_vouchesByList_X3_requireSigner : GoodIn wsX3_vouchesByList (wsV RX3 44 RX3 yX3_requireSigner wsX3_requireSigner) := goodIn_app (goodIn_of _ (by decide +kernel)) ggX3_vouchesByList_X3_requireSigner
set_option maxRecDepth 20000 in
theorem ggX3_vouchesByList_X1_live : GoodIn wsX3_vouchesByList wsX1_live := goodIn_r _ [20, 21, 22, 23, 24, 18, 25, 26, 27, 28, 29, 7, 30, 31, 32, 33, 56, 57, 58, 59, 60] (by decide +kernel) (by decide +kernel)
set_option maxRecDepth 20000 in
theorem gX3_vouchesByList_X1_live_n162 : GoodIn wsX3_vouchesByList (wsX1_live) := ggX3_vouchesByList_X1_live
set_option maxRecDepth 20000 in
theorem ggX3_vouchesByList_X1_signersOf : GoodIn wsX3_vouchesByList wsX1_signersOf := goodIn_r _ [36, 21, 37, 29, 7, 30, 31, 32, 33, 56, 57, 58, 59, 60] (by decide +kernel) (by decide +kernel)
set_option maxRecDepth 20000 in
theorem gX3_vouchesByList_X1_signersOf_n165 : GoodIn wsX3_vouchesByList (wsX1_signersOf) := ggX3_vouchesByList_X1_signersOf
set_option maxRecDepth 20000 in
theorem ggX3_vouchesByList_X3_holds : GoodIn wsX3_vouchesByList wsX3_holds := goodIn_r _ [30, 31, 32, 7, 33] (by decide +kernel) (by decide +kernel)
set_option maxRecDepth 20000 in
theorem gX3_vouchesByList_X3_holds : GoodIn wsX3_vouchesByList (va_wsS RX3 73 yX3_holds wsX3_holds) := goodIn_app (goodIn_of _ (by decide +kernel)) ggX3_vouchesByList_X3_holds
theorem dX3_vouchesByList_0 : decode cX3_vouchesByList 0 = .ok (.aload_n 0, 1) := by decide +kernel
theorem dX3_vouchesByList_1 : decode cX3_vouchesByList 1 = .ok (.iload_n 1, 1) := by decide +kernel
theorem dX3_vouchesByList_2 : decode cX3_vouchesByList 2 = .ok (.invokevirtual 130, 3) := by decide +kernel
theorem dX3_vouchesByList_5 : decode cX3_vouchesByList 5 = .ok (.aload_n 0, 1) := by decide +kernel
theorem dX3_vouchesByList_6 : decode cX3_vouchesByList 6 = .ok (.iload_n 2, 1) := by decide +kernel
theorem dX3_vouchesByList_7 : decode cX3_vouchesByList 7 = .ok (.invokevirtual 44, 3) := by decide +kernel
theorem dX3_vouchesByList_10 : decode cX3_vouchesByList 10 = .ok (.aload_n 0, 1) := by decide +kernel
theorem dX3_vouchesByList_11 : decode cX3_vouchesByList 11 = .ok (.getfield 10, 3) := by decide +kernel
theorem dX3_vouchesByList_14 : decode cX3_vouchesByList 14 = .ok (.aload_n 0, 1) := by decide +kernel
theorem dX3_vouchesByList_15 : decode cX3_vouchesByList 15 = .ok (.getfield 19, 3) := by decide +kernel
theorem dX3_vouchesByList_18 : decode cX3_vouchesByList 18 = .ok (.getfield 149, 3) := by decide +kernel
theorem dX3_vouchesByList_21 : decode cX3_vouchesByList 21 = .ok (.iload_n 1, 1) := by decide +kernel
theorem dX3_vouchesByList_22 : decode cX3_vouchesByList 22 = .ok (.iaload, 1) := by decide +kernel
theorem dX3_vouchesByList_23 : decode cX3_vouchesByList 23 = .ok (.aload_n 0, 1) := by decide +kernel
theorem dX3_vouchesByList_24 : decode cX3_vouchesByList 24 = .ok (.getfield 10, 3) := by decide +kernel
theorem dX3_vouchesByList_27 : decode cX3_vouchesByList 27 = .ok (.aload_n 0, 1) := by decide +kernel
theorem dX3_vouchesByList_28 : decode cX3_vouchesByList 28 = .ok (.getfield 41, 3) := by decide +kernel
theorem dX3_vouchesByList_31 : decode cX3_vouchesByList 31 = .ok (.invokevirtual 162, 3) := by decide +kernel
theorem dX3_vouchesByList_34 : decode cX3_vouchesByList 34 = .ok (.iand, 1) := by decide +kernel
theorem dX3_vouchesByList_35 : decode cX3_vouchesByList 35 = .ok (.invokevirtual 165, 3) := by decide +kernel
theorem dX3_vouchesByList_38 : decode cX3_vouchesByList 38 = .ok (.iload_n 2, 1) := by decide +kernel
theorem dX3_vouchesByList_39 : decode cX3_vouchesByList 39 = .ok (.invokestatic 73, 3) := by decide +kernel
theorem dX3_vouchesByList_42 : decode cX3_vouchesByList 42 = .ok (.ireturn, 1) := by decide +kernel
set_option maxRecDepth 20000 in
theorem ggX3_score_X3_requireBuild : GoodIn wsX3_score wsX3_requireBuild := goodIn_ca (goodIn_r _ [6, 7, 8, 1, 21, 22, 23, 24, 25, 26, 27, 28, 29, 30, 31, 32, 33, 34, 35, 36, 37] (by decide +kernel) (by decide +kernel)) (goodIn_sub (fun _ h => List.mem_cons_of_mem _ (List.mem_append_right _ h)) (by decide +kernel))
set_option maxRecDepth 20000 in
theorem gX3_score_X3_requireBuild : GoodIn wsX3_score (wsV RX3 130 RX3 yX3_requireBuild wsX3_requireBuild) := goodIn_app (goodIn_of _ (by decide +kernel)) ggX3_score_X3_requireBuild
set_option maxRecDepth 20000 in
theorem ggX3_score_X3_scoreFrom : GoodIn wsX3_score wsX3_scoreFrom := goodIn_r _ [12, 13, 14, 15, 16, 5, 17, 18, 19, 20, 21, 22, 23, 24, 25, 26, 27] (by decide +kernel) (by decide +kernel)
set_option maxRecDepth 20000 in
theorem gX3_score_X3_scoreFrom : GoodIn wsX3_score (wsV RX3 168 RX3 yX3_scoreFrom wsX3_scoreFrom) := goodIn_app (goodIn_of _ (by decide +kernel)) ggX3_score_X3_scoreFrom
theorem dX3_score_0 : decode cX3_score 0 = .ok (.aload_n 0, 1) := by decide +kernel
theorem dX3_score_1 : decode cX3_score 1 = .ok (.iload_n 1, 1) := by decide +kernel
theorem dX3_score_2 : decode cX3_score 2 = .ok (.invokevirtual 130, 3) := by decide +kernel
theorem dX3_score_5 : decode cX3_score 5 = .ok (.aload_n 0, 1) := by decide +kernel
theorem dX3_score_6 : decode cX3_score 6 = .ok (.aload_n 0, 1) := by decide +kernel
theorem dX3_score_7 : decode cX3_score 7 = .ok (.getfield 19, 3) := by decide +kernel
theorem dX3_score_10 : decode cX3_score 10 = .ok (.getfield 156, 3) := by decide +kernel
theorem dX3_score_13 : decode cX3_score 13 = .ok (.iload_n 1, 1) := by decide +kernel
theorem dX3_score_14 : decode cX3_score 14 = .ok (.iaload, 1) := by decide +kernel
theorem dX3_score_15 : decode cX3_score 15 = .ok (.invokevirtual 168, 3) := by decide +kernel
theorem dX3_score_18 : decode cX3_score 18 = .ok (.freturn, 1) := by decide +kernel
set_option maxRecDepth 20000 in
theorem ggX3_scoreBits_X3_requireBuild : GoodIn wsX3_scoreBits wsX3_requireBuild := goodIn_ca (goodIn_r _ [6, 7, 8, 1, 32, 33, 34, 35, 36, 37, 38, 39, 40, 41, 42, 43, 44, 45, 46, 47, 48] (by decide +kernel) (by decide +kernel)) (goodIn_sub (fun _ h => List.mem_cons_of_mem _ (List.mem_append_right _ h)) (by decide +kernel))
set_option maxRecDepth 20000 in
theorem gX3_scoreBits_X3_requireBuild : GoodIn wsX3_scoreBits (wsV RX3 130 RX3 yX3_requireBuild wsX3_requireBuild) := goodIn_app (goodIn_of _ (by decide +kernel)) ggX3_scoreBits_X3_requireBuild
set_option maxRecDepth 20000 in
theorem ggX3_scoreBits_X3_scoreFrom : GoodIn wsX3_scoreBits wsX3_scoreFrom := goodIn_r _ [12, 13, 14, 15, 16, 5, 17, 18, 19, 20, 32, 33, 34, 35, 36, 37, 38] (by decide +kernel) (by decide +kernel)
set_option maxRecDepth 20000 in
theorem gX3_scoreBits_X3_scoreFrom : GoodIn wsX3_scoreBits (wsV RX3 168 RX3 yX3_scoreFrom wsX3_scoreFrom) := goodIn_app (goodIn_of _ (by decide +kernel)) ggX3_scoreBits_X3_scoreFrom
set_option maxRecDepth 20000 in
theorem ggX3_scoreBits_X3_floatBits : GoodIn wsX3_scoreBits wsX3_floatBits := goodIn_r _ [23, 24, 25, 26, 5, 27, 28, 29, 30, 31] (by decide +kernel) (by decide +kernel)
set_option maxRecDepth 20000 in
theorem gX3_scoreBits_X3_floatBits : GoodIn wsX3_scoreBits (va_wsS RX3 172 yX3_floatBits wsX3_floatBits) := goodIn_app (goodIn_of _ (by decide +kernel)) ggX3_scoreBits_X3_floatBits
theorem dX3_scoreBits_0 : decode cX3_scoreBits 0 = .ok (.aload_n 0, 1) := by decide +kernel
theorem dX3_scoreBits_1 : decode cX3_scoreBits 1 = .ok (.iload_n 1, 1) := by decide +kernel
theorem dX3_scoreBits_2 : decode cX3_scoreBits 2 = .ok (.invokevirtual 130, 3) := by decide +kernel
theorem dX3_scoreBits_5 : decode cX3_scoreBits 5 = .ok (.aload_n 0, 1) := by decide +kernel
theorem dX3_scoreBits_6 : decode cX3_scoreBits 6 = .ok (.aload_n 0, 1) := by decide +kernel
theorem dX3_scoreBits_7 : decode cX3_scoreBits 7 = .ok (.getfield 19, 3) := by decide +kernel
theorem dX3_scoreBits_10 : decode cX3_scoreBits 10 = .ok (.getfield 156, 3) := by decide +kernel
theorem dX3_scoreBits_13 : decode cX3_scoreBits 13 = .ok (.iload_n 1, 1) := by decide +kernel
theorem dX3_scoreBits_14 : decode cX3_scoreBits 14 = .ok (.iaload, 1) := by decide +kernel
theorem dX3_scoreBits_15 : decode cX3_scoreBits 15 = .ok (.invokevirtual 168, 3) := by decide +kernel
theorem dX3_scoreBits_18 : decode cX3_scoreBits 18 = .ok (.invokestatic 172, 3) := by decide +kernel
theorem dX3_scoreBits_21 : decode cX3_scoreBits 21 = .ok (.ireturn, 1) := by decide +kernel
set_option maxRecDepth 20000 in
theorem ggX3_isTrusted_X3_requireBuild : GoodIn wsX3_isTrusted wsX3_requireBuild := goodIn_ca (goodIn_r _ [6, 7, 8, 1, 26, 27, 28, 29, 30, 31, 32, 33, 34, 35, 36, 37, 38, 39, 40, 41, 42] (by decide +kernel) (by decide +kernel)) (goodIn_sub (fun _ h => List.mem_cons_of_mem _ (List.mem_append_right _ h)) (by decide +kernel))
set_option maxRecDepth 20000 in
theorem gX3_isTrusted_X3_requireBuild : GoodIn wsX3_isTrusted (wsV RX3 130 RX3 yX3_requireBuild wsX3_requireBuild) := goodIn_app (goodIn_of _ (by decide +kernel)) ggX3_isTrusted_X3_requireBuild
set_option maxRecDepth 20000 in
theorem ggX3_isTrusted_X3_suffices : GoodIn wsX3_isTrusted wsX3_suffices := goodIn_r _ [12, 13, 1, 14, 15, 16, 17, 5, 18, 19, 20, 21, 22, 23, 24, 25, 26, 27, 28, 29, 30, 31, 32, 33, 34, 35, 36, 37, 38, 39, 40, 41, 42] (by decide +kernel) (by decide +kernel)
set_option maxRecDepth 20000 in
theorem gX3_isTrusted_X3_suffices : GoodIn wsX3_isTrusted (wsV RX3 176 RX3 yX3_suffices wsX3_suffices) := goodIn_app (goodIn_of _ (by decide +kernel)) ggX3_isTrusted_X3_suffices
theorem dX3_isTrusted_0 : decode cX3_isTrusted 0 = .ok (.aload_n 0, 1) := by decide +kernel
theorem dX3_isTrusted_1 : decode cX3_isTrusted 1 = .ok (.iload_n 1, 1) := by decide +kernel
theorem dX3_isTrusted_2 : decode cX3_isTrusted 2 = .ok (.invokevirtual 130, 3) := by decide +kernel
theorem dX3_isTrusted_5 : decode cX3_isTrusted 5 = .ok (.aload_n 0, 1) := by decide +kernel
theorem dX3_isTrusted_6 : decode cX3_isTrusted 6 = .ok (.aload_n 0, 1) := by decide +kernel
theorem dX3_isTrusted_7 : decode cX3_isTrusted 7 = .ok (.getfield 19, 3) := by decide +kernel
theorem dX3_isTrusted_10 : decode cX3_isTrusted 10 = .ok (.getfield 156, 3) := by decide +kernel
theorem dX3_isTrusted_13 : decode cX3_isTrusted 13 = .ok (.iload_n 1, 1) := by decide +kernel
theorem dX3_isTrusted_14 : decode cX3_isTrusted 14 = .ok (.iaload, 1) := by decide +kernel
theorem dX3_isTrusted_15 : decode cX3_isTrusted 15 = .ok (.iload_n 1, 1) := by decide +kernel
theorem dX3_isTrusted_16 : decode cX3_isTrusted 16 = .ok (.invokevirtual 176, 3) := by decide +kernel
theorem dX3_isTrusted_19 : decode cX3_isTrusted 19 = .ok (.ireturn, 1) := by decide +kernel
set_option maxRecDepth 20000 in
theorem ggX3_hangsOnKey_X3_requireKey : GoodIn wsX3_hangsOnKey wsX3_requireKey := goodIn_ca (goodIn_r _ [8, 9, 10, 1, 44, 45, 46, 47, 48, 49, 50, 61, 62, 63, 64, 65] (by decide +kernel) (by decide +kernel)) (goodIn_sub (fun _ h => List.mem_cons_of_mem _ (List.mem_append_right _ h)) (by decide +kernel))
set_option maxRecDepth 20000 in
theorem gX3_hangsOnKey_X3_requireKey : GoodIn wsX3_hangsOnKey (wsV RX3 67 RX3 yX3_requireKey wsX3_requireKey) := goodIn_app (goodIn_of _ (by decide +kernel)) ggX3_hangsOnKey_X3_requireKey
set_option maxRecDepth 20000 in
theorem ggX3_hangsOnKey_X1_live : GoodIn wsX3_hangsOnKey wsX1_live := goodIn_r _ [14, 15, 16, 17, 18, 12, 19, 20, 21, 22, 23, 7, 24, 25, 26, 27, 61, 62, 63, 64, 65] (by decide +kernel) (by decide +kernel)
set_option maxRecDepth 20000 in
theorem gX3_hangsOnKey_X1_live_n162 : GoodIn wsX3_hangsOnKey (wsX1_live) := ggX3_hangsOnKey_X1_live
set_option maxRecDepth 20000 in
theorem ggX3_hangsOnKey_X3_only : GoodIn wsX3_hangsOnKey wsX3_only := goodIn_r _ [27] (by decide +kernel) (by decide +kernel)
set_option maxRecDepth 20000 in
theorem gX3_hangsOnKey_X3_only : GoodIn wsX3_hangsOnKey (va_wsS RX3 83 yX3_only wsX3_only) := goodIn_app (goodIn_of _ (by decide +kernel)) ggX3_hangsOnKey_X3_only
set_option maxRecDepth 20000 in
theorem ggX3_hangsOnKey_X1_signersOf : GoodIn wsX3_hangsOnKey wsX1_signersOf := goodIn_r _ [30, 15, 31, 23, 7, 24, 25, 26, 27, 61, 62, 63, 64, 65] (by decide +kernel) (by decide +kernel)
set_option maxRecDepth 20000 in
theorem gX3_hangsOnKey_X1_signersOf_n165 : GoodIn wsX3_hangsOnKey (wsX1_signersOf) := ggX3_hangsOnKey_X1_signersOf
set_option maxRecDepth 20000 in
theorem ggX3_hangsOnKey_X3_suffices : GoodIn wsX3_hangsOnKey wsX3_suffices := goodIn_r _ [35, 36, 3, 37, 38, 39, 40, 7, 41, 42, 43, 23, 24, 25, 26, 27, 44, 45, 46, 47, 48, 49, 50, 51, 52, 53, 54, 55, 56, 57, 58, 59, 60] (by decide +kernel) (by decide +kernel)
set_option maxRecDepth 20000 in
theorem gX3_hangsOnKey_X3_suffices : GoodIn wsX3_hangsOnKey (wsV RX3 176 RX3 yX3_suffices wsX3_suffices) := goodIn_app (goodIn_of _ (by decide +kernel)) ggX3_hangsOnKey_X3_suffices
theorem dX3_hangsOnKey_0 : decode cX3_hangsOnKey 0 = .ok (.aload_n 0, 1) := by decide +kernel
theorem dX3_hangsOnKey_1 : decode cX3_hangsOnKey 1 = .ok (.iload_n 1, 1) := by decide +kernel
theorem dX3_hangsOnKey_2 : decode cX3_hangsOnKey 2 = .ok (.invokevirtual 67, 3) := by decide +kernel
theorem dX3_hangsOnKey_5 : decode cX3_hangsOnKey 5 = .ok (.aload_n 0, 1) := by decide +kernel
theorem dX3_hangsOnKey_6 : decode cX3_hangsOnKey 6 = .ok (.getfield 10, 3) := by decide +kernel
theorem dX3_hangsOnKey_9 : decode cX3_hangsOnKey 9 = .ok (.aload_n 0, 1) := by decide +kernel
theorem dX3_hangsOnKey_10 : decode cX3_hangsOnKey 10 = .ok (.getfield 41, 3) := by decide +kernel
theorem dX3_hangsOnKey_13 : decode cX3_hangsOnKey 13 = .ok (.invokevirtual 162, 3) := by decide +kernel
theorem dX3_hangsOnKey_16 : decode cX3_hangsOnKey 16 = .ok (.iload_n 1, 1) := by decide +kernel
theorem dX3_hangsOnKey_17 : decode cX3_hangsOnKey 17 = .ok (.invokestatic 83, 3) := by decide +kernel
theorem dX3_hangsOnKey_20 : decode cX3_hangsOnKey 20 = .ok (.iconst (-1), 1) := by decide +kernel
theorem dX3_hangsOnKey_21 : decode cX3_hangsOnKey 21 = .ok (.ixor, 1) := by decide +kernel
theorem dX3_hangsOnKey_22 : decode cX3_hangsOnKey 22 = .ok (.iand, 1) := by decide +kernel
theorem dX3_hangsOnKey_23 : decode cX3_hangsOnKey 23 = .ok (.istore_n 2, 1) := by decide +kernel
theorem dX3_hangsOnKey_24 : decode cX3_hangsOnKey 24 = .ok (.iconst 0, 1) := by decide +kernel
theorem dX3_hangsOnKey_25 : decode cX3_hangsOnKey 25 = .ok (.istore_n 3, 1) := by decide +kernel
theorem dX3_hangsOnKey_26 : decode cX3_hangsOnKey 26 = .ok (.iconst 0, 1) := by decide +kernel
theorem dX3_hangsOnKey_27 : decode cX3_hangsOnKey 27 = .ok (.istore 4, 2) := by decide +kernel
theorem dX3_hangsOnKey_29 : decode cX3_hangsOnKey 29 = .ok (.iload 4, 2) := by decide +kernel
theorem dX3_hangsOnKey_31 : decode cX3_hangsOnKey 31 = .ok (.aload_n 0, 1) := by decide +kernel
theorem dX3_hangsOnKey_32 : decode cX3_hangsOnKey 32 = .ok (.getfield 19, 3) := by decide +kernel
theorem dX3_hangsOnKey_35 : decode cX3_hangsOnKey 35 = .ok (.getfield 126, 3) := by decide +kernel
theorem dX3_hangsOnKey_38 : decode cX3_hangsOnKey 38 = .ok (.if_icmp .ge 63, 3) := by decide +kernel
theorem dX3_hangsOnKey_41 : decode cX3_hangsOnKey 41 = .ok (.aload_n 0, 1) := by decide +kernel
theorem dX3_hangsOnKey_42 : decode cX3_hangsOnKey 42 = .ok (.getfield 10, 3) := by decide +kernel
theorem dX3_hangsOnKey_45 : decode cX3_hangsOnKey 45 = .ok (.aload_n 0, 1) := by decide +kernel
theorem dX3_hangsOnKey_46 : decode cX3_hangsOnKey 46 = .ok (.getfield 19, 3) := by decide +kernel
theorem dX3_hangsOnKey_49 : decode cX3_hangsOnKey 49 = .ok (.getfield 149, 3) := by decide +kernel
theorem dX3_hangsOnKey_52 : decode cX3_hangsOnKey 52 = .ok (.iload 4, 2) := by decide +kernel
theorem dX3_hangsOnKey_54 : decode cX3_hangsOnKey 54 = .ok (.iaload, 1) := by decide +kernel
theorem dX3_hangsOnKey_55 : decode cX3_hangsOnKey 55 = .ok (.iload_n 2, 1) := by decide +kernel
theorem dX3_hangsOnKey_56 : decode cX3_hangsOnKey 56 = .ok (.iand, 1) := by decide +kernel
theorem dX3_hangsOnKey_57 : decode cX3_hangsOnKey 57 = .ok (.invokevirtual 165, 3) := by decide +kernel
theorem dX3_hangsOnKey_60 : decode cX3_hangsOnKey 60 = .ok (.istore 5, 2) := by decide +kernel
theorem dX3_hangsOnKey_62 : decode cX3_hangsOnKey 62 = .ok (.aload_n 0, 1) := by decide +kernel
theorem dX3_hangsOnKey_63 : decode cX3_hangsOnKey 63 = .ok (.aload_n 0, 1) := by decide +kernel
theorem dX3_hangsOnKey_64 : decode cX3_hangsOnKey 64 = .ok (.getfield 19, 3) := by decide +kernel
theorem dX3_hangsOnKey_67 : decode cX3_hangsOnKey 67 = .ok (.getfield 156, 3) := by decide +kernel
theorem dX3_hangsOnKey_70 : decode cX3_hangsOnKey 70 = .ok (.iload 4, 2) := by decide +kernel
theorem dX3_hangsOnKey_72 : decode cX3_hangsOnKey 72 = .ok (.iaload, 1) := by decide +kernel
theorem dX3_hangsOnKey_73 : decode cX3_hangsOnKey 73 = .ok (.iload 4, 2) := by decide +kernel
theorem dX3_hangsOnKey_75 : decode cX3_hangsOnKey 75 = .ok (.invokevirtual 176, 3) := by decide +kernel
theorem dX3_hangsOnKey_78 : decode cX3_hangsOnKey 78 = .ok (.ifCond .eq 17, 3) := by decide +kernel
theorem dX3_hangsOnKey_81 : decode cX3_hangsOnKey 81 = .ok (.aload_n 0, 1) := by decide +kernel
theorem dX3_hangsOnKey_82 : decode cX3_hangsOnKey 82 = .ok (.iload 5, 2) := by decide +kernel
theorem dX3_hangsOnKey_84 : decode cX3_hangsOnKey 84 = .ok (.iload 4, 2) := by decide +kernel
theorem dX3_hangsOnKey_86 : decode cX3_hangsOnKey 86 = .ok (.invokevirtual 176, 3) := by decide +kernel
theorem dX3_hangsOnKey_89 : decode cX3_hangsOnKey 89 = .ok (.ifCond .ne 6, 3) := by decide +kernel
theorem dX3_hangsOnKey_92 : decode cX3_hangsOnKey 92 = .ok (.iinc 3 1, 3) := by decide +kernel
theorem dX3_hangsOnKey_95 : decode cX3_hangsOnKey 95 = .ok (.iinc 4 1, 3) := by decide +kernel
theorem dX3_hangsOnKey_98 : decode cX3_hangsOnKey 98 = .ok (.goto (-69), 3) := by decide +kernel
theorem dX3_hangsOnKey_101 : decode cX3_hangsOnKey 101 = .ok (.iload_n 3, 1) := by decide +kernel
theorem dX3_hangsOnKey_102 : decode cX3_hangsOnKey 102 = .ok (.ireturn, 1) := by decide +kernel
set_option maxRecDepth 20000 in
theorem ggX3_recall_X3_requireBuild : GoodIn wsX3_recall wsX3_requireBuild := goodIn_ca (goodIn_r _ [8, 9, 10, 3, 31, 32, 33, 34, 35, 36, 37, 38, 39, 40, 41, 42, 43, 44, 45, 46, 47] (by decide +kernel) (by decide +kernel)) (goodIn_sub (fun _ h => List.mem_cons_of_mem _ (List.mem_append_right _ h)) (by decide +kernel))
set_option maxRecDepth 20000 in
theorem gX3_recall_X3_requireBuild : GoodIn wsX3_recall (wsV RX3 130 RX3 yX3_requireBuild wsX3_requireBuild) := goodIn_app (goodIn_of _ (by decide +kernel)) ggX3_recall_X3_requireBuild
set_option maxRecDepth 20000 in
theorem ggX3_recall_X3_holds : GoodIn wsX3_recall wsX3_holds := goodIn_r _ [13, 14, 15, 7, 16] (by decide +kernel) (by decide +kernel)
set_option maxRecDepth 20000 in
theorem gX3_recall_X3_holds : GoodIn wsX3_recall (va_wsS RX3 73 yX3_holds wsX3_holds) := goodIn_app (goodIn_of _ (by decide +kernel)) ggX3_recall_X3_holds
set_option maxRecDepth 20000 in
theorem ggX3_recall_X0_recalled : GoodIn wsX3_recall wsX0_recalled := goodIn_r _ [20, 21, 22, 23, 15, 7, 16, 38, 39, 40, 41, 42, 43, 44, 45, 46, 47] (by decide +kernel) (by decide +kernel)
set_option maxRecDepth 20000 in
theorem gX3_recall_X0_recalled_n118 : GoodIn wsX3_recall (wsX0_recalled) := ggX3_recall_X0_recalled
set_option maxRecDepth 20000 in
theorem ggX3_recall_X3_only : GoodIn wsX3_recall wsX3_only := goodIn_r _ [16] (by decide +kernel) (by decide +kernel)
set_option maxRecDepth 20000 in
theorem gX3_recall_X3_only : GoodIn wsX3_recall (va_wsS RX3 83 yX3_only wsX3_only) := goodIn_app (goodIn_of _ (by decide +kernel)) ggX3_recall_X3_only
set_option maxRecDepth 20000 in
theorem ggX3_recall_J6_bitCount_0f7a4 : GoodIn wsX3_recall wsJ6_bitCount_0f7a4 := goodIn_r _ [27, 28, 29, 30] (by decide +kernel) (by decide +kernel)
set_option maxRecDepth 20000 in
theorem gX3_recall_J6_bitCount_0f7a4 : GoodIn wsX3_recall (va_wsS RX3 91 yJ6_bitCount_0f7a4 wsJ6_bitCount_0f7a4) := goodIn_app (goodIn_of _ (by decide +kernel)) ggX3_recall_J6_bitCount_0f7a4
theorem dX3_recall_0 : decode cX3_recall 0 = .ok (.aload_n 0, 1) := by decide +kernel
theorem dX3_recall_1 : decode cX3_recall 1 = .ok (.iload_n 1, 1) := by decide +kernel
theorem dX3_recall_2 : decode cX3_recall 2 = .ok (.invokevirtual 130, 3) := by decide +kernel
theorem dX3_recall_5 : decode cX3_recall 5 = .ok (.aload_n 0, 1) := by decide +kernel
theorem dX3_recall_6 : decode cX3_recall 6 = .ok (.getfield 19, 3) := by decide +kernel
theorem dX3_recall_9 : decode cX3_recall 9 = .ok (.getfield 179, 3) := by decide +kernel
theorem dX3_recall_12 : decode cX3_recall 12 = .ok (.iload_n 1, 1) := by decide +kernel
theorem dX3_recall_13 : decode cX3_recall 13 = .ok (.invokestatic 73, 3) := by decide +kernel
theorem dX3_recall_16 : decode cX3_recall 16 = .ok (.ifCond .eq 13, 3) := by decide +kernel
theorem dX3_recall_19 : decode cX3_recall 19 = .ok (.new 58, 3) := by decide +kernel
theorem dX3_recall_22 : decode cX3_recall 22 = .ok (.dup, 1) := by decide +kernel
theorem dX3_recall_23 : decode cX3_recall 23 = .ok (.ldc 182, 2) := by decide +kernel
theorem dX3_recall_25 : decode cX3_recall 25 = .ok (.invokespecial 62, 3) := by decide +kernel
theorem dX3_recall_28 : decode cX3_recall 28 = .ok (.athrow, 1) := by decide +kernel
theorem dX3_recall_29 : decode cX3_recall 29 = .ok (.aload_n 0, 1) := by decide +kernel
theorem dX3_recall_30 : decode cX3_recall 30 = .ok (.getfield 19, 3) := by decide +kernel
theorem dX3_recall_33 : decode cX3_recall 33 = .ok (.invokevirtual 118, 3) := by decide +kernel
theorem dX3_recall_36 : decode cX3_recall 36 = .ok (.istore_n 2, 1) := by decide +kernel
theorem dX3_recall_37 : decode cX3_recall 37 = .ok (.aload_n 0, 1) := by decide +kernel
theorem dX3_recall_38 : decode cX3_recall 38 = .ok (.getfield 19, 3) := by decide +kernel
theorem dX3_recall_41 : decode cX3_recall 41 = .ok (.dup, 1) := by decide +kernel
theorem dX3_recall_42 : decode cX3_recall 42 = .ok (.getfield 179, 3) := by decide +kernel
theorem dX3_recall_45 : decode cX3_recall 45 = .ok (.iload_n 1, 1) := by decide +kernel
theorem dX3_recall_46 : decode cX3_recall 46 = .ok (.invokestatic 83, 3) := by decide +kernel
theorem dX3_recall_49 : decode cX3_recall 49 = .ok (.ior, 1) := by decide +kernel
theorem dX3_recall_50 : decode cX3_recall 50 = .ok (.putfield 179, 3) := by decide +kernel
theorem dX3_recall_53 : decode cX3_recall 53 = .ok (.aload_n 0, 1) := by decide +kernel
theorem dX3_recall_54 : decode cX3_recall 54 = .ok (.getfield 19, 3) := by decide +kernel
theorem dX3_recall_57 : decode cX3_recall 57 = .ok (.invokevirtual 118, 3) := by decide +kernel
theorem dX3_recall_60 : decode cX3_recall 60 = .ok (.iload_n 2, 1) := by decide +kernel
theorem dX3_recall_61 : decode cX3_recall 61 = .ok (.iconst (-1), 1) := by decide +kernel
theorem dX3_recall_62 : decode cX3_recall 62 = .ok (.ixor, 1) := by decide +kernel
theorem dX3_recall_63 : decode cX3_recall 63 = .ok (.iand, 1) := by decide +kernel
theorem dX3_recall_64 : decode cX3_recall 64 = .ok (.invokestatic 91, 3) := by decide +kernel
theorem dX3_recall_67 : decode cX3_recall 67 = .ok (.ireturn, 1) := by decide +kernel
set_option maxRecDepth 20000 in
theorem ggX3_lift_X3_requireBuild : GoodIn wsX3_lift wsX3_requireBuild := goodIn_ca (goodIn_r _ [8, 9, 10, 3, 31, 32, 33, 34, 35, 36, 37, 38, 39, 40, 41, 42, 43, 44, 45, 46, 47] (by decide +kernel) (by decide +kernel)) (goodIn_sub (fun _ h => List.mem_cons_of_mem _ (List.mem_append_right _ h)) (by decide +kernel))
set_option maxRecDepth 20000 in
theorem gX3_lift_X3_requireBuild : GoodIn wsX3_lift (wsV RX3 130 RX3 yX3_requireBuild wsX3_requireBuild) := goodIn_app (goodIn_of _ (by decide +kernel)) ggX3_lift_X3_requireBuild
set_option maxRecDepth 20000 in
theorem ggX3_lift_X3_holds : GoodIn wsX3_lift wsX3_holds := goodIn_r _ [13, 14, 15, 7, 16] (by decide +kernel) (by decide +kernel)
set_option maxRecDepth 20000 in
theorem gX3_lift_X3_holds : GoodIn wsX3_lift (va_wsS RX3 73 yX3_holds wsX3_holds) := goodIn_app (goodIn_of _ (by decide +kernel)) ggX3_lift_X3_holds
set_option maxRecDepth 20000 in
theorem ggX3_lift_X0_recalled : GoodIn wsX3_lift wsX0_recalled := goodIn_r _ [20, 21, 22, 23, 15, 7, 16, 38, 39, 40, 41, 42, 43, 44, 45, 46, 47] (by decide +kernel) (by decide +kernel)
set_option maxRecDepth 20000 in
theorem gX3_lift_X0_recalled_n118 : GoodIn wsX3_lift (wsX0_recalled) := ggX3_lift_X0_recalled
set_option maxRecDepth 20000 in
theorem ggX3_lift_X3_only : GoodIn wsX3_lift wsX3_only := goodIn_r _ [16] (by decide +kernel) (by decide +kernel)
set_option maxRecDepth 20000 in
theorem gX3_lift_X3_only : GoodIn wsX3_lift (va_wsS RX3 83 yX3_only wsX3_only) := goodIn_app (goodIn_of _ (by decide +kernel)) ggX3_lift_X3_only
set_option maxRecDepth 20000 in
theorem ggX3_lift_J6_bitCount_0f7a4 : GoodIn wsX3_lift wsJ6_bitCount_0f7a4 := goodIn_r _ [27, 28, 29, 30] (by decide +kernel) (by decide +kernel)
set_option maxRecDepth 20000 in
theorem gX3_lift_J6_bitCount_0f7a4 : GoodIn wsX3_lift (va_wsS RX3 91 yJ6_bitCount_0f7a4 wsJ6_bitCount_0f7a4) := goodIn_app (goodIn_of _ (by decide +kernel)) ggX3_lift_J6_bitCount_0f7a4
theorem dX3_lift_0 : decode cX3_lift 0 = .ok (.aload_n 0, 1) := by decide +kernel
theorem dX3_lift_1 : decode cX3_lift 1 = .ok (.iload_n 1, 1) := by decide +kernel
theorem dX3_lift_2 : decode cX3_lift 2 = .ok (.invokevirtual 130, 3) := by decide +kernel
theorem dX3_lift_5 : decode cX3_lift 5 = .ok (.aload_n 0, 1) := by decide +kernel
theorem dX3_lift_6 : decode cX3_lift 6 = .ok (.getfield 19, 3) := by decide +kernel
theorem dX3_lift_9 : decode cX3_lift 9 = .ok (.getfield 179, 3) := by decide +kernel
theorem dX3_lift_12 : decode cX3_lift 12 = .ok (.iload_n 1, 1) := by decide +kernel
theorem dX3_lift_13 : decode cX3_lift 13 = .ok (.invokestatic 73, 3) := by decide +kernel
theorem dX3_lift_16 : decode cX3_lift 16 = .ok (.ifCond .ne 13, 3) := by decide +kernel
theorem dX3_lift_19 : decode cX3_lift 19 = .ok (.new 58, 3) := by decide +kernel
theorem dX3_lift_22 : decode cX3_lift 22 = .ok (.dup, 1) := by decide +kernel
theorem dX3_lift_23 : decode cX3_lift 23 = .ok (.ldc 184, 2) := by decide +kernel
theorem dX3_lift_25 : decode cX3_lift 25 = .ok (.invokespecial 62, 3) := by decide +kernel
theorem dX3_lift_28 : decode cX3_lift 28 = .ok (.athrow, 1) := by decide +kernel
theorem dX3_lift_29 : decode cX3_lift 29 = .ok (.aload_n 0, 1) := by decide +kernel
theorem dX3_lift_30 : decode cX3_lift 30 = .ok (.getfield 19, 3) := by decide +kernel
theorem dX3_lift_33 : decode cX3_lift 33 = .ok (.invokevirtual 118, 3) := by decide +kernel
theorem dX3_lift_36 : decode cX3_lift 36 = .ok (.istore_n 2, 1) := by decide +kernel
theorem dX3_lift_37 : decode cX3_lift 37 = .ok (.aload_n 0, 1) := by decide +kernel
theorem dX3_lift_38 : decode cX3_lift 38 = .ok (.getfield 19, 3) := by decide +kernel
theorem dX3_lift_41 : decode cX3_lift 41 = .ok (.dup, 1) := by decide +kernel
theorem dX3_lift_42 : decode cX3_lift 42 = .ok (.getfield 179, 3) := by decide +kernel
theorem dX3_lift_45 : decode cX3_lift 45 = .ok (.iload_n 1, 1) := by decide +kernel
theorem dX3_lift_46 : decode cX3_lift 46 = .ok (.invokestatic 83, 3) := by decide +kernel
theorem dX3_lift_49 : decode cX3_lift 49 = .ok (.iconst (-1), 1) := by decide +kernel
theorem dX3_lift_50 : decode cX3_lift 50 = .ok (.ixor, 1) := by decide +kernel
theorem dX3_lift_51 : decode cX3_lift 51 = .ok (.iand, 1) := by decide +kernel
theorem dX3_lift_52 : decode cX3_lift 52 = .ok (.putfield 179, 3) := by decide +kernel
theorem dX3_lift_55 : decode cX3_lift 55 = .ok (.iload_n 2, 1) := by decide +kernel
theorem dX3_lift_56 : decode cX3_lift 56 = .ok (.aload_n 0, 1) := by decide +kernel
theorem dX3_lift_57 : decode cX3_lift 57 = .ok (.getfield 19, 3) := by decide +kernel
theorem dX3_lift_60 : decode cX3_lift 60 = .ok (.invokevirtual 118, 3) := by decide +kernel
theorem dX3_lift_63 : decode cX3_lift 63 = .ok (.iconst (-1), 1) := by decide +kernel
theorem dX3_lift_64 : decode cX3_lift 64 = .ok (.ixor, 1) := by decide +kernel
theorem dX3_lift_65 : decode cX3_lift 65 = .ok (.iand, 1) := by decide +kernel
theorem dX3_lift_66 : decode cX3_lift 66 = .ok (.invokestatic 91, 3) := by decide +kernel
theorem dX3_lift_69 : decode cX3_lift 69 = .ok (.ireturn, 1) := by decide +kernel
set_option maxRecDepth 20000 in
theorem ggX3_isRecalled_X3_requireBuild : GoodIn wsX3_isRecalled wsX3_requireBuild := goodIn_ca (goodIn_r _ [6, 7, 8, 1, 22, 23, 24, 25, 26, 27, 28, 29, 30, 31, 32, 33, 34, 35, 36, 37, 38] (by decide +kernel) (by decide +kernel)) (goodIn_sub (fun _ h => List.mem_cons_of_mem _ (List.mem_append_right _ h)) (by decide +kernel))
set_option maxRecDepth 20000 in
theorem gX3_isRecalled_X3_requireBuild : GoodIn wsX3_isRecalled (wsV RX3 130 RX3 yX3_requireBuild wsX3_requireBuild) := goodIn_app (goodIn_of _ (by decide +kernel)) ggX3_isRecalled_X3_requireBuild
set_option maxRecDepth 20000 in
theorem ggX3_isRecalled_X0_recalled : GoodIn wsX3_isRecalled wsX0_recalled := goodIn_r _ [12, 13, 14, 15, 16, 5, 17, 29, 30, 31, 32, 33, 34, 35, 36, 37, 38] (by decide +kernel) (by decide +kernel)
set_option maxRecDepth 20000 in
theorem gX3_isRecalled_X0_recalled_n118 : GoodIn wsX3_isRecalled (wsX0_recalled) := ggX3_isRecalled_X0_recalled
set_option maxRecDepth 20000 in
theorem ggX3_isRecalled_X3_holds : GoodIn wsX3_isRecalled wsX3_holds := goodIn_r _ [20, 21, 16, 5, 17] (by decide +kernel) (by decide +kernel)
set_option maxRecDepth 20000 in
theorem gX3_isRecalled_X3_holds : GoodIn wsX3_isRecalled (va_wsS RX3 73 yX3_holds wsX3_holds) := goodIn_app (goodIn_of _ (by decide +kernel)) ggX3_isRecalled_X3_holds
theorem dX3_isRecalled_0 : decode cX3_isRecalled 0 = .ok (.aload_n 0, 1) := by decide +kernel
theorem dX3_isRecalled_1 : decode cX3_isRecalled 1 = .ok (.iload_n 1, 1) := by decide +kernel
theorem dX3_isRecalled_2 : decode cX3_isRecalled 2 = .ok (.invokevirtual 130, 3) := by decide +kernel
theorem dX3_isRecalled_5 : decode cX3_isRecalled 5 = .ok (.aload_n 0, 1) := by decide +kernel
theorem dX3_isRecalled_6 : decode cX3_isRecalled 6 = .ok (.getfield 19, 3) := by decide +kernel
theorem dX3_isRecalled_9 : decode cX3_isRecalled 9 = .ok (.invokevirtual 118, 3) := by decide +kernel
theorem dX3_isRecalled_12 : decode cX3_isRecalled 12 = .ok (.iload_n 1, 1) := by decide +kernel
theorem dX3_isRecalled_13 : decode cX3_isRecalled 13 = .ok (.invokestatic 73, 3) := by decide +kernel
theorem dX3_isRecalled_16 : decode cX3_isRecalled 16 = .ok (.ireturn, 1) := by decide +kernel
set_option maxRecDepth 20000 in
theorem ggX3_rebuild_X3_requireBuild : GoodIn wsX3_rebuild wsX3_requireBuild := goodIn_ca (goodIn_r _ [8, 9, 10, 3, 11, 12, 13, 14, 15, 16, 17, 18, 19, 20, 21, 22, 23, 24, 25, 26, 27] (by decide +kernel) (by decide +kernel)) (goodIn_sub (fun _ h => List.mem_cons_of_mem _ (List.mem_append_right _ h)) (by decide +kernel))
set_option maxRecDepth 20000 in
theorem gX3_rebuild_X3_requireBuild : GoodIn wsX3_rebuild (wsV RX3 130 RX3 yX3_requireBuild wsX3_requireBuild) := goodIn_app (goodIn_of _ (by decide +kernel)) ggX3_rebuild_X3_requireBuild
theorem dX3_rebuild_0 : decode cX3_rebuild 0 = .ok (.aload_n 0, 1) := by decide +kernel
theorem dX3_rebuild_1 : decode cX3_rebuild 1 = .ok (.iload_n 1, 1) := by decide +kernel
theorem dX3_rebuild_2 : decode cX3_rebuild 2 = .ok (.invokevirtual 130, 3) := by decide +kernel
theorem dX3_rebuild_5 : decode cX3_rebuild 5 = .ok (.aload_n 0, 1) := by decide +kernel
theorem dX3_rebuild_6 : decode cX3_rebuild 6 = .ok (.getfield 19, 3) := by decide +kernel
theorem dX3_rebuild_9 : decode cX3_rebuild 9 = .ok (.getfield 186, 3) := by decide +kernel
theorem dX3_rebuild_12 : decode cX3_rebuild 12 = .ok (.iload_n 1, 1) := by decide +kernel
theorem dX3_rebuild_13 : decode cX3_rebuild 13 = .ok (.iaload, 1) := by decide +kernel
theorem dX3_rebuild_14 : decode cX3_rebuild 14 = .ok (.bipush 99, 2) := by decide +kernel
theorem dX3_rebuild_16 : decode cX3_rebuild 16 = .ok (.if_icmp .lt 13, 3) := by decide +kernel
theorem dX3_rebuild_19 : decode cX3_rebuild 19 = .ok (.new 58, 3) := by decide +kernel
theorem dX3_rebuild_22 : decode cX3_rebuild 22 = .ok (.dup, 1) := by decide +kernel
theorem dX3_rebuild_23 : decode cX3_rebuild 23 = .ok (.ldc 189, 2) := by decide +kernel
theorem dX3_rebuild_25 : decode cX3_rebuild 25 = .ok (.invokespecial 62, 3) := by decide +kernel
theorem dX3_rebuild_28 : decode cX3_rebuild 28 = .ok (.athrow, 1) := by decide +kernel
theorem dX3_rebuild_29 : decode cX3_rebuild 29 = .ok (.iload_n 2, 1) := by decide +kernel
theorem dX3_rebuild_30 : decode cX3_rebuild 30 = .ok (.aload_n 0, 1) := by decide +kernel
theorem dX3_rebuild_31 : decode cX3_rebuild 31 = .ok (.getfield 19, 3) := by decide +kernel
theorem dX3_rebuild_34 : decode cX3_rebuild 34 = .ok (.getfield 191, 3) := by decide +kernel
theorem dX3_rebuild_37 : decode cX3_rebuild 37 = .ok (.iload_n 1, 1) := by decide +kernel
theorem dX3_rebuild_38 : decode cX3_rebuild 38 = .ok (.iaload, 1) := by decide +kernel
theorem dX3_rebuild_39 : decode cX3_rebuild 39 = .ok (.if_icmp .ne 7, 3) := by decide +kernel
theorem dX3_rebuild_42 : decode cX3_rebuild 42 = .ok (.iconst 1, 1) := by decide +kernel
theorem dX3_rebuild_43 : decode cX3_rebuild 43 = .ok (.goto 4, 3) := by decide +kernel
theorem dX3_rebuild_46 : decode cX3_rebuild 46 = .ok (.iconst 0, 1) := by decide +kernel
theorem dX3_rebuild_47 : decode cX3_rebuild 47 = .ok (.istore_n 3, 1) := by decide +kernel
theorem dX3_rebuild_48 : decode cX3_rebuild 48 = .ok (.aload_n 0, 1) := by decide +kernel
theorem dX3_rebuild_49 : decode cX3_rebuild 49 = .ok (.getfield 19, 3) := by decide +kernel
theorem dX3_rebuild_52 : decode cX3_rebuild 52 = .ok (.getfield 186, 3) := by decide +kernel
theorem dX3_rebuild_55 : decode cX3_rebuild 55 = .ok (.iload_n 1, 1) := by decide +kernel
theorem dX3_rebuild_56 : decode cX3_rebuild 56 = .ok (.dup2, 1) := by decide +kernel
theorem dX3_rebuild_57 : decode cX3_rebuild 57 = .ok (.iaload, 1) := by decide +kernel
theorem dX3_rebuild_58 : decode cX3_rebuild 58 = .ok (.iconst 1, 1) := by decide +kernel
theorem dX3_rebuild_59 : decode cX3_rebuild 59 = .ok (.iadd, 1) := by decide +kernel
theorem dX3_rebuild_60 : decode cX3_rebuild 60 = .ok (.iastore, 1) := by decide +kernel
theorem dX3_rebuild_61 : decode cX3_rebuild 61 = .ok (.iload_n 3, 1) := by decide +kernel
theorem dX3_rebuild_62 : decode cX3_rebuild 62 = .ok (.ifCond .eq 16, 3) := by decide +kernel
theorem dX3_rebuild_65 : decode cX3_rebuild 65 = .ok (.aload_n 0, 1) := by decide +kernel
theorem dX3_rebuild_66 : decode cX3_rebuild 66 = .ok (.getfield 19, 3) := by decide +kernel
theorem dX3_rebuild_69 : decode cX3_rebuild 69 = .ok (.getfield 194, 3) := by decide +kernel
theorem dX3_rebuild_72 : decode cX3_rebuild 72 = .ok (.iload_n 1, 1) := by decide +kernel
theorem dX3_rebuild_73 : decode cX3_rebuild 73 = .ok (.dup2, 1) := by decide +kernel
theorem dX3_rebuild_74 : decode cX3_rebuild 74 = .ok (.iaload, 1) := by decide +kernel
theorem dX3_rebuild_75 : decode cX3_rebuild 75 = .ok (.iconst 1, 1) := by decide +kernel
theorem dX3_rebuild_76 : decode cX3_rebuild 76 = .ok (.iadd, 1) := by decide +kernel
theorem dX3_rebuild_77 : decode cX3_rebuild 77 = .ok (.iastore, 1) := by decide +kernel
theorem dX3_rebuild_78 : decode cX3_rebuild 78 = .ok (.iload_n 3, 1) := by decide +kernel
theorem dX3_rebuild_79 : decode cX3_rebuild 79 = .ok (.ireturn, 1) := by decide +kernel
set_option maxRecDepth 20000 in
theorem ggX3_share_X3_requireBuild : GoodIn wsX3_share wsX3_requireBuild := goodIn_ca (goodIn_r _ [8, 9, 10, 3, 11, 12, 13, 14, 15, 16, 17, 18, 19, 20, 21, 22, 23, 24, 25, 26, 27] (by decide +kernel) (by decide +kernel)) (goodIn_sub (fun _ h => List.mem_cons_of_mem _ (List.mem_append_right _ h)) (by decide +kernel))
set_option maxRecDepth 20000 in
theorem gX3_share_X3_requireBuild : GoodIn wsX3_share (wsV RX3 130 RX3 yX3_requireBuild wsX3_requireBuild) := goodIn_app (goodIn_of _ (by decide +kernel)) ggX3_share_X3_requireBuild
theorem dX3_share_0 : decode cX3_share 0 = .ok (.aload_n 0, 1) := by decide +kernel
theorem dX3_share_1 : decode cX3_share 1 = .ok (.iload_n 1, 1) := by decide +kernel
theorem dX3_share_2 : decode cX3_share 2 = .ok (.invokevirtual 130, 3) := by decide +kernel
theorem dX3_share_5 : decode cX3_share 5 = .ok (.aload_n 0, 1) := by decide +kernel
theorem dX3_share_6 : decode cX3_share 6 = .ok (.getfield 19, 3) := by decide +kernel
theorem dX3_share_9 : decode cX3_share 9 = .ok (.getfield 186, 3) := by decide +kernel
theorem dX3_share_12 : decode cX3_share 12 = .ok (.iload_n 1, 1) := by decide +kernel
theorem dX3_share_13 : decode cX3_share 13 = .ok (.iaload, 1) := by decide +kernel
theorem dX3_share_14 : decode cX3_share 14 = .ok (.istore_n 2, 1) := by decide +kernel
theorem dX3_share_15 : decode cX3_share 15 = .ok (.iload_n 2, 1) := by decide +kernel
theorem dX3_share_16 : decode cX3_share 16 = .ok (.ifCond .gt 13, 3) := by decide +kernel
theorem dX3_share_19 : decode cX3_share 19 = .ok (.new 197, 3) := by decide +kernel
theorem dX3_share_22 : decode cX3_share 22 = .ok (.dup, 1) := by decide +kernel
theorem dX3_share_23 : decode cX3_share 23 = .ok (.ldc 199, 2) := by decide +kernel
theorem dX3_share_25 : decode cX3_share 25 = .ok (.invokespecial 201, 3) := by decide +kernel
theorem dX3_share_28 : decode cX3_share 28 = .ok (.athrow, 1) := by decide +kernel
theorem dX3_share_29 : decode cX3_share 29 = .ok (.aload_n 0, 1) := by decide +kernel
theorem dX3_share_30 : decode cX3_share 30 = .ok (.getfield 19, 3) := by decide +kernel
theorem dX3_share_33 : decode cX3_share 33 = .ok (.getfield 194, 3) := by decide +kernel
theorem dX3_share_36 : decode cX3_share 36 = .ok (.iload_n 1, 1) := by decide +kernel
theorem dX3_share_37 : decode cX3_share 37 = .ok (.iaload, 1) := by decide +kernel
theorem dX3_share_38 : decode cX3_share 38 = .ok (.i2f, 1) := by decide +kernel
theorem dX3_share_39 : decode cX3_share 39 = .ok (.iload_n 2, 1) := by decide +kernel
theorem dX3_share_40 : decode cX3_share 40 = .ok (.i2f, 1) := by decide +kernel
theorem dX3_share_41 : decode cX3_share 41 = .ok (.fdiv, 1) := by decide +kernel
theorem dX3_share_42 : decode cX3_share 42 = .ok (.freturn, 1) := by decide +kernel
set_option maxRecDepth 20000 in
theorem ggX3_addMirror_X2_append : GoodIn wsX3_addMirror wsX2_append := goodIn_r _ [7, 8, 9, 10, 18, 19, 20] (by decide +kernel) (by decide +kernel)
set_option maxRecDepth 20000 in
theorem gX3_addMirror_X2_append_n205 : GoodIn wsX3_addMirror (wsX2_append) := ggX3_addMirror_X2_append
theorem dX3_addMirror_0 : decode cX3_addMirror 0 = .ok (.aload_n 0, 1) := by decide +kernel
theorem dX3_addMirror_1 : decode cX3_addMirror 1 = .ok (.getfield 26, 3) := by decide +kernel
theorem dX3_addMirror_4 : decode cX3_addMirror 4 = .ok (.getfield 202, 3) := by decide +kernel
theorem dX3_addMirror_7 : decode cX3_addMirror 7 = .ok (.iconst 3, 1) := by decide +kernel
theorem dX3_addMirror_8 : decode cX3_addMirror 8 = .ok (.if_icmp .lt 13, 3) := by decide +kernel
theorem dX3_addMirror_11 : decode cX3_addMirror 11 = .ok (.new 58, 3) := by decide +kernel
theorem dX3_addMirror_14 : decode cX3_addMirror 14 = .ok (.dup, 1) := by decide +kernel
theorem dX3_addMirror_15 : decode cX3_addMirror 15 = .ok (.ldc 203, 2) := by decide +kernel
theorem dX3_addMirror_17 : decode cX3_addMirror 17 = .ok (.invokespecial 62, 3) := by decide +kernel
theorem dX3_addMirror_20 : decode cX3_addMirror 20 = .ok (.athrow, 1) := by decide +kernel
theorem dX3_addMirror_21 : decode cX3_addMirror 21 = .ok (.aload_n 0, 1) := by decide +kernel
theorem dX3_addMirror_22 : decode cX3_addMirror 22 = .ok (.getfield 26, 3) := by decide +kernel
theorem dX3_addMirror_25 : decode cX3_addMirror 25 = .ok (.invokevirtual 205, 3) := by decide +kernel
theorem dX3_addMirror_28 : decode cX3_addMirror 28 = .ok (.ireturn, 1) := by decide +kernel
set_option maxRecDepth 20000 in
theorem ggX3_update_X3_requireMirror : GoodIn wsX3_update wsX3_requireMirror := goodIn_ca (goodIn_r _ [8, 9, 10, 1, 23, 24, 25, 26, 27, 28, 29, 30, 31, 32] (by decide +kernel) (by decide +kernel)) (goodIn_sub (fun _ h => List.mem_cons_of_mem _ (List.mem_append_right _ h)) (by decide +kernel))
set_option maxRecDepth 20000 in
theorem gX3_update_X3_requireMirror : GoodIn wsX3_update (wsV RX3 207 RX3 yX3_requireMirror wsX3_requireMirror) := goodIn_app (goodIn_of _ (by decide +kernel)) ggX3_update_X3_requireMirror
set_option maxRecDepth 20000 in
theorem ggX3_update_X0_all : GoodIn wsX3_update wsX0_all := goodIn_r _ [14, 15, 16, 7, 17, 33, 34, 35, 36, 37, 38, 39, 40, 41, 42] (by decide +kernel) (by decide +kernel)
set_option maxRecDepth 20000 in
theorem gX3_update_X0_all_n113 : GoodIn wsX3_update (wsX0_all) := ggX3_update_X0_all
set_option maxRecDepth 20000 in
theorem ggX3_update_X0_recalled : GoodIn wsX3_update wsX0_recalled := goodIn_r _ [20, 21, 15, 22, 16, 7, 17, 33, 34, 35, 36, 37, 38, 39, 40, 41, 42] (by decide +kernel) (by decide +kernel)
set_option maxRecDepth 20000 in
theorem gX3_update_X0_recalled_n118 : GoodIn wsX3_update (wsX0_recalled) := ggX3_update_X0_recalled
theorem dX3_update_0 : decode cX3_update 0 = .ok (.aload_n 0, 1) := by decide +kernel
theorem dX3_update_1 : decode cX3_update 1 = .ok (.iload_n 1, 1) := by decide +kernel
theorem dX3_update_2 : decode cX3_update 2 = .ok (.invokevirtual 207, 3) := by decide +kernel
theorem dX3_update_5 : decode cX3_update 5 = .ok (.aload_n 0, 1) := by decide +kernel
theorem dX3_update_6 : decode cX3_update 6 = .ok (.getfield 26, 3) := by decide +kernel
theorem dX3_update_9 : decode cX3_update 9 = .ok (.getfield 210, 3) := by decide +kernel
theorem dX3_update_12 : decode cX3_update 12 = .ok (.iload_n 1, 1) := by decide +kernel
theorem dX3_update_13 : decode cX3_update 13 = .ok (.aload_n 0, 1) := by decide +kernel
theorem dX3_update_14 : decode cX3_update 14 = .ok (.getfield 19, 3) := by decide +kernel
theorem dX3_update_17 : decode cX3_update 17 = .ok (.invokevirtual 113, 3) := by decide +kernel
theorem dX3_update_20 : decode cX3_update 20 = .ok (.aload_n 0, 1) := by decide +kernel
theorem dX3_update_21 : decode cX3_update 21 = .ok (.getfield 19, 3) := by decide +kernel
theorem dX3_update_24 : decode cX3_update 24 = .ok (.invokevirtual 118, 3) := by decide +kernel
theorem dX3_update_27 : decode cX3_update 27 = .ok (.iconst (-1), 1) := by decide +kernel
theorem dX3_update_28 : decode cX3_update 28 = .ok (.ixor, 1) := by decide +kernel
theorem dX3_update_29 : decode cX3_update 29 = .ok (.iand, 1) := by decide +kernel
theorem dX3_update_30 : decode cX3_update 30 = .ok (.iastore, 1) := by decide +kernel
theorem dX3_update_31 : decode cX3_update 31 = .ok (.aload_n 0, 1) := by decide +kernel
theorem dX3_update_32 : decode cX3_update 32 = .ok (.getfield 26, 3) := by decide +kernel
theorem dX3_update_35 : decode cX3_update 35 = .ok (.getfield 213, 3) := by decide +kernel
theorem dX3_update_38 : decode cX3_update 38 = .ok (.iload_n 1, 1) := by decide +kernel
theorem dX3_update_39 : decode cX3_update 39 = .ok (.aload_n 0, 1) := by decide +kernel
theorem dX3_update_40 : decode cX3_update 40 = .ok (.getfield 41, 3) := by decide +kernel
theorem dX3_update_43 : decode cX3_update 43 = .ok (.iastore, 1) := by decide +kernel
theorem dX3_update_44 : decode cX3_update 44 = .ok (.aload_n 0, 1) := by decide +kernel
theorem dX3_update_45 : decode cX3_update 45 = .ok (.getfield 19, 3) := by decide +kernel
theorem dX3_update_48 : decode cX3_update 48 = .ok (.getfield 126, 3) := by decide +kernel
theorem dX3_update_51 : decode cX3_update 51 = .ok (.ireturn, 1) := by decide +kernel
set_option maxRecDepth 20000 in
theorem ggX3_isExpired_X3_requireMirror : GoodIn wsX3_isExpired wsX3_requireMirror := goodIn_ca (goodIn_r _ [5, 6, 7, 8, 15, 16, 17, 18, 19, 20, 21, 22, 23, 24] (by decide +kernel) (by decide +kernel)) (goodIn_sub (fun _ h => List.mem_cons_of_mem _ (List.mem_append_right _ h)) (by decide +kernel))
set_option maxRecDepth 20000 in
theorem gX3_isExpired_X3_requireMirror : GoodIn wsX3_isExpired (wsV RX3 207 RX3 yX3_requireMirror wsX3_requireMirror) := goodIn_app (goodIn_of _ (by decide +kernel)) ggX3_isExpired_X3_requireMirror
set_option maxRecDepth 20000 in
theorem ggX3_isExpired_X3_hasExpired : GoodIn wsX3_isExpired wsX3_hasExpired := goodIn_r _ [12, 8, 13, 14, 15, 16, 17, 18, 19, 20, 21, 22, 23, 24] (by decide +kernel) (by decide +kernel)
set_option maxRecDepth 20000 in
theorem gX3_isExpired_X3_hasExpired : GoodIn wsX3_isExpired (wsV RX3 216 RX3 yX3_hasExpired wsX3_hasExpired) := goodIn_app (goodIn_of _ (by decide +kernel)) ggX3_isExpired_X3_hasExpired
theorem dX3_isExpired_0 : decode cX3_isExpired 0 = .ok (.aload_n 0, 1) := by decide +kernel
theorem dX3_isExpired_1 : decode cX3_isExpired 1 = .ok (.iload_n 1, 1) := by decide +kernel
theorem dX3_isExpired_2 : decode cX3_isExpired 2 = .ok (.invokevirtual 207, 3) := by decide +kernel
theorem dX3_isExpired_5 : decode cX3_isExpired 5 = .ok (.aload_n 0, 1) := by decide +kernel
theorem dX3_isExpired_6 : decode cX3_isExpired 6 = .ok (.iload_n 1, 1) := by decide +kernel
theorem dX3_isExpired_7 : decode cX3_isExpired 7 = .ok (.invokevirtual 216, 3) := by decide +kernel
theorem dX3_isExpired_10 : decode cX3_isExpired 10 = .ok (.ireturn, 1) := by decide +kernel
theorem dX3_setExpiry_0 : decode cX3_setExpiry 0 = .ok (.iload_n 1, 1) := by decide +kernel
theorem dX3_setExpiry_1 : decode cX3_setExpiry 1 = .ok (.ifCond .lt 9, 3) := by decide +kernel
theorem dX3_setExpiry_4 : decode cX3_setExpiry 4 = .ok (.iload_n 1, 1) := by decide +kernel
theorem dX3_setExpiry_5 : decode cX3_setExpiry 5 = .ok (.bipush 99, 2) := by decide +kernel
theorem dX3_setExpiry_7 : decode cX3_setExpiry 7 = .ok (.if_icmp .le 13, 3) := by decide +kernel
theorem dX3_setExpiry_10 : decode cX3_setExpiry 10 = .ok (.new 48, 3) := by decide +kernel
theorem dX3_setExpiry_13 : decode cX3_setExpiry 13 = .ok (.dup, 1) := by decide +kernel
theorem dX3_setExpiry_14 : decode cX3_setExpiry 14 = .ok (.ldc 220, 2) := by decide +kernel
theorem dX3_setExpiry_16 : decode cX3_setExpiry 16 = .ok (.invokespecial 52, 3) := by decide +kernel
theorem dX3_setExpiry_19 : decode cX3_setExpiry 19 = .ok (.athrow, 1) := by decide +kernel
theorem dX3_setExpiry_20 : decode cX3_setExpiry 20 = .ok (.aload_n 0, 1) := by decide +kernel
theorem dX3_setExpiry_21 : decode cX3_setExpiry 21 = .ok (.getfield 37, 3) := by decide +kernel
theorem dX3_setExpiry_24 : decode cX3_setExpiry 24 = .ok (.istore_n 2, 1) := by decide +kernel
theorem dX3_setExpiry_25 : decode cX3_setExpiry 25 = .ok (.aload_n 0, 1) := by decide +kernel
theorem dX3_setExpiry_26 : decode cX3_setExpiry 26 = .ok (.iload_n 1, 1) := by decide +kernel
theorem dX3_setExpiry_27 : decode cX3_setExpiry 27 = .ok (.putfield 37, 3) := by decide +kernel
theorem dX3_setExpiry_30 : decode cX3_setExpiry 30 = .ok (.iload_n 2, 1) := by decide +kernel
theorem dX3_setExpiry_31 : decode cX3_setExpiry 31 = .ok (.ireturn, 1) := by decide +kernel
set_option maxRecDepth 20000 in
theorem ggX3_install_X3_requireMirror : GoodIn wsX3_install wsX3_requireMirror := goodIn_ca (goodIn_r _ [9, 10, 11, 4, 56, 57, 58, 59, 60, 61, 62, 63, 64, 65] (by decide +kernel) (by decide +kernel)) (goodIn_sub (fun _ h => List.mem_cons_of_mem _ (List.mem_append_left _ (List.mem_append_left _ (List.mem_append_right _ h)))) (by decide +kernel))
set_option maxRecDepth 20000 in
theorem gX3_install_X3_requireMirror : GoodIn wsX3_install (wsV RX3 207 RX3 yX3_requireMirror wsX3_requireMirror) := goodIn_app (goodIn_of _ (by decide +kernel)) ggX3_install_X3_requireMirror
set_option maxRecDepth 20000 in
theorem ggX3_install_X3_requireName : GoodIn wsX3_install wsX3_requireName := goodIn_ca (goodIn_r _ [15, 16, 17] (by decide +kernel) (by decide +kernel)) (goodIn_sub (fun _ h => List.mem_cons_of_mem _ (List.mem_append_left _ (List.mem_append_right _ h))) (by decide +kernel))
set_option maxRecDepth 20000 in
theorem gX3_install_X3_requireName : GoodIn wsX3_install (wsV RX3 108 RX3 yX3_requireName wsX3_requireName) := goodIn_app (goodIn_of _ (by decide +kernel)) ggX3_install_X3_requireName
set_option maxRecDepth 20000 in
theorem ggX3_install_X3_hasExpired : GoodIn wsX3_install wsX3_hasExpired := goodIn_r _ [21, 4, 22, 23, 56, 57, 58, 59, 60, 61, 62, 63, 64, 65] (by decide +kernel) (by decide +kernel)
set_option maxRecDepth 20000 in
theorem gX3_install_X3_hasExpired : GoodIn wsX3_install (wsV RX3 216 RX3 yX3_hasExpired wsX3_hasExpired) := goodIn_app (goodIn_of _ (by decide +kernel)) ggX3_install_X3_hasExpired
set_option maxRecDepth 20000 in
theorem ggX3_install_X3_trustedBuilds : GoodIn wsX3_install wsX3_trustedBuilds := goodIn_r _ [27, 3, 28, 29, 30, 8, 31, 32, 33, 34, 35, 36, 37, 38, 39, 40, 41, 42, 43, 44, 56, 57, 58, 59, 60, 61, 62, 66, 67, 68, 69, 70, 71, 72, 73, 74, 75] (by decide +kernel) (by decide +kernel)
set_option maxRecDepth 20000 in
theorem gX3_install_X3_trustedBuilds : GoodIn wsX3_install (wsV RX3 79 RX3 yX3_trustedBuilds wsX3_trustedBuilds) := goodIn_app (goodIn_of _ (by decide +kernel)) ggX3_install_X3_trustedBuilds
set_option maxRecDepth 20000 in
theorem ggX3_install_X0_newestOf : GoodIn wsX3_install wsX0_newestOf := goodIn_r _ [48, 49, 50, 40, 8, 41, 42, 43, 44, 66, 67, 68, 69, 70, 71, 72, 73, 74, 75] (by decide +kernel) (by decide +kernel)
set_option maxRecDepth 20000 in
theorem gX3_install_X0_newestOf_n142 : GoodIn wsX3_install (wsX0_newestOf) := ggX3_install_X0_newestOf
set_option maxRecDepth 20000 in
theorem ggX3_install_X3_requireFound : GoodIn wsX3_install wsX3_requireFound := goodIn_ca (goodIn_r _ [53, 54, 55] (by decide +kernel) (by decide +kernel)) (goodIn_sub (fun _ h => List.mem_cons_of_mem _ (List.mem_append_right _ h)) (by decide +kernel))
set_option maxRecDepth 20000 in
theorem gX3_install_X3_requireFound : GoodIn wsX3_install (va_wsS RX3 146 yX3_requireFound wsX3_requireFound) := goodIn_app (goodIn_of _ (by decide +kernel)) ggX3_install_X3_requireFound
theorem dX3_install_0 : decode cX3_install 0 = .ok (.aload_n 0, 1) := by decide +kernel
theorem dX3_install_1 : decode cX3_install 1 = .ok (.iload_n 1, 1) := by decide +kernel
theorem dX3_install_2 : decode cX3_install 2 = .ok (.invokevirtual 207, 3) := by decide +kernel
theorem dX3_install_5 : decode cX3_install 5 = .ok (.aload_n 0, 1) := by decide +kernel
theorem dX3_install_6 : decode cX3_install 6 = .ok (.iload_n 2, 1) := by decide +kernel
theorem dX3_install_7 : decode cX3_install 7 = .ok (.invokevirtual 108, 3) := by decide +kernel
theorem dX3_install_10 : decode cX3_install 10 = .ok (.aload_n 0, 1) := by decide +kernel
theorem dX3_install_11 : decode cX3_install 11 = .ok (.iload_n 1, 1) := by decide +kernel
theorem dX3_install_12 : decode cX3_install 12 = .ok (.invokevirtual 216, 3) := by decide +kernel
theorem dX3_install_15 : decode cX3_install 15 = .ok (.ifCond .eq 13, 3) := by decide +kernel
theorem dX3_install_18 : decode cX3_install 18 = .ok (.new 121, 3) := by decide +kernel
theorem dX3_install_21 : decode cX3_install 21 = .ok (.dup, 1) := by decide +kernel
theorem dX3_install_22 : decode cX3_install 22 = .ok (.ldc 222, 2) := by decide +kernel
theorem dX3_install_24 : decode cX3_install 24 = .ok (.invokespecial 125, 3) := by decide +kernel
theorem dX3_install_27 : decode cX3_install 27 = .ok (.athrow, 1) := by decide +kernel
theorem dX3_install_28 : decode cX3_install 28 = .ok (.aload_n 0, 1) := by decide +kernel
theorem dX3_install_29 : decode cX3_install 29 = .ok (.getfield 19, 3) := by decide +kernel
theorem dX3_install_32 : decode cX3_install 32 = .ok (.iload_n 2, 1) := by decide +kernel
theorem dX3_install_33 : decode cX3_install 33 = .ok (.aload_n 0, 1) := by decide +kernel
theorem dX3_install_34 : decode cX3_install 34 = .ok (.invokevirtual 79, 3) := by decide +kernel
theorem dX3_install_37 : decode cX3_install 37 = .ok (.aload_n 0, 1) := by decide +kernel
theorem dX3_install_38 : decode cX3_install 38 = .ok (.getfield 26, 3) := by decide +kernel
theorem dX3_install_41 : decode cX3_install 41 = .ok (.getfield 210, 3) := by decide +kernel
theorem dX3_install_44 : decode cX3_install 44 = .ok (.iload_n 1, 1) := by decide +kernel
theorem dX3_install_45 : decode cX3_install 45 = .ok (.iaload, 1) := by decide +kernel
theorem dX3_install_46 : decode cX3_install 46 = .ok (.iand, 1) := by decide +kernel
theorem dX3_install_47 : decode cX3_install 47 = .ok (.invokevirtual 142, 3) := by decide +kernel
theorem dX3_install_50 : decode cX3_install 50 = .ok (.invokestatic 146, 3) := by decide +kernel
theorem dX3_install_53 : decode cX3_install 53 = .ok (.ireturn, 1) := by decide +kernel
set_option maxRecDepth 20000 in
theorem ggX3_pass_X3_trustedBuilds : GoodIn wsX3_pass wsX3_trustedBuilds := goodIn_r _ [10, 4, 11, 12, 13, 9, 14, 15, 16, 17, 18, 19, 20, 21, 22, 23, 24, 25, 26, 27, 58, 59, 60, 61, 62, 63, 64, 65, 66, 67, 68, 69, 70, 71, 72, 73, 74] (by decide +kernel) (by decide +kernel)
set_option maxRecDepth 20000 in
theorem gX3_pass_X3_trustedBuilds : GoodIn wsX3_pass (wsV RX3 79 RX3 yX3_trustedBuilds wsX3_trustedBuilds) := goodIn_app (goodIn_of _ (by decide +kernel)) ggX3_pass_X3_trustedBuilds
set_option maxRecDepth 20000 in
theorem ggX3_pass_X0_keepVouchers : GoodIn wsX3_pass wsX0_keepVouchers := goodIn_r _ [31, 32, 33, 34, 35, 36, 37, 38, 39, 40, 41, 42, 43, 44, 45, 46, 23, 9, 24, 25, 26, 27, 47, 48, 49, 50, 65, 66, 67, 68, 69, 70, 71, 72, 73, 74, 75, 76, 77, 78, 79] (by decide +kernel) (by decide +kernel)
set_option maxRecDepth 20000 in
theorem gX3_pass_X0_keepVouchers_n87 : GoodIn wsX3_pass (wsX0_keepVouchers) := ggX3_pass_X0_keepVouchers
set_option maxRecDepth 20000 in
theorem ggX3_pass_J6_bitCount_0f7a4 : GoodIn wsX3_pass wsJ6_bitCount_0f7a4 := goodIn_r _ [54, 55, 56, 57] (by decide +kernel) (by decide +kernel)
set_option maxRecDepth 20000 in
theorem gX3_pass_J6_bitCount_0f7a4 : GoodIn wsX3_pass (va_wsS RX3 91 yJ6_bitCount_0f7a4 wsJ6_bitCount_0f7a4) := goodIn_app (goodIn_of _ (by decide +kernel)) ggX3_pass_J6_bitCount_0f7a4
theorem dX3_pass_0 : decode cX3_pass 0 = .ok (.iload_n 1, 1) := by decide +kernel
theorem dX3_pass_1 : decode cX3_pass 1 = .ok (.iconst 1, 1) := by decide +kernel
theorem dX3_pass_2 : decode cX3_pass 2 = .ok (.if_icmp .lt 21, 3) := by decide +kernel
theorem dX3_pass_5 : decode cX3_pass 5 = .ok (.iload_n 1, 1) := by decide +kernel
theorem dX3_pass_6 : decode cX3_pass 6 = .ok (.bipush 60, 2) := by decide +kernel
theorem dX3_pass_8 : decode cX3_pass 8 = .ok (.if_icmp .gt 15, 3) := by decide +kernel
theorem dX3_pass_11 : decode cX3_pass 11 = .ok (.iload_n 1, 1) := by decide +kernel
theorem dX3_pass_12 : decode cX3_pass 12 = .ok (.sipush 999, 3) := by decide +kernel
theorem dX3_pass_15 : decode cX3_pass 15 = .ok (.aload_n 0, 1) := by decide +kernel
theorem dX3_pass_16 : decode cX3_pass 16 = .ok (.getfield 41, 3) := by decide +kernel
theorem dX3_pass_19 : decode cX3_pass 19 = .ok (.isub, 1) := by decide +kernel
theorem dX3_pass_20 : decode cX3_pass 20 = .ok (.if_icmp .le 13, 3) := by decide +kernel
theorem dX3_pass_23 : decode cX3_pass 23 = .ok (.new 48, 3) := by decide +kernel
theorem dX3_pass_26 : decode cX3_pass 26 = .ok (.dup, 1) := by decide +kernel
theorem dX3_pass_27 : decode cX3_pass 27 = .ok (.ldc 224, 2) := by decide +kernel
theorem dX3_pass_29 : decode cX3_pass 29 = .ok (.invokespecial 52, 3) := by decide +kernel
theorem dX3_pass_32 : decode cX3_pass 32 = .ok (.athrow, 1) := by decide +kernel
theorem dX3_pass_33 : decode cX3_pass 33 = .ok (.aload_n 0, 1) := by decide +kernel
theorem dX3_pass_34 : decode cX3_pass 34 = .ok (.invokevirtual 79, 3) := by decide +kernel
theorem dX3_pass_37 : decode cX3_pass 37 = .ok (.istore_n 2, 1) := by decide +kernel
theorem dX3_pass_38 : decode cX3_pass 38 = .ok (.aload_n 0, 1) := by decide +kernel
theorem dX3_pass_39 : decode cX3_pass 39 = .ok (.dup, 1) := by decide +kernel
theorem dX3_pass_40 : decode cX3_pass 40 = .ok (.getfield 41, 3) := by decide +kernel
theorem dX3_pass_43 : decode cX3_pass 43 = .ok (.iload_n 1, 1) := by decide +kernel
theorem dX3_pass_44 : decode cX3_pass 44 = .ok (.iadd, 1) := by decide +kernel
theorem dX3_pass_45 : decode cX3_pass 45 = .ok (.putfield 41, 3) := by decide +kernel
theorem dX3_pass_48 : decode cX3_pass 48 = .ok (.aload_n 0, 1) := by decide +kernel
theorem dX3_pass_49 : decode cX3_pass 49 = .ok (.getfield 19, 3) := by decide +kernel
theorem dX3_pass_52 : decode cX3_pass 52 = .ok (.aload_n 0, 1) := by decide +kernel
theorem dX3_pass_53 : decode cX3_pass 53 = .ok (.getfield 10, 3) := by decide +kernel
theorem dX3_pass_56 : decode cX3_pass 56 = .ok (.aload_n 0, 1) := by decide +kernel
theorem dX3_pass_57 : decode cX3_pass 57 = .ok (.getfield 41, 3) := by decide +kernel
theorem dX3_pass_60 : decode cX3_pass 60 = .ok (.invokevirtual 87, 3) := by decide +kernel
theorem dX3_pass_63 : decode cX3_pass 63 = .ok (.iload_n 2, 1) := by decide +kernel
theorem dX3_pass_64 : decode cX3_pass 64 = .ok (.aload_n 0, 1) := by decide +kernel
theorem dX3_pass_65 : decode cX3_pass 65 = .ok (.invokevirtual 79, 3) := by decide +kernel
theorem dX3_pass_68 : decode cX3_pass 68 = .ok (.iconst (-1), 1) := by decide +kernel
theorem dX3_pass_69 : decode cX3_pass 69 = .ok (.ixor, 1) := by decide +kernel
theorem dX3_pass_70 : decode cX3_pass 70 = .ok (.iand, 1) := by decide +kernel
theorem dX3_pass_71 : decode cX3_pass 71 = .ok (.invokestatic 91, 3) := by decide +kernel
theorem dX3_pass_74 : decode cX3_pass 74 = .ok (.ireturn, 1) := by decide +kernel
theorem dX3_day_0 : decode cX3_day 0 = .ok (.aload_n 0, 1) := by decide +kernel
theorem dX3_day_1 : decode cX3_day 1 = .ok (.getfield 41, 3) := by decide +kernel
theorem dX3_day_4 : decode cX3_day 4 = .ok (.ireturn, 1) := by decide +kernel
set_option maxRecDepth 20000 in
theorem ggX3_scoreSumBits_X3_scoreFrom : GoodIn wsX3_scoreSumBits wsX3_scoreFrom := goodIn_r _ [6, 7, 8, 9, 10, 5, 11, 12, 13, 14, 22, 23, 24, 25, 26, 27, 28] (by decide +kernel) (by decide +kernel)
set_option maxRecDepth 20000 in
theorem gX3_scoreSumBits_X3_scoreFrom : GoodIn wsX3_scoreSumBits (wsV RX3 168 RX3 yX3_scoreFrom wsX3_scoreFrom) := goodIn_app (goodIn_of _ (by decide +kernel)) ggX3_scoreSumBits_X3_scoreFrom
set_option maxRecDepth 20000 in
theorem ggX3_scoreSumBits_X3_doubleBits : GoodIn wsX3_scoreSumBits wsX3_doubleBits := goodIn_r _ [17, 18, 19, 20, 21] (by decide +kernel) (by decide +kernel)
set_option maxRecDepth 20000 in
theorem gX3_scoreSumBits_X3_doubleBits : GoodIn wsX3_scoreSumBits (va_wsS RX3 226 yX3_doubleBits wsX3_doubleBits) := goodIn_app (goodIn_of _ (by decide +kernel)) ggX3_scoreSumBits_X3_doubleBits
theorem dX3_scoreSumBits_0 : decode cX3_scoreSumBits 0 = .ok (.dconst 0, 1) := by decide +kernel
theorem dX3_scoreSumBits_1 : decode cX3_scoreSumBits 1 = .ok (.dstore_n 1, 1) := by decide +kernel
theorem dX3_scoreSumBits_2 : decode cX3_scoreSumBits 2 = .ok (.iconst 0, 1) := by decide +kernel
theorem dX3_scoreSumBits_3 : decode cX3_scoreSumBits 3 = .ok (.istore_n 3, 1) := by decide +kernel
theorem dX3_scoreSumBits_4 : decode cX3_scoreSumBits 4 = .ok (.iload_n 3, 1) := by decide +kernel
theorem dX3_scoreSumBits_5 : decode cX3_scoreSumBits 5 = .ok (.aload_n 0, 1) := by decide +kernel
theorem dX3_scoreSumBits_6 : decode cX3_scoreSumBits 6 = .ok (.getfield 19, 3) := by decide +kernel
theorem dX3_scoreSumBits_9 : decode cX3_scoreSumBits 9 = .ok (.getfield 126, 3) := by decide +kernel
theorem dX3_scoreSumBits_12 : decode cX3_scoreSumBits 12 = .ok (.if_icmp .ge 26, 3) := by decide +kernel
theorem dX3_scoreSumBits_15 : decode cX3_scoreSumBits 15 = .ok (.dload_n 1, 1) := by decide +kernel
theorem dX3_scoreSumBits_16 : decode cX3_scoreSumBits 16 = .ok (.aload_n 0, 1) := by decide +kernel
theorem dX3_scoreSumBits_17 : decode cX3_scoreSumBits 17 = .ok (.aload_n 0, 1) := by decide +kernel
theorem dX3_scoreSumBits_18 : decode cX3_scoreSumBits 18 = .ok (.getfield 19, 3) := by decide +kernel
theorem dX3_scoreSumBits_21 : decode cX3_scoreSumBits 21 = .ok (.getfield 156, 3) := by decide +kernel
theorem dX3_scoreSumBits_24 : decode cX3_scoreSumBits 24 = .ok (.iload_n 3, 1) := by decide +kernel
theorem dX3_scoreSumBits_25 : decode cX3_scoreSumBits 25 = .ok (.iaload, 1) := by decide +kernel
theorem dX3_scoreSumBits_26 : decode cX3_scoreSumBits 26 = .ok (.invokevirtual 168, 3) := by decide +kernel
theorem dX3_scoreSumBits_29 : decode cX3_scoreSumBits 29 = .ok (.f2d, 1) := by decide +kernel
theorem dX3_scoreSumBits_30 : decode cX3_scoreSumBits 30 = .ok (.dadd, 1) := by decide +kernel
theorem dX3_scoreSumBits_31 : decode cX3_scoreSumBits 31 = .ok (.dstore_n 1, 1) := by decide +kernel
theorem dX3_scoreSumBits_32 : decode cX3_scoreSumBits 32 = .ok (.iinc 3 1, 3) := by decide +kernel
theorem dX3_scoreSumBits_35 : decode cX3_scoreSumBits 35 = .ok (.goto (-31), 3) := by decide +kernel
theorem dX3_scoreSumBits_38 : decode cX3_scoreSumBits 38 = .ok (.dload_n 1, 1) := by decide +kernel
theorem dX3_scoreSumBits_39 : decode cX3_scoreSumBits 39 = .ok (.invokestatic 226, 3) := by decide +kernel
theorem dX3_scoreSumBits_42 : decode cX3_scoreSumBits 42 = .ok (.lreturn, 1) := by decide +kernel
set_option maxRecDepth 20000 in
theorem ggX3_scoreFrom_X3_holds : GoodIn wsX3_scoreFrom wsX3_holds := goodIn_r _ [6, 7, 8, 5, 9] (by decide +kernel) (by decide +kernel)
set_option maxRecDepth 20000 in
theorem gX3_scoreFrom_X3_holds : GoodIn wsX3_scoreFrom (va_wsS RX3 73 yX3_holds wsX3_holds) := goodIn_app (goodIn_of _ (by decide +kernel)) ggX3_scoreFrom_X3_holds
theorem dX3_scoreFrom_0 : decode cX3_scoreFrom 0 = .ok (.fconst 0, 1) := by decide +kernel
theorem dX3_scoreFrom_1 : decode cX3_scoreFrom 1 = .ok (.fstore_n 2, 1) := by decide +kernel
theorem dX3_scoreFrom_2 : decode cX3_scoreFrom 2 = .ok (.iconst 0, 1) := by decide +kernel
theorem dX3_scoreFrom_3 : decode cX3_scoreFrom 3 = .ok (.istore_n 3, 1) := by decide +kernel
theorem dX3_scoreFrom_4 : decode cX3_scoreFrom 4 = .ok (.iload_n 3, 1) := by decide +kernel
theorem dX3_scoreFrom_5 : decode cX3_scoreFrom 5 = .ok (.iconst 4, 1) := by decide +kernel
theorem dX3_scoreFrom_6 : decode cX3_scoreFrom 6 = .ok (.if_icmp .ge 30, 3) := by decide +kernel
theorem dX3_scoreFrom_9 : decode cX3_scoreFrom 9 = .ok (.iload_n 1, 1) := by decide +kernel
theorem dX3_scoreFrom_10 : decode cX3_scoreFrom 10 = .ok (.iload_n 3, 1) := by decide +kernel
theorem dX3_scoreFrom_11 : decode cX3_scoreFrom 11 = .ok (.invokestatic 73, 3) := by decide +kernel
theorem dX3_scoreFrom_14 : decode cX3_scoreFrom 14 = .ok (.ifCond .eq 16, 3) := by decide +kernel
theorem dX3_scoreFrom_17 : decode cX3_scoreFrom 17 = .ok (.fload_n 2, 1) := by decide +kernel
theorem dX3_scoreFrom_18 : decode cX3_scoreFrom 18 = .ok (.aload_n 0, 1) := by decide +kernel
theorem dX3_scoreFrom_19 : decode cX3_scoreFrom 19 = .ok (.getfield 30, 3) := by decide +kernel
theorem dX3_scoreFrom_22 : decode cX3_scoreFrom 22 = .ok (.iload_n 3, 1) := by decide +kernel
theorem dX3_scoreFrom_23 : decode cX3_scoreFrom 23 = .ok (.iaload, 1) := by decide +kernel
theorem dX3_scoreFrom_24 : decode cX3_scoreFrom 24 = .ok (.i2f, 1) := by decide +kernel
theorem dX3_scoreFrom_25 : decode cX3_scoreFrom 25 = .ok (.ldc 230, 2) := by decide +kernel
theorem dX3_scoreFrom_27 : decode cX3_scoreFrom 27 = .ok (.fdiv, 1) := by decide +kernel
theorem dX3_scoreFrom_28 : decode cX3_scoreFrom 28 = .ok (.fadd, 1) := by decide +kernel
theorem dX3_scoreFrom_29 : decode cX3_scoreFrom 29 = .ok (.fstore_n 2, 1) := by decide +kernel
theorem dX3_scoreFrom_30 : decode cX3_scoreFrom 30 = .ok (.iinc 3 1, 3) := by decide +kernel
theorem dX3_scoreFrom_33 : decode cX3_scoreFrom 33 = .ok (.goto (-29), 3) := by decide +kernel
theorem dX3_scoreFrom_36 : decode cX3_scoreFrom 36 = .ok (.fload_n 2, 1) := by decide +kernel
theorem dX3_scoreFrom_37 : decode cX3_scoreFrom 37 = .ok (.freturn, 1) := by decide +kernel
set_option maxRecDepth 20000 in
theorem ggX3_suffices_X3_scoreFrom : GoodIn wsX3_suffices wsX3_scoreFrom := goodIn_r _ [8, 9, 3, 10, 11, 7, 12, 13, 14, 15, 16, 17, 18, 19, 20, 21, 22] (by decide +kernel) (by decide +kernel)
set_option maxRecDepth 20000 in
theorem gX3_suffices_X3_scoreFrom : GoodIn wsX3_suffices (wsV RX3 168 RX3 yX3_scoreFrom wsX3_scoreFrom) := goodIn_app (goodIn_of _ (by decide +kernel)) ggX3_suffices_X3_scoreFrom
theorem dX3_suffices_0 : decode cX3_suffices 0 = .ok (.aload_n 0, 1) := by decide +kernel
theorem dX3_suffices_1 : decode cX3_suffices 1 = .ok (.iload_n 1, 1) := by decide +kernel
theorem dX3_suffices_2 : decode cX3_suffices 2 = .ok (.invokevirtual 168, 3) := by decide +kernel
theorem dX3_suffices_5 : decode cX3_suffices 5 = .ok (.aload_n 0, 1) := by decide +kernel
theorem dX3_suffices_6 : decode cX3_suffices 6 = .ok (.getfield 34, 3) := by decide +kernel
theorem dX3_suffices_9 : decode cX3_suffices 9 = .ok (.aload_n 0, 1) := by decide +kernel
theorem dX3_suffices_10 : decode cX3_suffices 10 = .ok (.getfield 19, 3) := by decide +kernel
theorem dX3_suffices_13 : decode cX3_suffices 13 = .ok (.getfield 133, 3) := by decide +kernel
theorem dX3_suffices_16 : decode cX3_suffices 16 = .ok (.iload_n 2, 1) := by decide +kernel
theorem dX3_suffices_17 : decode cX3_suffices 17 = .ok (.iaload, 1) := by decide +kernel
theorem dX3_suffices_18 : decode cX3_suffices 18 = .ok (.iaload, 1) := by decide +kernel
theorem dX3_suffices_19 : decode cX3_suffices 19 = .ok (.i2f, 1) := by decide +kernel
theorem dX3_suffices_20 : decode cX3_suffices 20 = .ok (.ldc 230, 2) := by decide +kernel
theorem dX3_suffices_22 : decode cX3_suffices 22 = .ok (.fdiv, 1) := by decide +kernel
theorem dX3_suffices_23 : decode cX3_suffices 23 = .ok (.fcmp .l, 1) := by decide +kernel
theorem dX3_suffices_24 : decode cX3_suffices 24 = .ok (.ifCond .lt 7, 3) := by decide +kernel
theorem dX3_suffices_27 : decode cX3_suffices 27 = .ok (.iconst 1, 1) := by decide +kernel
theorem dX3_suffices_28 : decode cX3_suffices 28 = .ok (.goto 4, 3) := by decide +kernel
theorem dX3_suffices_31 : decode cX3_suffices 31 = .ok (.iconst 0, 1) := by decide +kernel
theorem dX3_suffices_32 : decode cX3_suffices 32 = .ok (.ireturn, 1) := by decide +kernel
set_option maxRecDepth 20000 in
theorem ggX3_trustedBuilds_X3_suffices : GoodIn wsX3_trustedBuilds wsX3_suffices := goodIn_r _ [6, 7, 1, 8, 9, 10, 11, 5, 12, 13, 14, 15, 16, 17, 18, 19, 20, 21, 22, 23, 24, 25, 26, 27, 28, 29, 30, 31, 32, 33, 34, 35, 36] (by decide +kernel) (by decide +kernel)
set_option maxRecDepth 20000 in
theorem gX3_trustedBuilds_X3_suffices : GoodIn wsX3_trustedBuilds (wsV RX3 176 RX3 yX3_suffices wsX3_suffices) := goodIn_app (goodIn_of _ (by decide +kernel)) ggX3_trustedBuilds_X3_suffices
set_option maxRecDepth 20000 in
theorem ggX3_trustedBuilds_X3_only : GoodIn wsX3_trustedBuilds wsX3_only := goodIn_r _ [19] (by decide +kernel) (by decide +kernel)
set_option maxRecDepth 20000 in
theorem gX3_trustedBuilds_X3_only : GoodIn wsX3_trustedBuilds (va_wsS RX3 83 yX3_only wsX3_only) := goodIn_app (goodIn_of _ (by decide +kernel)) ggX3_trustedBuilds_X3_only
theorem dX3_trustedBuilds_0 : decode cX3_trustedBuilds 0 = .ok (.iconst 0, 1) := by decide +kernel
theorem dX3_trustedBuilds_1 : decode cX3_trustedBuilds 1 = .ok (.istore_n 1, 1) := by decide +kernel
theorem dX3_trustedBuilds_2 : decode cX3_trustedBuilds 2 = .ok (.iconst 0, 1) := by decide +kernel
theorem dX3_trustedBuilds_3 : decode cX3_trustedBuilds 3 = .ok (.istore_n 2, 1) := by decide +kernel
theorem dX3_trustedBuilds_4 : decode cX3_trustedBuilds 4 = .ok (.iload_n 2, 1) := by decide +kernel
theorem dX3_trustedBuilds_5 : decode cX3_trustedBuilds 5 = .ok (.aload_n 0, 1) := by decide +kernel
theorem dX3_trustedBuilds_6 : decode cX3_trustedBuilds 6 = .ok (.getfield 19, 3) := by decide +kernel
theorem dX3_trustedBuilds_9 : decode cX3_trustedBuilds 9 = .ok (.getfield 126, 3) := by decide +kernel
theorem dX3_trustedBuilds_12 : decode cX3_trustedBuilds 12 = .ok (.if_icmp .ge 33, 3) := by decide +kernel
theorem dX3_trustedBuilds_15 : decode cX3_trustedBuilds 15 = .ok (.aload_n 0, 1) := by decide +kernel
theorem dX3_trustedBuilds_16 : decode cX3_trustedBuilds 16 = .ok (.aload_n 0, 1) := by decide +kernel
theorem dX3_trustedBuilds_17 : decode cX3_trustedBuilds 17 = .ok (.getfield 19, 3) := by decide +kernel
theorem dX3_trustedBuilds_20 : decode cX3_trustedBuilds 20 = .ok (.getfield 156, 3) := by decide +kernel
theorem dX3_trustedBuilds_23 : decode cX3_trustedBuilds 23 = .ok (.iload_n 2, 1) := by decide +kernel
theorem dX3_trustedBuilds_24 : decode cX3_trustedBuilds 24 = .ok (.iaload, 1) := by decide +kernel
theorem dX3_trustedBuilds_25 : decode cX3_trustedBuilds 25 = .ok (.iload_n 2, 1) := by decide +kernel
theorem dX3_trustedBuilds_26 : decode cX3_trustedBuilds 26 = .ok (.invokevirtual 176, 3) := by decide +kernel
theorem dX3_trustedBuilds_29 : decode cX3_trustedBuilds 29 = .ok (.ifCond .eq 10, 3) := by decide +kernel
theorem dX3_trustedBuilds_32 : decode cX3_trustedBuilds 32 = .ok (.iload_n 1, 1) := by decide +kernel
theorem dX3_trustedBuilds_33 : decode cX3_trustedBuilds 33 = .ok (.iload_n 2, 1) := by decide +kernel
theorem dX3_trustedBuilds_34 : decode cX3_trustedBuilds 34 = .ok (.invokestatic 83, 3) := by decide +kernel
theorem dX3_trustedBuilds_37 : decode cX3_trustedBuilds 37 = .ok (.ior, 1) := by decide +kernel
theorem dX3_trustedBuilds_38 : decode cX3_trustedBuilds 38 = .ok (.istore_n 1, 1) := by decide +kernel
theorem dX3_trustedBuilds_39 : decode cX3_trustedBuilds 39 = .ok (.iinc 2 1, 3) := by decide +kernel
theorem dX3_trustedBuilds_42 : decode cX3_trustedBuilds 42 = .ok (.goto (-38), 3) := by decide +kernel
theorem dX3_trustedBuilds_45 : decode cX3_trustedBuilds 45 = .ok (.iload_n 1, 1) := by decide +kernel
theorem dX3_trustedBuilds_46 : decode cX3_trustedBuilds 46 = .ok (.ireturn, 1) := by decide +kernel
theorem dX3_hasExpired_0 : decode cX3_hasExpired 0 = .ok (.aload_n 0, 1) := by decide +kernel
theorem dX3_hasExpired_1 : decode cX3_hasExpired 1 = .ok (.getfield 26, 3) := by decide +kernel
theorem dX3_hasExpired_4 : decode cX3_hasExpired 4 = .ok (.getfield 213, 3) := by decide +kernel
theorem dX3_hasExpired_7 : decode cX3_hasExpired 7 = .ok (.iload_n 1, 1) := by decide +kernel
theorem dX3_hasExpired_8 : decode cX3_hasExpired 8 = .ok (.iaload, 1) := by decide +kernel
theorem dX3_hasExpired_9 : decode cX3_hasExpired 9 = .ok (.istore_n 2, 1) := by decide +kernel
theorem dX3_hasExpired_10 : decode cX3_hasExpired 10 = .ok (.iload_n 2, 1) := by decide +kernel
theorem dX3_hasExpired_11 : decode cX3_hasExpired 11 = .ok (.iconst (-1), 1) := by decide +kernel
theorem dX3_hasExpired_12 : decode cX3_hasExpired 12 = .ok (.if_icmp .eq 16, 3) := by decide +kernel
theorem dX3_hasExpired_15 : decode cX3_hasExpired 15 = .ok (.aload_n 0, 1) := by decide +kernel
theorem dX3_hasExpired_16 : decode cX3_hasExpired 16 = .ok (.getfield 41, 3) := by decide +kernel
theorem dX3_hasExpired_19 : decode cX3_hasExpired 19 = .ok (.iload_n 2, 1) := by decide +kernel
theorem dX3_hasExpired_20 : decode cX3_hasExpired 20 = .ok (.isub, 1) := by decide +kernel
theorem dX3_hasExpired_21 : decode cX3_hasExpired 21 = .ok (.aload_n 0, 1) := by decide +kernel
theorem dX3_hasExpired_22 : decode cX3_hasExpired 22 = .ok (.getfield 37, 3) := by decide +kernel
theorem dX3_hasExpired_25 : decode cX3_hasExpired 25 = .ok (.if_icmp .le 7, 3) := by decide +kernel
theorem dX3_hasExpired_28 : decode cX3_hasExpired 28 = .ok (.iconst 1, 1) := by decide +kernel
theorem dX3_hasExpired_29 : decode cX3_hasExpired 29 = .ok (.goto 4, 3) := by decide +kernel
theorem dX3_hasExpired_32 : decode cX3_hasExpired 32 = .ok (.iconst 0, 1) := by decide +kernel
theorem dX3_hasExpired_33 : decode cX3_hasExpired 33 = .ok (.ireturn, 1) := by decide +kernel
theorem dX3_requireSigner_0 : decode cX3_requireSigner 0 = .ok (.iload_n 1, 1) := by decide +kernel
theorem dX3_requireSigner_1 : decode cX3_requireSigner 1 = .ok (.ifCond .lt 8, 3) := by decide +kernel
theorem dX3_requireSigner_4 : decode cX3_requireSigner 4 = .ok (.iload_n 1, 1) := by decide +kernel
theorem dX3_requireSigner_5 : decode cX3_requireSigner 5 = .ok (.iconst 4, 1) := by decide +kernel
theorem dX3_requireSigner_6 : decode cX3_requireSigner 6 = .ok (.if_icmp .lt 13, 3) := by decide +kernel
theorem dX3_requireSigner_9 : decode cX3_requireSigner 9 = .ok (.new 48, 3) := by decide +kernel
theorem dX3_requireSigner_12 : decode cX3_requireSigner 12 = .ok (.dup, 1) := by decide +kernel
theorem dX3_requireSigner_13 : decode cX3_requireSigner 13 = .ok (.ldc 231, 2) := by decide +kernel
theorem dX3_requireSigner_15 : decode cX3_requireSigner 15 = .ok (.invokespecial 52, 3) := by decide +kernel
theorem dX3_requireSigner_18 : decode cX3_requireSigner 18 = .ok (.athrow, 1) := by decide +kernel
theorem dX3_requireSigner_19 : decode cX3_requireSigner 19 = .ok (.return_, 1) := by decide +kernel
theorem dX3_requireName_0 : decode cX3_requireName 0 = .ok (.iload_n 1, 1) := by decide +kernel
theorem dX3_requireName_1 : decode cX3_requireName 1 = .ok (.ifCond .lt 8, 3) := by decide +kernel
theorem dX3_requireName_4 : decode cX3_requireName 4 = .ok (.iload_n 1, 1) := by decide +kernel
theorem dX3_requireName_5 : decode cX3_requireName 5 = .ok (.iconst 5, 1) := by decide +kernel
theorem dX3_requireName_6 : decode cX3_requireName 6 = .ok (.if_icmp .lt 13, 3) := by decide +kernel
theorem dX3_requireName_9 : decode cX3_requireName 9 = .ok (.new 48, 3) := by decide +kernel
theorem dX3_requireName_12 : decode cX3_requireName 12 = .ok (.dup, 1) := by decide +kernel
theorem dX3_requireName_13 : decode cX3_requireName 13 = .ok (.ldc 233, 2) := by decide +kernel
theorem dX3_requireName_15 : decode cX3_requireName 15 = .ok (.invokespecial 52, 3) := by decide +kernel
theorem dX3_requireName_18 : decode cX3_requireName 18 = .ok (.athrow, 1) := by decide +kernel
theorem dX3_requireName_19 : decode cX3_requireName 19 = .ok (.return_, 1) := by decide +kernel
theorem dX3_requireKey_0 : decode cX3_requireKey 0 = .ok (.iload_n 1, 1) := by decide +kernel
theorem dX3_requireKey_1 : decode cX3_requireKey 1 = .ok (.ifCond .lt 14, 3) := by decide +kernel
theorem dX3_requireKey_4 : decode cX3_requireKey 4 = .ok (.iload_n 1, 1) := by decide +kernel
theorem dX3_requireKey_5 : decode cX3_requireKey 5 = .ok (.aload_n 0, 1) := by decide +kernel
theorem dX3_requireKey_6 : decode cX3_requireKey 6 = .ok (.getfield 10, 3) := by decide +kernel
theorem dX3_requireKey_9 : decode cX3_requireKey 9 = .ok (.getfield 55, 3) := by decide +kernel
theorem dX3_requireKey_12 : decode cX3_requireKey 12 = .ok (.if_icmp .lt 13, 3) := by decide +kernel
theorem dX3_requireKey_15 : decode cX3_requireKey 15 = .ok (.new 235, 3) := by decide +kernel
theorem dX3_requireKey_18 : decode cX3_requireKey 18 = .ok (.dup, 1) := by decide +kernel
theorem dX3_requireKey_19 : decode cX3_requireKey 19 = .ok (.ldc 237, 2) := by decide +kernel
theorem dX3_requireKey_21 : decode cX3_requireKey 21 = .ok (.invokespecial 239, 3) := by decide +kernel
theorem dX3_requireKey_24 : decode cX3_requireKey 24 = .ok (.athrow, 1) := by decide +kernel
theorem dX3_requireKey_25 : decode cX3_requireKey 25 = .ok (.return_, 1) := by decide +kernel
theorem dX3_requireBuild_0 : decode cX3_requireBuild 0 = .ok (.iload_n 1, 1) := by decide +kernel
theorem dX3_requireBuild_1 : decode cX3_requireBuild 1 = .ok (.ifCond .lt 14, 3) := by decide +kernel
theorem dX3_requireBuild_4 : decode cX3_requireBuild 4 = .ok (.iload_n 1, 1) := by decide +kernel
theorem dX3_requireBuild_5 : decode cX3_requireBuild 5 = .ok (.aload_n 0, 1) := by decide +kernel
theorem dX3_requireBuild_6 : decode cX3_requireBuild 6 = .ok (.getfield 19, 3) := by decide +kernel
theorem dX3_requireBuild_9 : decode cX3_requireBuild 9 = .ok (.getfield 126, 3) := by decide +kernel
theorem dX3_requireBuild_12 : decode cX3_requireBuild 12 = .ok (.if_icmp .lt 13, 3) := by decide +kernel
theorem dX3_requireBuild_15 : decode cX3_requireBuild 15 = .ok (.new 235, 3) := by decide +kernel
theorem dX3_requireBuild_18 : decode cX3_requireBuild 18 = .ok (.dup, 1) := by decide +kernel
theorem dX3_requireBuild_19 : decode cX3_requireBuild 19 = .ok (.ldc 240, 2) := by decide +kernel
theorem dX3_requireBuild_21 : decode cX3_requireBuild 21 = .ok (.invokespecial 239, 3) := by decide +kernel
theorem dX3_requireBuild_24 : decode cX3_requireBuild 24 = .ok (.athrow, 1) := by decide +kernel
theorem dX3_requireBuild_25 : decode cX3_requireBuild 25 = .ok (.return_, 1) := by decide +kernel
theorem dX3_requireMirror_0 : decode cX3_requireMirror 0 = .ok (.iload_n 1, 1) := by decide +kernel
theorem dX3_requireMirror_1 : decode cX3_requireMirror 1 = .ok (.ifCond .lt 14, 3) := by decide +kernel
theorem dX3_requireMirror_4 : decode cX3_requireMirror 4 = .ok (.iload_n 1, 1) := by decide +kernel
theorem dX3_requireMirror_5 : decode cX3_requireMirror 5 = .ok (.aload_n 0, 1) := by decide +kernel
theorem dX3_requireMirror_6 : decode cX3_requireMirror 6 = .ok (.getfield 26, 3) := by decide +kernel
theorem dX3_requireMirror_9 : decode cX3_requireMirror 9 = .ok (.getfield 202, 3) := by decide +kernel
theorem dX3_requireMirror_12 : decode cX3_requireMirror 12 = .ok (.if_icmp .lt 13, 3) := by decide +kernel
theorem dX3_requireMirror_15 : decode cX3_requireMirror 15 = .ok (.new 235, 3) := by decide +kernel
theorem dX3_requireMirror_18 : decode cX3_requireMirror 18 = .ok (.dup, 1) := by decide +kernel
theorem dX3_requireMirror_19 : decode cX3_requireMirror 19 = .ok (.ldc 242, 2) := by decide +kernel
theorem dX3_requireMirror_21 : decode cX3_requireMirror 21 = .ok (.invokespecial 239, 3) := by decide +kernel
theorem dX3_requireMirror_24 : decode cX3_requireMirror 24 = .ok (.athrow, 1) := by decide +kernel
theorem dX3_requireMirror_25 : decode cX3_requireMirror 25 = .ok (.return_, 1) := by decide +kernel
theorem dX3_requireFound_0 : decode cX3_requireFound 0 = .ok (.iload_n 0, 1) := by decide +kernel
theorem dX3_requireFound_1 : decode cX3_requireFound 1 = .ok (.iconst (-1), 1) := by decide +kernel
theorem dX3_requireFound_2 : decode cX3_requireFound 2 = .ok (.if_icmp .ne 13, 3) := by decide +kernel
theorem dX3_requireFound_5 : decode cX3_requireFound 5 = .ok (.new 197, 3) := by decide +kernel
theorem dX3_requireFound_8 : decode cX3_requireFound 8 = .ok (.dup, 1) := by decide +kernel
theorem dX3_requireFound_9 : decode cX3_requireFound 9 = .ok (.ldc 244, 2) := by decide +kernel
theorem dX3_requireFound_11 : decode cX3_requireFound 11 = .ok (.invokespecial 201, 3) := by decide +kernel
theorem dX3_requireFound_14 : decode cX3_requireFound 14 = .ok (.athrow, 1) := by decide +kernel
theorem dX3_requireFound_15 : decode cX3_requireFound 15 = .ok (.iload_n 0, 1) := by decide +kernel
theorem dX3_requireFound_16 : decode cX3_requireFound 16 = .ok (.ireturn, 1) := by decide +kernel
theorem dX3_only_0 : decode cX3_only 0 = .ok (.iconst 1, 1) := by decide +kernel
theorem dX3_only_1 : decode cX3_only 1 = .ok (.iload_n 0, 1) := by decide +kernel
theorem dX3_only_2 : decode cX3_only 2 = .ok (.ishl, 1) := by decide +kernel
theorem dX3_only_3 : decode cX3_only 3 = .ok (.ireturn, 1) := by decide +kernel
set_option maxRecDepth 20000 in
theorem ggX3_holds_X3_only : GoodIn wsX3_holds wsX3_only := goodIn_r _ [4] (by decide +kernel) (by decide +kernel)
set_option maxRecDepth 20000 in
theorem gX3_holds_X3_only : GoodIn wsX3_holds (va_wsS RX3 83 yX3_only wsX3_only) := goodIn_app (goodIn_of _ (by decide +kernel)) ggX3_holds_X3_only
theorem dX3_holds_0 : decode cX3_holds 0 = .ok (.iload_n 0, 1) := by decide +kernel
theorem dX3_holds_1 : decode cX3_holds 1 = .ok (.iload_n 1, 1) := by decide +kernel
theorem dX3_holds_2 : decode cX3_holds 2 = .ok (.invokestatic 83, 3) := by decide +kernel
theorem dX3_holds_5 : decode cX3_holds 5 = .ok (.iand, 1) := by decide +kernel
theorem dX3_holds_6 : decode cX3_holds 6 = .ok (.ifCond .eq 7, 3) := by decide +kernel
theorem dX3_holds_9 : decode cX3_holds 9 = .ok (.iconst 1, 1) := by decide +kernel
theorem dX3_holds_10 : decode cX3_holds 10 = .ok (.goto 4, 3) := by decide +kernel
theorem dX3_holds_13 : decode cX3_holds 13 = .ok (.iconst 0, 1) := by decide +kernel
theorem dX3_holds_14 : decode cX3_holds 14 = .ok (.ireturn, 1) := by decide +kernel
theorem dX3_doubleBits_0 : decode cX3_doubleBits 0 = .ok (.dload_n 0, 1) := by decide +kernel
theorem dX3_doubleBits_1 : decode cX3_doubleBits 1 = .ok (.dconst 0, 1) := by decide +kernel
theorem dX3_doubleBits_2 : decode cX3_doubleBits 2 = .ok (.dcmp .g, 1) := by decide +kernel
theorem dX3_doubleBits_3 : decode cX3_doubleBits 3 = .ok (.ifCond .gt 5, 3) := by decide +kernel
theorem dX3_doubleBits_6 : decode cX3_doubleBits 6 = .ok (.lconst 0, 1) := by decide +kernel
theorem dX3_doubleBits_7 : decode cX3_doubleBits 7 = .ok (.lreturn, 1) := by decide +kernel
theorem dX3_doubleBits_8 : decode cX3_doubleBits 8 = .ok (.dload_n 0, 1) := by decide +kernel
theorem dX3_doubleBits_9 : decode cX3_doubleBits 9 = .ok (.dstore_n 2, 1) := by decide +kernel
theorem dX3_doubleBits_10 : decode cX3_doubleBits 10 = .ok (.ldc2_w 246, 3) := by decide +kernel
theorem dX3_doubleBits_13 : decode cX3_doubleBits 13 = .ok (.lstore 4, 2) := by decide +kernel
theorem dX3_doubleBits_15 : decode cX3_doubleBits 15 = .ok (.dload_n 2, 1) := by decide +kernel
theorem dX3_doubleBits_16 : decode cX3_doubleBits 16 = .ok (.ldc2_w 248, 3) := by decide +kernel
theorem dX3_doubleBits_19 : decode cX3_doubleBits 19 = .ok (.dcmp .l, 1) := by decide +kernel
theorem dX3_doubleBits_20 : decode cX3_doubleBits 20 = .ok (.ifCond .lt 27, 3) := by decide +kernel
theorem dX3_doubleBits_23 : decode cX3_doubleBits 23 = .ok (.lload 4, 2) := by decide +kernel
theorem dX3_doubleBits_25 : decode cX3_doubleBits 25 = .ok (.ldc2_w 250, 3) := by decide +kernel
theorem dX3_doubleBits_28 : decode cX3_doubleBits 28 = .ok (.lcmp, 1) := by decide +kernel
theorem dX3_doubleBits_29 : decode cX3_doubleBits 29 = .ok (.ifCond .ge 18, 3) := by decide +kernel
theorem dX3_doubleBits_32 : decode cX3_doubleBits 32 = .ok (.dload_n 2, 1) := by decide +kernel
theorem dX3_doubleBits_33 : decode cX3_doubleBits 33 = .ok (.ldc2_w 248, 3) := by decide +kernel
theorem dX3_doubleBits_36 : decode cX3_doubleBits 36 = .ok (.ddiv, 1) := by decide +kernel
theorem dX3_doubleBits_37 : decode cX3_doubleBits 37 = .ok (.dstore_n 2, 1) := by decide +kernel
theorem dX3_doubleBits_38 : decode cX3_doubleBits 38 = .ok (.lload 4, 2) := by decide +kernel
theorem dX3_doubleBits_40 : decode cX3_doubleBits 40 = .ok (.lconst 1, 1) := by decide +kernel
theorem dX3_doubleBits_41 : decode cX3_doubleBits 41 = .ok (.ladd, 1) := by decide +kernel
theorem dX3_doubleBits_42 : decode cX3_doubleBits 42 = .ok (.lstore 4, 2) := by decide +kernel
theorem dX3_doubleBits_44 : decode cX3_doubleBits 44 = .ok (.goto (-29), 3) := by decide +kernel
theorem dX3_doubleBits_47 : decode cX3_doubleBits 47 = .ok (.dload_n 2, 1) := by decide +kernel
theorem dX3_doubleBits_48 : decode cX3_doubleBits 48 = .ok (.dconst 1, 1) := by decide +kernel
theorem dX3_doubleBits_49 : decode cX3_doubleBits 49 = .ok (.dcmp .g, 1) := by decide +kernel
theorem dX3_doubleBits_50 : decode cX3_doubleBits 50 = .ok (.ifCond .ge 25, 3) := by decide +kernel
theorem dX3_doubleBits_53 : decode cX3_doubleBits 53 = .ok (.lload 4, 2) := by decide +kernel
theorem dX3_doubleBits_55 : decode cX3_doubleBits 55 = .ok (.lconst 1, 1) := by decide +kernel
theorem dX3_doubleBits_56 : decode cX3_doubleBits 56 = .ok (.lcmp, 1) := by decide +kernel
theorem dX3_doubleBits_57 : decode cX3_doubleBits 57 = .ok (.ifCond .le 18, 3) := by decide +kernel
theorem dX3_doubleBits_60 : decode cX3_doubleBits 60 = .ok (.dload_n 2, 1) := by decide +kernel
theorem dX3_doubleBits_61 : decode cX3_doubleBits 61 = .ok (.ldc2_w 248, 3) := by decide +kernel
theorem dX3_doubleBits_64 : decode cX3_doubleBits 64 = .ok (.dmul, 1) := by decide +kernel
theorem dX3_doubleBits_65 : decode cX3_doubleBits 65 = .ok (.dstore_n 2, 1) := by decide +kernel
theorem dX3_doubleBits_66 : decode cX3_doubleBits 66 = .ok (.lload 4, 2) := by decide +kernel
theorem dX3_doubleBits_68 : decode cX3_doubleBits 68 = .ok (.lconst 1, 1) := by decide +kernel
theorem dX3_doubleBits_69 : decode cX3_doubleBits 69 = .ok (.lsub, 1) := by decide +kernel
theorem dX3_doubleBits_70 : decode cX3_doubleBits 70 = .ok (.lstore 4, 2) := by decide +kernel
theorem dX3_doubleBits_72 : decode cX3_doubleBits 72 = .ok (.goto (-25), 3) := by decide +kernel
theorem dX3_doubleBits_75 : decode cX3_doubleBits 75 = .ok (.lload 4, 2) := by decide +kernel
theorem dX3_doubleBits_77 : decode cX3_doubleBits 77 = .ok (.bipush 52, 2) := by decide +kernel
theorem dX3_doubleBits_79 : decode cX3_doubleBits 79 = .ok (.lshl, 1) := by decide +kernel
theorem dX3_doubleBits_80 : decode cX3_doubleBits 80 = .ok (.dload_n 2, 1) := by decide +kernel
theorem dX3_doubleBits_81 : decode cX3_doubleBits 81 = .ok (.dconst 1, 1) := by decide +kernel
theorem dX3_doubleBits_82 : decode cX3_doubleBits 82 = .ok (.dsub, 1) := by decide +kernel
theorem dX3_doubleBits_83 : decode cX3_doubleBits 83 = .ok (.ldc2_w 252, 3) := by decide +kernel
theorem dX3_doubleBits_86 : decode cX3_doubleBits 86 = .ok (.dmul, 1) := by decide +kernel
theorem dX3_doubleBits_87 : decode cX3_doubleBits 87 = .ok (.d2l, 1) := by decide +kernel
theorem dX3_doubleBits_88 : decode cX3_doubleBits 88 = .ok (.ladd, 1) := by decide +kernel
theorem dX3_doubleBits_89 : decode cX3_doubleBits 89 = .ok (.lreturn, 1) := by decide +kernel
set_option maxRecDepth 20000 in
theorem ggX3_floatBits_X3_doubleBits : GoodIn wsX3_floatBits wsX3_doubleBits := goodIn_r _ [5, 6, 7, 8, 9] (by decide +kernel) (by decide +kernel)
set_option maxRecDepth 20000 in
theorem gX3_floatBits_X3_doubleBits : GoodIn wsX3_floatBits (va_wsS RX3 226 yX3_doubleBits wsX3_doubleBits) := goodIn_app (goodIn_of _ (by decide +kernel)) ggX3_floatBits_X3_doubleBits
theorem dX3_floatBits_0 : decode cX3_floatBits 0 = .ok (.fload_n 0, 1) := by decide +kernel
theorem dX3_floatBits_1 : decode cX3_floatBits 1 = .ok (.fconst 0, 1) := by decide +kernel
theorem dX3_floatBits_2 : decode cX3_floatBits 2 = .ok (.fcmp .g, 1) := by decide +kernel
theorem dX3_floatBits_3 : decode cX3_floatBits 3 = .ok (.ifCond .gt 5, 3) := by decide +kernel
theorem dX3_floatBits_6 : decode cX3_floatBits 6 = .ok (.iconst 0, 1) := by decide +kernel
theorem dX3_floatBits_7 : decode cX3_floatBits 7 = .ok (.ireturn, 1) := by decide +kernel
theorem dX3_floatBits_8 : decode cX3_floatBits 8 = .ok (.fload_n 0, 1) := by decide +kernel
theorem dX3_floatBits_9 : decode cX3_floatBits 9 = .ok (.f2d, 1) := by decide +kernel
theorem dX3_floatBits_10 : decode cX3_floatBits 10 = .ok (.invokestatic 226, 3) := by decide +kernel
theorem dX3_floatBits_13 : decode cX3_floatBits 13 = .ok (.bipush 29, 2) := by decide +kernel
theorem dX3_floatBits_15 : decode cX3_floatBits 15 = .ok (.lushr, 1) := by decide +kernel
theorem dX3_floatBits_16 : decode cX3_floatBits 16 = .ok (.ldc2_w 254, 3) := by decide +kernel
theorem dX3_floatBits_19 : decode cX3_floatBits 19 = .ok (.lsub, 1) := by decide +kernel
theorem dX3_floatBits_20 : decode cX3_floatBits 20 = .ok (.l2i, 1) := by decide +kernel
theorem dX3_floatBits_21 : decode cX3_floatBits 21 = .ok (.ireturn, 1) := by decide +kernel
