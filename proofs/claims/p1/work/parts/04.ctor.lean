theorem dX3_init_0 : decode cX3_init 0 = .ok (.aload_n 0, 1) := by decide +kernel
theorem dX3_init_1 : decode cX3_init 1 = .ok (.invokespecial 1, 3) := by decide +kernel
theorem dX3_init_4 : decode cX3_init 4 = .ok (.aload_n 0, 1) := by decide +kernel
theorem dX3_init_5 : decode cX3_init 5 = .ok (.iload_n 1, 1) := by decide +kernel
theorem dX3_init_6 : decode cX3_init 6 = .ok (.putfield 7, 3) := by decide +kernel
theorem dX3_init_9 : decode cX3_init 9 = .ok (.aload_n 0, 1) := by decide +kernel
theorem dX3_init_10 : decode cX3_init 10 = .ok (.iload_n 2, 1) := by decide +kernel
theorem dX3_init_11 : decode cX3_init 11 = .ok (.putfield 13, 3) := by decide +kernel
theorem dX3_init_14 : decode cX3_init 14 = .ok (.aload_n 0, 1) := by decide +kernel
theorem dX3_init_15 : decode cX3_init 15 = .ok (.iload_n 3, 1) := by decide +kernel
theorem dX3_init_16 : decode cX3_init 16 = .ok (.putfield 16, 3) := by decide +kernel
theorem dX3_init_19 : decode cX3_init 19 = .ok (.aload_n 0, 1) := by decide +kernel
theorem dX3_init_20 : decode cX3_init 20 = .ok (.iload 4, 2) := by decide +kernel
theorem dX3_init_22 : decode cX3_init 22 = .ok (.putfield 19, 3) := by decide +kernel
theorem dX3_init_25 : decode cX3_init 25 = .ok (.aload_n 0, 1) := by decide +kernel
theorem dX3_init_26 : decode cX3_init 26 = .ok (.iload 5, 2) := by decide +kernel
theorem dX3_init_28 : decode cX3_init 28 = .ok (.putfield 22, 3) := by decide +kernel
theorem dX3_init_31 : decode cX3_init 31 = .ok (.aload_n 0, 1) := by decide +kernel
theorem dX3_init_32 : decode cX3_init 32 = .ok (.iload 6, 2) := by decide +kernel
theorem dX3_init_34 : decode cX3_init 34 = .ok (.putfield 25, 3) := by decide +kernel
theorem dX3_init_37 : decode cX3_init 37 = .ok (.aload_n 0, 1) := by decide +kernel
theorem dX3_init_38 : decode cX3_init 38 = .ok (.iload 7, 2) := by decide +kernel
theorem dX3_init_40 : decode cX3_init 40 = .ok (.putfield 28, 3) := by decide +kernel
theorem dX3_init_43 : decode cX3_init 43 = .ok (.return_, 1) := by decide +kernel
set_option maxRecDepth 20000 in
theorem ggX5_init_Jx4a65c_init_da8c8 : GoodIn wsX5_init wsJx4a65c_init_da8c8 := goodIn_r _ [23, 24, 25, 26, 27, 28, 29, 30, 31, 32, 33, 34, 35, 2, 3, 60, 61, 62] (by decide +kernel) (by decide +kernel)
set_option maxRecDepth 20000 in
theorem gX5_init_Jx4a65c_init_da8c8 : GoodIn wsX5_init (wsJx4a65c_init_da8c8) := ggX5_init_Jx4a65c_init_da8c8
set_option maxRecDepth 20000 in
theorem ggX5_init_X1_init : GoodIn wsX5_init wsX1_init := goodIn_r _ [38, 39, 2, 3, 40, 5, 6, 41, 42, 43, 44, 45, 46, 22, 23, 24, 25, 26, 27, 28, 29, 30, 31, 32, 33, 34, 35, 47, 48, 49, 50, 60, 61, 62, 71, 72, 73, 74] (by decide +kernel) (by decide +kernel)
set_option maxRecDepth 20000 in
theorem gX5_init_X1_init : GoodIn wsX5_init (wsX1_init) := ggX5_init_X1_init
set_option maxRecDepth 20000 in
theorem ggX5_init_X0_init : GoodIn wsX5_init wsX0_init := goodIn_r _ [52, 53, 2, 3, 54, 55, 56, 57, 58, 59, 75, 76, 77, 78, 79, 80] (by decide +kernel) (by decide +kernel)
set_option maxRecDepth 20000 in
theorem gX5_init_X0_init_n28 : GoodIn wsX5_init (wsX0_init) := ggX5_init_X0_init
theorem dX5_init_0 : decode cX5_init 0 = .ok (.aload_n 0, 1) := by decide +kernel
theorem dX5_init_1 : decode cX5_init 1 = .ok (.invokespecial 1, 3) := by decide +kernel
theorem dX5_init_4 : decode cX5_init 4 = .ok (.aload_n 0, 1) := by decide +kernel
theorem dX5_init_5 : decode cX5_init 5 = .ok (.new 7, 3) := by decide +kernel
theorem dX5_init_8 : decode cX5_init 8 = .ok (.dup, 1) := by decide +kernel
theorem dX5_init_9 : decode cX5_init 9 = .ok (.invokespecial 9, 3) := by decide +kernel
theorem dX5_init_12 : decode cX5_init 12 = .ok (.putfield 10, 3) := by decide +kernel
theorem dX5_init_15 : decode cX5_init 15 = .ok (.aload_n 0, 1) := by decide +kernel
theorem dX5_init_16 : decode cX5_init 16 = .ok (.new 16, 3) := by decide +kernel
theorem dX5_init_19 : decode cX5_init 19 = .ok (.dup, 1) := by decide +kernel
theorem dX5_init_20 : decode cX5_init 20 = .ok (.invokespecial 18, 3) := by decide +kernel
theorem dX5_init_23 : decode cX5_init 23 = .ok (.putfield 19, 3) := by decide +kernel
theorem dX5_init_26 : decode cX5_init 26 = .ok (.aload_n 0, 1) := by decide +kernel
theorem dX5_init_27 : decode cX5_init 27 = .ok (.new 7, 3) := by decide +kernel
theorem dX5_init_30 : decode cX5_init 30 = .ok (.dup, 1) := by decide +kernel
theorem dX5_init_31 : decode cX5_init 31 = .ok (.invokespecial 9, 3) := by decide +kernel
theorem dX5_init_34 : decode cX5_init 34 = .ok (.putfield 23, 3) := by decide +kernel
theorem dX5_init_37 : decode cX5_init 37 = .ok (.aload_n 0, 1) := by decide +kernel
theorem dX5_init_38 : decode cX5_init 38 = .ok (.new 26, 3) := by decide +kernel
theorem dX5_init_41 : decode cX5_init 41 = .ok (.dup, 1) := by decide +kernel
theorem dX5_init_42 : decode cX5_init 42 = .ok (.invokespecial 28, 3) := by decide +kernel
theorem dX5_init_45 : decode cX5_init 45 = .ok (.putfield 29, 3) := by decide +kernel
theorem dX5_init_48 : decode cX5_init 48 = .ok (.aload_n 0, 1) := by decide +kernel
theorem dX5_init_49 : decode cX5_init 49 = .ok (.iconst 0, 1) := by decide +kernel
theorem dX5_init_50 : decode cX5_init 50 = .ok (.putfield 33, 3) := by decide +kernel
theorem dX5_init_53 : decode cX5_init 53 = .ok (.aload_n 0, 1) := by decide +kernel
theorem dX5_init_54 : decode cX5_init 54 = .ok (.iconst 0, 1) := by decide +kernel
theorem dX5_init_55 : decode cX5_init 55 = .ok (.putfield 37, 3) := by decide +kernel
theorem dX5_init_58 : decode cX5_init 58 = .ok (.aload_n 0, 1) := by decide +kernel
theorem dX5_init_59 : decode cX5_init 59 = .ok (.iconst 0, 1) := by decide +kernel
theorem dX5_init_60 : decode cX5_init 60 = .ok (.putfield 41, 3) := by decide +kernel
theorem dX5_init_63 : decode cX5_init 63 = .ok (.aload_n 0, 1) := by decide +kernel
theorem dX5_init_64 : decode cX5_init 64 = .ok (.iconst 0, 1) := by decide +kernel
theorem dX5_init_65 : decode cX5_init 65 = .ok (.putfield 44, 3) := by decide +kernel
theorem dX5_init_68 : decode cX5_init 68 = .ok (.return_, 1) := by decide +kernel
theorem dX7_init_0 : decode cX7_init 0 = .ok (.aload_n 0, 1) := by decide +kernel
theorem dX7_init_1 : decode cX7_init 1 = .ok (.invokespecial 1, 3) := by decide +kernel
theorem dX7_init_4 : decode cX7_init 4 = .ok (.aload_n 0, 1) := by decide +kernel
theorem dX7_init_5 : decode cX7_init 5 = .ok (.iload_n 1, 1) := by decide +kernel
theorem dX7_init_6 : decode cX7_init 6 = .ok (.putfield 7, 3) := by decide +kernel
theorem dX7_init_9 : decode cX7_init 9 = .ok (.aload_n 0, 1) := by decide +kernel
theorem dX7_init_10 : decode cX7_init 10 = .ok (.iload_n 2, 1) := by decide +kernel
theorem dX7_init_11 : decode cX7_init 11 = .ok (.putfield 13, 3) := by decide +kernel
theorem dX7_init_14 : decode cX7_init 14 = .ok (.aload_n 0, 1) := by decide +kernel
theorem dX7_init_15 : decode cX7_init 15 = .ok (.iload_n 3, 1) := by decide +kernel
theorem dX7_init_16 : decode cX7_init 16 = .ok (.putfield 16, 3) := by decide +kernel
theorem dX7_init_19 : decode cX7_init 19 = .ok (.aload_n 0, 1) := by decide +kernel
theorem dX7_init_20 : decode cX7_init 20 = .ok (.iload 4, 2) := by decide +kernel
theorem dX7_init_22 : decode cX7_init 22 = .ok (.putfield 19, 3) := by decide +kernel
theorem dX7_init_25 : decode cX7_init 25 = .ok (.aload_n 0, 1) := by decide +kernel
theorem dX7_init_26 : decode cX7_init 26 = .ok (.iload 5, 2) := by decide +kernel
theorem dX7_init_28 : decode cX7_init 28 = .ok (.putfield 22, 3) := by decide +kernel
theorem dX7_init_31 : decode cX7_init 31 = .ok (.aload_n 0, 1) := by decide +kernel
theorem dX7_init_32 : decode cX7_init 32 = .ok (.iload 6, 2) := by decide +kernel
theorem dX7_init_34 : decode cX7_init 34 = .ok (.putfield 25, 3) := by decide +kernel
theorem dX7_init_37 : decode cX7_init 37 = .ok (.return_, 1) := by decide +kernel
set_option maxRecDepth 20000 in
theorem ggX9_init_Jx4a65c_init_da8c8 : GoodIn wsX9_init wsJx4a65c_init_da8c8 := goodIn_r _ [12, 13, 14, 15, 16, 17, 18, 19, 20, 21, 22, 23, 24, 2, 3, 25, 26, 27] (by decide +kernel) (by decide +kernel)
set_option maxRecDepth 20000 in
theorem gX9_init_Jx4a65c_init_da8c8 : GoodIn wsX9_init (wsJx4a65c_init_da8c8) := ggX9_init_Jx4a65c_init_da8c8
theorem dX9_init_0 : decode cX9_init 0 = .ok (.aload_n 0, 1) := by decide +kernel
theorem dX9_init_1 : decode cX9_init 1 = .ok (.invokespecial 1, 3) := by decide +kernel
theorem dX9_init_4 : decode cX9_init 4 = .ok (.aload_n 0, 1) := by decide +kernel
theorem dX9_init_5 : decode cX9_init 5 = .ok (.new 7, 3) := by decide +kernel
theorem dX9_init_8 : decode cX9_init 8 = .ok (.dup, 1) := by decide +kernel
theorem dX9_init_9 : decode cX9_init 9 = .ok (.invokespecial 9, 3) := by decide +kernel
theorem dX9_init_12 : decode cX9_init 12 = .ok (.putfield 10, 3) := by decide +kernel
theorem dX9_init_15 : decode cX9_init 15 = .ok (.aload_n 0, 1) := by decide +kernel
theorem dX9_init_16 : decode cX9_init 16 = .ok (.new 7, 3) := by decide +kernel
theorem dX9_init_19 : decode cX9_init 19 = .ok (.dup, 1) := by decide +kernel
theorem dX9_init_20 : decode cX9_init 20 = .ok (.invokespecial 9, 3) := by decide +kernel
theorem dX9_init_23 : decode cX9_init 23 = .ok (.putfield 16, 3) := by decide +kernel
theorem dX9_init_26 : decode cX9_init 26 = .ok (.aload_n 0, 1) := by decide +kernel
theorem dX9_init_27 : decode cX9_init 27 = .ok (.new 7, 3) := by decide +kernel
theorem dX9_init_30 : decode cX9_init 30 = .ok (.dup, 1) := by decide +kernel
theorem dX9_init_31 : decode cX9_init 31 = .ok (.invokespecial 9, 3) := by decide +kernel
theorem dX9_init_34 : decode cX9_init 34 = .ok (.putfield 19, 3) := by decide +kernel
theorem dX9_init_37 : decode cX9_init 37 = .ok (.return_, 1) := by decide +kernel
theorem dJx35411_init_45d68_0 : decode cJx35411_init_45d68 0 = .ok (.aload_n 0, 1) := by decide +kernel
theorem dJx35411_init_45d68_1 : decode cJx35411_init_45d68 1 = .ok (.aload_n 1, 1) := by decide +kernel
theorem dJx35411_init_45d68_2 : decode cJx35411_init_45d68 2 = .ok (.putfield 1, 3) := by decide +kernel
theorem dJx35411_init_45d68_5 : decode cJx35411_init_45d68 5 = .ok (.aload_n 0, 1) := by decide +kernel
theorem dJx35411_init_45d68_6 : decode cJx35411_init_45d68 6 = .ok (.invokespecial 7, 3) := by decide +kernel
theorem dJx35411_init_45d68_9 : decode cJx35411_init_45d68 9 = .ok (.aload_n 0, 1) := by decide +kernel
theorem dJx35411_init_45d68_10 : decode cJx35411_init_45d68 10 = .ok (.iconst (-1), 1) := by decide +kernel
theorem dJx35411_init_45d68_11 : decode cJx35411_init_45d68 11 = .ok (.putfield 13, 3) := by decide +kernel
theorem dJx35411_init_45d68_14 : decode cJx35411_init_45d68 14 = .ok (.aload_n 0, 1) := by decide +kernel
theorem dJx35411_init_45d68_15 : decode cJx35411_init_45d68 15 = .ok (.aload_n 0, 1) := by decide +kernel
theorem dJx35411_init_45d68_16 : decode cJx35411_init_45d68 16 = .ok (.getfield 1, 3) := by decide +kernel
theorem dJx35411_init_45d68_19 : decode cJx35411_init_45d68 19 = .ok (.getfield 17, 3) := by decide +kernel
theorem dJx35411_init_45d68_22 : decode cJx35411_init_45d68 22 = .ok (.putfield 22, 3) := by decide +kernel
theorem dJx35411_init_45d68_25 : decode cJx35411_init_45d68 25 = .ok (.return_, 1) := by decide +kernel
theorem dJx35411_hasNext_aae02_0 : decode cJx35411_hasNext_aae02 0 = .ok (.aload_n 0, 1) := by decide +kernel
theorem dJx35411_hasNext_aae02_1 : decode cJx35411_hasNext_aae02 1 = .ok (.getfield 25, 3) := by decide +kernel
theorem dJx35411_hasNext_aae02_4 : decode cJx35411_hasNext_aae02 4 = .ok (.aload_n 0, 1) := by decide +kernel
theorem dJx35411_hasNext_aae02_5 : decode cJx35411_hasNext_aae02 5 = .ok (.getfield 1, 3) := by decide +kernel
theorem dJx35411_hasNext_aae02_8 : decode cJx35411_hasNext_aae02 8 = .ok (.getfield 28, 3) := by decide +kernel
theorem dJx35411_hasNext_aae02_11 : decode cJx35411_hasNext_aae02 11 = .ok (.if_icmp .eq 7, 3) := by decide +kernel
theorem dJx35411_hasNext_aae02_18 : decode cJx35411_hasNext_aae02 18 = .ok (.iconst 0, 1) := by decide +kernel
theorem dJx35411_hasNext_aae02_19 : decode cJx35411_hasNext_aae02 19 = .ok (.ireturn, 1) := by decide +kernel
theorem dJx4a65c_grow_92f84_0 : decode cJx4a65c_grow_92f84 0 = .ok (.aload_n 0, 1) := by decide +kernel
theorem dJx4a65c_grow_92f84_1 : decode cJx4a65c_grow_92f84 1 = .ok (.getfield 9, 3) := by decide +kernel
theorem dJx4a65c_grow_92f84_4 : decode cJx4a65c_grow_92f84 4 = .ok (.arraylength, 1) := by decide +kernel
theorem dJx4a65c_grow_92f84_5 : decode cJx4a65c_grow_92f84 5 = .ok (.istore_n 2, 1) := by decide +kernel
theorem dJx4a65c_grow_92f84_6 : decode cJx4a65c_grow_92f84 6 = .ok (.iload_n 2, 1) := by decide +kernel
theorem dJx4a65c_grow_92f84_7 : decode cJx4a65c_grow_92f84 7 = .ok (.ifCond .gt 13, 3) := by decide +kernel
theorem dJx4a65c_grow_92f84_10 : decode cJx4a65c_grow_92f84 10 = .ok (.aload_n 0, 1) := by decide +kernel
theorem dJx4a65c_grow_92f84_11 : decode cJx4a65c_grow_92f84 11 = .ok (.getfield 9, 3) := by decide +kernel
theorem dJx4a65c_grow_92f84_14 : decode cJx4a65c_grow_92f84 14 = .ok (.getstatic 39, 3) := by decide +kernel
theorem dJx4a65c_grow_92f84_17 : decode cJx4a65c_grow_92f84 17 = .ok (.if_acmp .eq 28, 3) := by decide +kernel
theorem dJx4a65c_grow_92f84_45 : decode cJx4a65c_grow_92f84 45 = .ok (.aload_n 0, 1) := by decide +kernel
theorem dJx4a65c_grow_92f84_46 : decode cJx4a65c_grow_92f84 46 = .ok (.bipush 10, 2) := by decide +kernel
theorem dJx4a65c_grow_92f84_48 : decode cJx4a65c_grow_92f84 48 = .ok (.iload_n 1, 1) := by decide +kernel
theorem dJx4a65c_grow_92f84_49 : decode cJx4a65c_grow_92f84 49 = .ok (.invokestatic 79, 3) := by decide +kernel
theorem dJx4a65c_grow_92f84_52 : decode cJx4a65c_grow_92f84 52 = .ok (.anewarray 7, 3) := by decide +kernel
theorem dJx4a65c_grow_92f84_55 : decode cJx4a65c_grow_92f84 55 = .ok (.dup_x1, 1) := by decide +kernel
theorem dJx4a65c_grow_92f84_56 : decode cJx4a65c_grow_92f84 56 = .ok (.putfield 9, 3) := by decide +kernel
theorem dJx4a65c_grow_92f84_59 : decode cJx4a65c_grow_92f84 59 = .ok (.areturn, 1) := by decide +kernel
set_option maxRecDepth 20000 in
theorem ggJx4a65c_grow_d5877_Jx4a65c_grow_92f84 : GoodIn wsJx4a65c_grow_d5877 wsJx4a65c_grow_92f84 := goodIn_r _ [6, 7, 8, 9, 10, 11, 12, 13, 14, 15, 16, 17, 18, 19, 20, 21, 22, 23, 24, 25, 26, 27, 28, 29, 30, 31, 32, 33, 34, 35, 36, 37, 38, 39, 40, 41, 42, 43, 44, 45] (by decide +kernel) (by decide +kernel)
set_option maxRecDepth 20000 in
theorem gJx4a65c_grow_d5877_Jx4a65c_grow_92f84 : GoodIn wsJx4a65c_grow_d5877 (wsV RJx4a65c 69 RJx4a65c yJx4a65c_grow_92f84 wsJx4a65c_grow_92f84) := goodIn_app (goodIn_of _ (by decide +kernel)) ggJx4a65c_grow_d5877_Jx4a65c_grow_92f84
theorem dJx4a65c_grow_d5877_0 : decode cJx4a65c_grow_d5877 0 = .ok (.aload_n 0, 1) := by decide +kernel
theorem dJx4a65c_grow_d5877_1 : decode cJx4a65c_grow_d5877 1 = .ok (.aload_n 0, 1) := by decide +kernel
theorem dJx4a65c_grow_d5877_2 : decode cJx4a65c_grow_d5877 2 = .ok (.getfield 48, 3) := by decide +kernel
theorem dJx4a65c_grow_d5877_5 : decode cJx4a65c_grow_d5877 5 = .ok (.iconst 1, 1) := by decide +kernel
theorem dJx4a65c_grow_d5877_6 : decode cJx4a65c_grow_d5877 6 = .ok (.iadd, 1) := by decide +kernel
theorem dJx4a65c_grow_d5877_7 : decode cJx4a65c_grow_d5877 7 = .ok (.invokevirtual 69, 3) := by decide +kernel
theorem dJx4a65c_grow_d5877_10 : decode cJx4a65c_grow_d5877 10 = .ok (.areturn, 1) := by decide +kernel
set_option maxRecDepth 20000 in
theorem ggJx4a65c_add_72be8_Jx4a65c_grow_d5877 : GoodIn wsJx4a65c_add_72be8 wsJx4a65c_grow_d5877 := goodIn_r _ [6, 1, 7, 8, 9, 5, 10, 11, 12, 13, 14, 15, 16, 17, 18, 19, 20, 21, 22, 23, 24, 25, 26, 27, 28, 29, 30, 31, 32, 33, 34, 35, 36, 37, 38, 39, 40, 41, 42, 43, 44, 45, 46, 47, 48, 49] (by decide +kernel) (by decide +kernel)
set_option maxRecDepth 20000 in
theorem gJx4a65c_add_72be8_Jx4a65c_grow_d5877 : GoodIn wsJx4a65c_add_72be8 (wsV RJx4a65c 129 RJx4a65c yJx4a65c_grow_d5877 wsJx4a65c_grow_d5877) := goodIn_app (goodIn_of _ (by decide +kernel)) ggJx4a65c_add_72be8_Jx4a65c_grow_d5877
theorem dJx4a65c_add_72be8_0 : decode cJx4a65c_add_72be8 0 = .ok (.iload_n 3, 1) := by decide +kernel
theorem dJx4a65c_add_72be8_1 : decode cJx4a65c_add_72be8 1 = .ok (.aload_n 2, 1) := by decide +kernel
theorem dJx4a65c_add_72be8_2 : decode cJx4a65c_add_72be8 2 = .ok (.arraylength, 1) := by decide +kernel
theorem dJx4a65c_add_72be8_3 : decode cJx4a65c_add_72be8 3 = .ok (.if_icmp .ne 8, 3) := by decide +kernel
theorem dJx4a65c_add_72be8_6 : decode cJx4a65c_add_72be8 6 = .ok (.aload_n 0, 1) := by decide +kernel
theorem dJx4a65c_add_72be8_7 : decode cJx4a65c_add_72be8 7 = .ok (.invokevirtual 129, 3) := by decide +kernel
theorem dJx4a65c_add_72be8_10 : decode cJx4a65c_add_72be8 10 = .ok (.astore_n 2, 1) := by decide +kernel
theorem dJx4a65c_add_72be8_11 : decode cJx4a65c_add_72be8 11 = .ok (.aload_n 2, 1) := by decide +kernel
theorem dJx4a65c_add_72be8_12 : decode cJx4a65c_add_72be8 12 = .ok (.iload_n 3, 1) := by decide +kernel
theorem dJx4a65c_add_72be8_13 : decode cJx4a65c_add_72be8 13 = .ok (.aload_n 1, 1) := by decide +kernel
theorem dJx4a65c_add_72be8_14 : decode cJx4a65c_add_72be8 14 = .ok (.aastore, 1) := by decide +kernel
theorem dJx4a65c_add_72be8_15 : decode cJx4a65c_add_72be8 15 = .ok (.aload_n 0, 1) := by decide +kernel
theorem dJx4a65c_add_72be8_16 : decode cJx4a65c_add_72be8 16 = .ok (.iload_n 3, 1) := by decide +kernel
theorem dJx4a65c_add_72be8_17 : decode cJx4a65c_add_72be8 17 = .ok (.iconst 1, 1) := by decide +kernel
theorem dJx4a65c_add_72be8_18 : decode cJx4a65c_add_72be8 18 = .ok (.iadd, 1) := by decide +kernel
theorem dJx4a65c_add_72be8_19 : decode cJx4a65c_add_72be8 19 = .ok (.putfield 48, 3) := by decide +kernel
theorem dJx4a65c_add_72be8_22 : decode cJx4a65c_add_72be8 22 = .ok (.return_, 1) := by decide +kernel
set_option maxRecDepth 20000 in
theorem ggJx4a65c_add_9ea2d_Jx4a65c_add_72be8 : GoodIn wsJx4a65c_add_9ea2d wsJx4a65c_add_72be8 := goodIn_r _ [9, 4, 10, 11, 12, 8, 13, 14, 15, 16, 17, 3, 18, 19, 20, 21, 22, 23, 24, 25, 26, 27, 28, 29, 30, 31, 32, 33, 34, 35, 36, 37, 38, 39, 40, 41, 42, 43, 44, 45, 46, 47, 48, 49, 50, 51, 52, 53, 54, 55] (by decide +kernel) (by decide +kernel)
set_option maxRecDepth 20000 in
theorem gJx4a65c_add_9ea2d_Jx4a65c_add_72be8 : GoodIn wsJx4a65c_add_9ea2d (wsV RJx4a65c 131 RJx4a65c yJx4a65c_add_72be8 wsJx4a65c_add_72be8) := goodIn_app (goodIn_of _ (by decide +kernel)) ggJx4a65c_add_9ea2d_Jx4a65c_add_72be8
theorem dJx4a65c_add_9ea2d_0 : decode cJx4a65c_add_9ea2d 0 = .ok (.aload_n 0, 1) := by decide +kernel
theorem dJx4a65c_add_9ea2d_1 : decode cJx4a65c_add_9ea2d 1 = .ok (.dup, 1) := by decide +kernel
theorem dJx4a65c_add_9ea2d_2 : decode cJx4a65c_add_9ea2d 2 = .ok (.getfield 63, 3) := by decide +kernel
theorem dJx4a65c_add_9ea2d_5 : decode cJx4a65c_add_9ea2d 5 = .ok (.iconst 1, 1) := by decide +kernel
theorem dJx4a65c_add_9ea2d_6 : decode cJx4a65c_add_9ea2d 6 = .ok (.iadd, 1) := by decide +kernel
theorem dJx4a65c_add_9ea2d_7 : decode cJx4a65c_add_9ea2d 7 = .ok (.putfield 63, 3) := by decide +kernel
theorem dJx4a65c_add_9ea2d_10 : decode cJx4a65c_add_9ea2d 10 = .ok (.aload_n 0, 1) := by decide +kernel
theorem dJx4a65c_add_9ea2d_11 : decode cJx4a65c_add_9ea2d 11 = .ok (.aload_n 1, 1) := by decide +kernel
theorem dJx4a65c_add_9ea2d_12 : decode cJx4a65c_add_9ea2d 12 = .ok (.aload_n 0, 1) := by decide +kernel
theorem dJx4a65c_add_9ea2d_13 : decode cJx4a65c_add_9ea2d 13 = .ok (.getfield 9, 3) := by decide +kernel
theorem dJx4a65c_add_9ea2d_16 : decode cJx4a65c_add_9ea2d 16 = .ok (.aload_n 0, 1) := by decide +kernel
theorem dJx4a65c_add_9ea2d_17 : decode cJx4a65c_add_9ea2d 17 = .ok (.getfield 48, 3) := by decide +kernel
theorem dJx4a65c_add_9ea2d_20 : decode cJx4a65c_add_9ea2d 20 = .ok (.invokevirtual 131, 3) := by decide +kernel
theorem dJx4a65c_add_9ea2d_23 : decode cJx4a65c_add_9ea2d 23 = .ok (.iconst 1, 1) := by decide +kernel
theorem dJx4a65c_add_9ea2d_24 : decode cJx4a65c_add_9ea2d 24 = .ok (.ireturn, 1) := by decide +kernel
set_option maxRecDepth 20000 in
theorem ggJx4a65c_iterator_32c93_Jx35411_init_45d68 : GoodIn wsJx4a65c_iterator_32c93 wsJx35411_init_45d68 := goodIn_r _ [6, 7, 8, 9, 10, 11, 12, 13, 14, 15, 16, 17, 18, 19, 20, 21] (by decide +kernel) (by decide +kernel)
set_option maxRecDepth 20000 in
theorem gJx4a65c_iterator_32c93_Jx35411_init_45d68 : GoodIn wsJx4a65c_iterator_32c93 (wsJx35411_init_45d68) := ggJx4a65c_iterator_32c93_Jx35411_init_45d68
theorem dJx4a65c_iterator_32c93_0 : decode cJx4a65c_iterator_32c93 0 = .ok (.new 267, 3) := by decide +kernel
theorem dJx4a65c_iterator_32c93_3 : decode cJx4a65c_iterator_32c93 3 = .ok (.dup, 1) := by decide +kernel
theorem dJx4a65c_iterator_32c93_4 : decode cJx4a65c_iterator_32c93 4 = .ok (.aload_n 0, 1) := by decide +kernel
theorem dJx4a65c_iterator_32c93_5 : decode cJx4a65c_iterator_32c93 5 = .ok (.invokespecial 269, 3) := by decide +kernel
theorem dJx4a65c_iterator_32c93_8 : decode cJx4a65c_iterator_32c93 8 = .ok (.areturn, 1) := by decide +kernel
set_option maxHeartbeats 4000000 in
set_option maxRecDepth 100000 in
/-- PickCell() -/
theorem c_pc_init (l : Launch) (D : va_G) (e0 sz : Nat) (x : Nat) : Kv (S := Nat × Nat × Nat × Nat × ClassId × Nat × ClassId × (Nat → Int32) × Nat × Nat) l yX5_init wsX5_init ({ frames := 5, cells := 7, slots := 91, locals := 92 } : Room) [.ref x] D [(x, .inr (7, [.null, .null, .null, .null, .int 0, .int 0, .int 0, .int 0]))] [] e0 sz (fun (u : Nat × Nat × Nat × Nat × ClassId × Nat × ClassId × (Nat → Int32) × Nat × Nat) => match u with | (_, _, _, _, _, _, _, g, _, _) => ∀ j, j < 36 → g j = -1) (fun (u : Nat × Nat × Nat × Nat × ClassId × Nat × ClassId × (Nat → Int32) × Nat × Nat) => match u with | (xk, xb, xt, xp, cxp, xs, cxs, g, xo, xa) => [(x, .inr (7, [.ref xk, .ref xb, .ref xo, .ref xa, .int 0, .int 0, .int 0, .int 0])), (xk, .inr (1, [.int 0, .ref e0, .int 0])), (xb, .inr (3, [.ref xt, .ref xp, .ref xs, .int 0])), (xt, .inr (1, [.int 0, .ref e0, .int 0])), (xp, .inl (cxp, 36, .inl (fun _ => 0))), (xs, .inl (cxs, 36, .inl g)), (xo, .inr (1, [.int 0, .ref e0, .int 0])), (xa, .inr (2, [.int 0, .int 0, .int 0, .null, .int 0, .double 0]))]) (fun (u : Nat × Nat × Nat × Nat × ClassId × Nat × ClassId × (Nat → Int32) × Nat × Nat) => match u with | (_, _, _, _, cxp, _, cxs, _, _, _) => [(cxp, .int), (cxs, .int)]) 7 91 := by
  refine Met.ofW (cc := cX5_init) (maxL := 1) (ret := none) (by decide) rfl ?_
  intro p e s m args below meth c s₁ B hml hv
  obtain ⟨rfl, hsz, hP, hK, hD0, hE⟩ := hv
  have hx := B.exec
  have hb := B.bytes
  have hr := B.returns
  have hts := atoms_spec (ws := wsX5_init) B.pre
  have hown : s.vm.findClass RX5 = some m.cls := findClass_of_methodNamed B.named
  have hlocks := B.notSynchronized
  have hin : meth.name = "<init>" := (name_of_methodNamed B.named B.method).1
  subst hsz
  have hD := hD0.self (sz := s.heap.size)
  generalize hAe : va_A [(x, .inr (7, [.null, .null, .null, .null, .int 0, .int 0, .int 0, .int 0]))] s.heap.size = A at hD hE ⊢
  have hA : ∀ q : Nat, s.heap.size ≤ q → A q := fun q h => by rw [← hAe]; exact Or.inr h
  have hS : va_S A s.heap s.heap [] := va_S.rf
  have hP : va_P D vwCl [(x, .inr (7, [.null, .null, .null, .null, .int 0, .int 0, .int 0, .int 0]))] s.heap := hP
  have hl := lv_entry ([.ref x]) (n := 1) (Nat.le_of_ble_eq_true rfl)
  rw [lg_entry_eq]
  generalize (lg_sl ([.ref x]) ++ List.replicate (1 - (lg_sl ([.ref x])).length) Slot.unset).toArray = ls at hl ⊢
  have hl : lv_has ls 1 [(0, .ref x)] := hl
  refine lv_aload_n hx hb dX5_init_0 rfl (lv_at hl 0 rfl) ?_
  refine W.objInit hx hb hown (hts (.methodLink RX5 1 objectInit) (by decide +kernel)) (hts (.instanceMethod objectInit) (by decide +kernel)) (hts (.code objectInit ⟨#[0xb1]⟩ 1 none) (by decide +kernel)) rfl (by rw [hml]; exact hl.1) rfl dX5_init_1 (Nat.le_of_ble_eq_true rfl) (Nat.le_of_ble_eq_true rfl) ?_
  refine W.eq (g2 := F0 m 4 ls []) rfl ?_
  refine lv_aload_n hx hb dX5_init_4 rfl (lv_at hl 0 rfl) ?_
  refine va_new (ci := 1) (fs := [.int 0, .null, .int 0]) (C := RJx4a65c) (T := TJx4a65c) (N := 3) hx hb hts (by decide +kernel) tyJx4a65c tyJx4a65c_ok hown (hts (.classLink RX5 7 RJx4a65c) (by decide +kernel)) (hts (.instantiable RJx4a65c 3) (by decide +kernel)) (hts (.initialized RJx4a65c) (by decide +kernel)) hK hP hD hS hA rfl (fun j hj => by rcases (show j = 0 ∨ j = 1 ∨ j = 2 by omega) with rfl | rfl | rfl <;> rfl) (Nat.le_of_ble_eq_true rfl) (Nat.le_of_ble_eq_true rfl) dX5_init_5 (fun xk H hP hD hS => ?_)
  have hP : va_P D vwCl [(x, .inr (7, [.null, .null, .null, .null, .int 0, .int 0, .int 0, .int 0])), (xk, .inr (1, [.int 0, .null, .int 0]))] H := hP
  have hD : va_D A [(x, .inr (7, [.null, .null, .null, .null, .int 0, .int 0, .int 0, .int 0])), (xk, .inr (1, [.int 0, .null, .int 0]))] := hD
  refine lv_dup hx hb dX5_init_8 rfl ?_
  refine kI_v (As := []) (rest := [.ref xk, .ref x]) (wr := [(x, .inr (7, [.null, .null, .null, .null, .int 0, .int 0, .int 0, .int 0]))]) ⟨hx, hb, hml, hown, hts⟩ (c_arl_init l D e0 _ xk) (cwI 0 hts gX5_init_Jx4a65c_init_da8c8 rfl rfl rfl (hts (.initialized RJx4a65c) (by decide +kernel)) (hts (.methodLink RX5 9 yJx4a65c_init_da8c8) (by decide +kernel)) (hts (.instanceMethod yJx4a65c_init_da8c8) (by decide +kernel)) rfl (by decide +kernel) ⟨Nat.le_of_ble_eq_true rfl, Nat.le_of_ble_eq_true rfl⟩) hP hD hK hS hA hE rfl [1] [0] [] rfl rfl (by decide) (by decide) (by decide) rfl rfl hl.1 (Nat.le_of_ble_eq_true rfl) dX5_init_9 ⟨Nat.le_of_ble_eq_true rfl, Nat.le_of_ble_eq_true rfl⟩ (fun u9 H locs hw hP hD hK hS => ?_)
  have hP : va_P D vwCl [(x, .inr (7, [.null, .null, .null, .null, .int 0, .int 0, .int 0, .int 0])), (xk, .inr (1, [.int 0, .ref e0, .int 0]))] H := hP
  have hD : va_D A [(x, .inr (7, [.null, .null, .null, .null, .int 0, .int 0, .int 0, .int 0])), (xk, .inr (1, [.int 0, .ref e0, .int 0]))] := hD
  have hK : va_K D vwCl [] s := hK
  refine va_putF (D := D) (ci := 7) (v := .ref xk) (ty := .object "java/util/ArrayList") (C := RX5) (T := TX5) (N := 8) hx hb hts (by decide +kernel) tyX5 tyX5_ok nmX5 hown hK hP hD hS 0 rfl rfl 0 (by decide) (hts (.fieldLink RX5 10 "PickCell" "kinds" "Ljava/util/ArrayList;") (by decide +kernel)) (fun _ h9 => h9) rfl hin rfl (by decide +kernel) rfl rfl (Nat.le_of_ble_eq_true rfl) dX5_init_12 (fun H locs hP hD hS => ?_)
  have hP : va_P D vwCl [(x, .inr (7, [.ref xk, .null, .null, .null, .int 0, .int 0, .int 0, .int 0])), (xk, .inr (1, [.int 0, .ref e0, .int 0]))] H := hP
  have hD : va_D A [(x, .inr (7, [.ref xk, .null, .null, .null, .int 0, .int 0, .int 0, .int 0])), (xk, .inr (1, [.int 0, .ref e0, .int 0]))] := hD
  refine lv_aload_n hx hb dX5_init_15 rfl (lv_at hl 0 rfl) ?_
  refine va_new (ci := 3) (fs := [.null, .null, .null, .int 0]) (C := RX1) (T := TX1) (N := 4) hx hb hts (by decide +kernel) tyX1 tyX1_ok hown (hts (.classLink RX5 16 RX1) (by decide +kernel)) (hts (.instantiable RX1 4) (by decide +kernel)) (hts (.initialized RX1) (by decide +kernel)) hK hP hD hS hA rfl (fun j hj => by rcases (show j = 0 ∨ j = 1 ∨ j = 2 ∨ j = 3 by omega) with rfl | rfl | rfl | rfl <;> rfl) (Nat.le_of_ble_eq_true rfl) (Nat.le_of_ble_eq_true rfl) dX5_init_16 (fun xb H hP hD hS => ?_)
  have hP : va_P D vwCl [(x, .inr (7, [.ref xk, .null, .null, .null, .int 0, .int 0, .int 0, .int 0])), (xk, .inr (1, [.int 0, .ref e0, .int 0])), (xb, .inr (3, [.null, .null, .null, .int 0]))] H := hP
  have hD : va_D A [(x, .inr (7, [.ref xk, .null, .null, .null, .int 0, .int 0, .int 0, .int 0])), (xk, .inr (1, [.int 0, .ref e0, .int 0])), (xb, .inr (3, [.null, .null, .null, .int 0]))] := hD
  refine lv_dup hx hb dX5_init_19 rfl ?_
  refine kI_v (As := []) (rest := [.ref xb, .ref x]) (wr := [(x, .inr (7, [.ref xk, .null, .null, .null, .int 0, .int 0, .int 0, .int 0])), (xk, .inr (1, [.int 0, .ref e0, .int 0]))]) ⟨hx, hb, hml, hown, hts⟩ (c_bin_init l D e0 _ xb) (cwI 0 hts gX5_init_X1_init rfl rfl rfl (hts (.initialized RX1) (by decide +kernel)) (hts (.methodLink RX5 18 yX1_init) (by decide +kernel)) (hts (.instanceMethod yX1_init) (by decide +kernel)) rfl (by decide +kernel) ⟨Nat.le_of_ble_eq_true rfl, Nat.le_of_ble_eq_true rfl⟩) hP hD hK hS hA hE rfl [2] [0, 1] [] rfl rfl (by decide) (by decide) (by decide) rfl rfl hl.1 (Nat.le_of_ble_eq_true rfl) dX5_init_20 ⟨Nat.le_of_ble_eq_true rfl, Nat.le_of_ble_eq_true rfl⟩ (fun u9 H locs hw hP hD hK hS => ?_)
  obtain ⟨xt, xp, cxp, xs, cxs, g⟩ := u9
  have hw : ∀ j, j < 36 → g j = -1 := hw
  have hg := hw
  have hP : va_P D vwCl [(x, .inr (7, [.ref xk, .null, .null, .null, .int 0, .int 0, .int 0, .int 0])), (xk, .inr (1, [.int 0, .ref e0, .int 0])), (xb, .inr (3, [.ref xt, .ref xp, .ref xs, .int 0])), (xt, .inr (1, [.int 0, .ref e0, .int 0])), (xp, .inl (cxp, 36, .inl (fun _ => 0))), (xs, .inl (cxs, 36, .inl g))] H := hP
  have hD : va_D A [(x, .inr (7, [.ref xk, .null, .null, .null, .int 0, .int 0, .int 0, .int 0])), (xk, .inr (1, [.int 0, .ref e0, .int 0])), (xb, .inr (3, [.ref xt, .ref xp, .ref xs, .int 0])), (xt, .inr (1, [.int 0, .ref e0, .int 0])), (xp, .inl (cxp, 36, .inl (fun _ => 0))), (xs, .inl (cxs, 36, .inl g))] := hD
  have hK : va_K D vwCl [(cxp, .int), (cxs, .int)] s := hK
  refine va_putF (D := D) (ci := 7) (v := .ref xb) (ty := .object "PickCell$Bin") (C := RX5) (T := TX5) (N := 8) hx hb hts (by decide +kernel) tyX5 tyX5_ok nmX5 hown hK hP hD hS 0 rfl rfl 1 (by decide) (hts (.fieldLink RX5 19 "PickCell" "bin" "LPickCell$Bin;") (by decide +kernel)) (fun _ h9 => h9) rfl hin rfl (by decide +kernel) rfl rfl (Nat.le_of_ble_eq_true rfl) dX5_init_23 (fun H locs hP hD hS => ?_)
  have hP : va_P D vwCl [(x, .inr (7, [.ref xk, .ref xb, .null, .null, .int 0, .int 0, .int 0, .int 0])), (xk, .inr (1, [.int 0, .ref e0, .int 0])), (xb, .inr (3, [.ref xt, .ref xp, .ref xs, .int 0])), (xt, .inr (1, [.int 0, .ref e0, .int 0])), (xp, .inl (cxp, 36, .inl (fun _ => 0))), (xs, .inl (cxs, 36, .inl g))] H := hP
  have hD : va_D A [(x, .inr (7, [.ref xk, .ref xb, .null, .null, .int 0, .int 0, .int 0, .int 0])), (xk, .inr (1, [.int 0, .ref e0, .int 0])), (xb, .inr (3, [.ref xt, .ref xp, .ref xs, .int 0])), (xt, .inr (1, [.int 0, .ref e0, .int 0])), (xp, .inl (cxp, 36, .inl (fun _ => 0))), (xs, .inl (cxs, 36, .inl g))] := hD
  refine lv_aload_n hx hb dX5_init_26 rfl (lv_at hl 0 rfl) ?_
  refine va_new (ci := 1) (fs := [.int 0, .null, .int 0]) (C := RJx4a65c) (T := TJx4a65c) (N := 3) hx hb hts (by decide +kernel) tyJx4a65c tyJx4a65c_ok hown (hts (.classLink RX5 7 RJx4a65c) (by decide +kernel)) (hts (.instantiable RJx4a65c 3) (by decide +kernel)) (hts (.initialized RJx4a65c) (by decide +kernel)) hK hP hD hS hA rfl (fun j hj => by rcases (show j = 0 ∨ j = 1 ∨ j = 2 by omega) with rfl | rfl | rfl <;> rfl) (Nat.le_of_ble_eq_true rfl) (Nat.le_of_ble_eq_true rfl) dX5_init_27 (fun xo H hP hD hS => ?_)
  have hP : va_P D vwCl [(x, .inr (7, [.ref xk, .ref xb, .null, .null, .int 0, .int 0, .int 0, .int 0])), (xk, .inr (1, [.int 0, .ref e0, .int 0])), (xb, .inr (3, [.ref xt, .ref xp, .ref xs, .int 0])), (xt, .inr (1, [.int 0, .ref e0, .int 0])), (xp, .inl (cxp, 36, .inl (fun _ => 0))), (xs, .inl (cxs, 36, .inl g)), (xo, .inr (1, [.int 0, .null, .int 0]))] H := hP
  have hD : va_D A [(x, .inr (7, [.ref xk, .ref xb, .null, .null, .int 0, .int 0, .int 0, .int 0])), (xk, .inr (1, [.int 0, .ref e0, .int 0])), (xb, .inr (3, [.ref xt, .ref xp, .ref xs, .int 0])), (xt, .inr (1, [.int 0, .ref e0, .int 0])), (xp, .inl (cxp, 36, .inl (fun _ => 0))), (xs, .inl (cxs, 36, .inl g)), (xo, .inr (1, [.int 0, .null, .int 0]))] := hD
  refine lv_dup hx hb dX5_init_30 rfl ?_
  refine kI_v (As := []) (rest := [.ref xo, .ref x]) (wr := [(x, .inr (7, [.ref xk, .ref xb, .null, .null, .int 0, .int 0, .int 0, .int 0])), (xk, .inr (1, [.int 0, .ref e0, .int 0])), (xb, .inr (3, [.ref xt, .ref xp, .ref xs, .int 0])), (xt, .inr (1, [.int 0, .ref e0, .int 0])), (xp, .inl (cxp, 36, .inl (fun _ => 0))), (xs, .inl (cxs, 36, .inl g))]) ⟨hx, hb, hml, hown, hts⟩ (c_arl_init l D e0 _ xo) (cwI 0 hts gX5_init_Jx4a65c_init_da8c8 rfl rfl rfl (hts (.initialized RJx4a65c) (by decide +kernel)) (hts (.methodLink RX5 9 yJx4a65c_init_da8c8) (by decide +kernel)) (hts (.instanceMethod yJx4a65c_init_da8c8) (by decide +kernel)) rfl (by decide +kernel) ⟨Nat.le_of_ble_eq_true rfl, Nat.le_of_ble_eq_true rfl⟩) hP hD hK hS hA hE rfl [6] [0, 1, 2, 3, 4, 5] [] rfl rfl (by decide) (by decide) (by decide) rfl rfl hl.1 (Nat.le_of_ble_eq_true rfl) dX5_init_31 ⟨Nat.le_of_ble_eq_true rfl, Nat.le_of_ble_eq_true rfl⟩ (fun u9 H locs hw hP hD hK hS => ?_)
  have hP : va_P D vwCl [(x, .inr (7, [.ref xk, .ref xb, .null, .null, .int 0, .int 0, .int 0, .int 0])), (xk, .inr (1, [.int 0, .ref e0, .int 0])), (xb, .inr (3, [.ref xt, .ref xp, .ref xs, .int 0])), (xt, .inr (1, [.int 0, .ref e0, .int 0])), (xp, .inl (cxp, 36, .inl (fun _ => 0))), (xs, .inl (cxs, 36, .inl g)), (xo, .inr (1, [.int 0, .ref e0, .int 0]))] H := hP
  have hD : va_D A [(x, .inr (7, [.ref xk, .ref xb, .null, .null, .int 0, .int 0, .int 0, .int 0])), (xk, .inr (1, [.int 0, .ref e0, .int 0])), (xb, .inr (3, [.ref xt, .ref xp, .ref xs, .int 0])), (xt, .inr (1, [.int 0, .ref e0, .int 0])), (xp, .inl (cxp, 36, .inl (fun _ => 0))), (xs, .inl (cxs, 36, .inl g)), (xo, .inr (1, [.int 0, .ref e0, .int 0]))] := hD
  have hK : va_K D vwCl [(cxp, .int), (cxs, .int)] s := hK
  refine va_putF (D := D) (ci := 7) (v := .ref xo) (ty := .object "java/util/ArrayList") (C := RX5) (T := TX5) (N := 8) hx hb hts (by decide +kernel) tyX5 tyX5_ok nmX5 hown hK hP hD hS 0 rfl rfl 2 (by decide) (hts (.fieldLink RX5 23 "PickCell" "boxes" "Ljava/util/ArrayList;") (by decide +kernel)) (fun _ h9 => h9) rfl hin rfl (by decide +kernel) rfl rfl (Nat.le_of_ble_eq_true rfl) dX5_init_34 (fun H locs hP hD hS => ?_)
  have hP : va_P D vwCl [(x, .inr (7, [.ref xk, .ref xb, .ref xo, .null, .int 0, .int 0, .int 0, .int 0])), (xk, .inr (1, [.int 0, .ref e0, .int 0])), (xb, .inr (3, [.ref xt, .ref xp, .ref xs, .int 0])), (xt, .inr (1, [.int 0, .ref e0, .int 0])), (xp, .inl (cxp, 36, .inl (fun _ => 0))), (xs, .inl (cxs, 36, .inl g)), (xo, .inr (1, [.int 0, .ref e0, .int 0]))] H := hP
  have hD : va_D A [(x, .inr (7, [.ref xk, .ref xb, .ref xo, .null, .int 0, .int 0, .int 0, .int 0])), (xk, .inr (1, [.int 0, .ref e0, .int 0])), (xb, .inr (3, [.ref xt, .ref xp, .ref xs, .int 0])), (xt, .inr (1, [.int 0, .ref e0, .int 0])), (xp, .inl (cxp, 36, .inl (fun _ => 0))), (xs, .inl (cxs, 36, .inl g)), (xo, .inr (1, [.int 0, .ref e0, .int 0]))] := hD
  refine lv_aload_n hx hb dX5_init_37 rfl (lv_at hl 0 rfl) ?_
  refine va_new (ci := 2) (fs := [.int 0, .int 0, .int 0, .null, .int 0, .double 0]) (C := RX0) (T := TX0) (N := 6) hx hb hts (by decide +kernel) tyX0 tyX0_ok hown (hts (.classLink RX5 26 RX0) (by decide +kernel)) (hts (.instantiable RX0 6) (by decide +kernel)) (hts (.initialized RX0) (by decide +kernel)) hK hP hD hS hA rfl (fun j hj => by rcases (show j = 0 ∨ j = 1 ∨ j = 2 ∨ j = 3 ∨ j = 4 ∨ j = 5 by omega) with rfl | rfl | rfl | rfl | rfl | rfl <;> rfl) (Nat.le_of_ble_eq_true rfl) (Nat.le_of_ble_eq_true rfl) dX5_init_38 (fun xa H hP hD hS => ?_)
  have hP : va_P D vwCl [(x, .inr (7, [.ref xk, .ref xb, .ref xo, .null, .int 0, .int 0, .int 0, .int 0])), (xk, .inr (1, [.int 0, .ref e0, .int 0])), (xb, .inr (3, [.ref xt, .ref xp, .ref xs, .int 0])), (xt, .inr (1, [.int 0, .ref e0, .int 0])), (xp, .inl (cxp, 36, .inl (fun _ => 0))), (xs, .inl (cxs, 36, .inl g)), (xo, .inr (1, [.int 0, .ref e0, .int 0])), (xa, .inr (2, [.int 0, .int 0, .int 0, .null, .int 0, .double 0]))] H := hP
  have hD : va_D A [(x, .inr (7, [.ref xk, .ref xb, .ref xo, .null, .int 0, .int 0, .int 0, .int 0])), (xk, .inr (1, [.int 0, .ref e0, .int 0])), (xb, .inr (3, [.ref xt, .ref xp, .ref xs, .int 0])), (xt, .inr (1, [.int 0, .ref e0, .int 0])), (xp, .inl (cxp, 36, .inl (fun _ => 0))), (xs, .inl (cxs, 36, .inl g)), (xo, .inr (1, [.int 0, .ref e0, .int 0])), (xa, .inr (2, [.int 0, .int 0, .int 0, .null, .int 0, .double 0]))] := hD
  refine lv_dup hx hb dX5_init_41 rfl ?_
  refine kIN_v (As := []) (rest := [.ref xa, .ref x]) (wr := [(x, .inr (7, [.ref xk, .ref xb, .ref xo, .null, .int 0, .int 0, .int 0, .int 0])), (xk, .inr (1, [.int 0, .ref e0, .int 0])), (xb, .inr (3, [.ref xt, .ref xp, .ref xs, .int 0])), (xt, .inr (1, [.int 0, .ref e0, .int 0])), (xp, .inl (cxp, 36, .inl (fun _ => 0))), (xs, .inl (cxs, 36, .inl g)), (xo, .inr (1, [.int 0, .ref e0, .int 0]))]) ⟨hx, hb, hml, hown, hts⟩ (c_arm_init l D e0 _ xa) ⟨va_cnB 0 hts gX5_init_X0_init_n28 rfl rfl rfl hE.2.2.2.2.2.2.2.1.1 (hts (.initialized RX0) (by decide +kernel)) (by decide +kernel) ⟨Nat.le_of_ble_eq_true rfl, Nat.le_of_ble_eq_true rfl⟩, rfl, (hts (.instanceMethod yX0_init) (by decide +kernel))⟩ hP hD hK hS hA hE rfl [7] [0, 1, 2, 3, 4, 5, 6] [] rfl rfl (by decide) (by decide) (by decide) rfl rfl hl.1 (Nat.le_of_ble_eq_true rfl) dX5_init_42 ⟨Nat.le_of_ble_eq_true rfl, Nat.le_of_ble_eq_true rfl⟩ (fun u9 H locs hw hP hD hK hS => ?_)
  have hP : va_P D vwCl [(x, .inr (7, [.ref xk, .ref xb, .ref xo, .null, .int 0, .int 0, .int 0, .int 0])), (xk, .inr (1, [.int 0, .ref e0, .int 0])), (xb, .inr (3, [.ref xt, .ref xp, .ref xs, .int 0])), (xt, .inr (1, [.int 0, .ref e0, .int 0])), (xp, .inl (cxp, 36, .inl (fun _ => 0))), (xs, .inl (cxs, 36, .inl g)), (xo, .inr (1, [.int 0, .ref e0, .int 0])), (xa, .inr (2, [.int 0, .int 0, .int 0, .null, .int 0, .double 0]))] H := hP
  have hD : va_D A [(x, .inr (7, [.ref xk, .ref xb, .ref xo, .null, .int 0, .int 0, .int 0, .int 0])), (xk, .inr (1, [.int 0, .ref e0, .int 0])), (xb, .inr (3, [.ref xt, .ref xp, .ref xs, .int 0])), (xt, .inr (1, [.int 0, .ref e0, .int 0])), (xp, .inl (cxp, 36, .inl (fun _ => 0))), (xs, .inl (cxs, 36, .inl g)), (xo, .inr (1, [.int 0, .ref e0, .int 0])), (xa, .inr (2, [.int 0, .int 0, .int 0, .null, .int 0, .double 0]))] := hD
  have hK : va_K D vwCl [(cxp, .int), (cxs, .int)] s := hK
  refine va_putF (D := D) (ci := 7) (v := .ref xa) (ty := .object "PickCell$Arm") (C := RX5) (T := TX5) (N := 8) hx hb hts (by decide +kernel) tyX5 tyX5_ok nmX5 hown hK hP hD hS 0 rfl rfl 3 (by decide) (hts (.fieldLink RX5 29 "PickCell" "arm" "LPickCell$Arm;") (by decide +kernel)) (fun _ h9 => h9) rfl hin rfl (by decide +kernel) rfl rfl (Nat.le_of_ble_eq_true rfl) dX5_init_45 (fun H locs hP hD hS => ?_)
  have hP : va_P D vwCl [(x, .inr (7, [.ref xk, .ref xb, .ref xo, .ref xa, .int 0, .int 0, .int 0, .int 0])), (xk, .inr (1, [.int 0, .ref e0, .int 0])), (xb, .inr (3, [.ref xt, .ref xp, .ref xs, .int 0])), (xt, .inr (1, [.int 0, .ref e0, .int 0])), (xp, .inl (cxp, 36, .inl (fun _ => 0))), (xs, .inl (cxs, 36, .inl g)), (xo, .inr (1, [.int 0, .ref e0, .int 0])), (xa, .inr (2, [.int 0, .int 0, .int 0, .null, .int 0, .double 0]))] H := hP
  have hD : va_D A [(x, .inr (7, [.ref xk, .ref xb, .ref xo, .ref xa, .int 0, .int 0, .int 0, .int 0])), (xk, .inr (1, [.int 0, .ref e0, .int 0])), (xb, .inr (3, [.ref xt, .ref xp, .ref xs, .int 0])), (xt, .inr (1, [.int 0, .ref e0, .int 0])), (xp, .inl (cxp, 36, .inl (fun _ => 0))), (xs, .inl (cxs, 36, .inl g)), (xo, .inr (1, [.int 0, .ref e0, .int 0])), (xa, .inr (2, [.int 0, .int 0, .int 0, .null, .int 0, .double 0]))] := hD
  refine lv_aload_n hx hb dX5_init_48 rfl (lv_at hl 0 rfl) ?_
  refine lv_iconst (v := 0) hx hb dX5_init_49 (by decide) ?_
  refine va_put (D := D) (ci := 7) (v := .int 0) (ty := .boolean) (C := RX5) (T := TX5) (N := 8) hx hb hts (by decide +kernel) tyX5 tyX5_ok nmX5 hown hK hP hD hS 0 rfl rfl 4 (by decide) (hts (.fieldLink RX5 33 "PickCell" "personIsNear" "Z") (by decide +kernel)) (fun _ h9 => h9) rfl (by decide +kernel) rfl rfl (Nat.le_of_ble_eq_true rfl) dX5_init_50 (fun H locs hP hD hS => ?_)
  have hP : va_P D vwCl [(x, .inr (7, [.ref xk, .ref xb, .ref xo, .ref xa, .int 0, .int 0, .int 0, .int 0])), (xk, .inr (1, [.int 0, .ref e0, .int 0])), (xb, .inr (3, [.ref xt, .ref xp, .ref xs, .int 0])), (xt, .inr (1, [.int 0, .ref e0, .int 0])), (xp, .inl (cxp, 36, .inl (fun _ => 0))), (xs, .inl (cxs, 36, .inl g)), (xo, .inr (1, [.int 0, .ref e0, .int 0])), (xa, .inr (2, [.int 0, .int 0, .int 0, .null, .int 0, .double 0]))] H := hP
  have hD : va_D A [(x, .inr (7, [.ref xk, .ref xb, .ref xo, .ref xa, .int 0, .int 0, .int 0, .int 0])), (xk, .inr (1, [.int 0, .ref e0, .int 0])), (xb, .inr (3, [.ref xt, .ref xp, .ref xs, .int 0])), (xt, .inr (1, [.int 0, .ref e0, .int 0])), (xp, .inl (cxp, 36, .inl (fun _ => 0))), (xs, .inl (cxs, 36, .inl g)), (xo, .inr (1, [.int 0, .ref e0, .int 0])), (xa, .inr (2, [.int 0, .int 0, .int 0, .null, .int 0, .double 0]))] := hD
  refine lv_aload_n hx hb dX5_init_53 rfl (lv_at hl 0 rfl) ?_
  refine lv_iconst (v := 0) hx hb dX5_init_54 (by decide) ?_
  refine va_put (D := D) (ci := 7) (v := .int 0) (ty := .int) (C := RX5) (T := TX5) (N := 8) hx hb hts (by decide +kernel) tyX5 tyX5_ok nmX5 hown hK hP hD hS 0 rfl rfl 5 (by decide) (hts (.fieldLink RX5 37 "PickCell" "draw" "I") (by decide +kernel)) (fun _ h9 => h9) rfl (by decide +kernel) rfl rfl (Nat.le_of_ble_eq_true rfl) dX5_init_55 (fun H locs hP hD hS => ?_)
  have hP : va_P D vwCl [(x, .inr (7, [.ref xk, .ref xb, .ref xo, .ref xa, .int 0, .int 0, .int 0, .int 0])), (xk, .inr (1, [.int 0, .ref e0, .int 0])), (xb, .inr (3, [.ref xt, .ref xp, .ref xs, .int 0])), (xt, .inr (1, [.int 0, .ref e0, .int 0])), (xp, .inl (cxp, 36, .inl (fun _ => 0))), (xs, .inl (cxs, 36, .inl g)), (xo, .inr (1, [.int 0, .ref e0, .int 0])), (xa, .inr (2, [.int 0, .int 0, .int 0, .null, .int 0, .double 0]))] H := hP
  have hD : va_D A [(x, .inr (7, [.ref xk, .ref xb, .ref xo, .ref xa, .int 0, .int 0, .int 0, .int 0])), (xk, .inr (1, [.int 0, .ref e0, .int 0])), (xb, .inr (3, [.ref xt, .ref xp, .ref xs, .int 0])), (xt, .inr (1, [.int 0, .ref e0, .int 0])), (xp, .inl (cxp, 36, .inl (fun _ => 0))), (xs, .inl (cxs, 36, .inl g)), (xo, .inr (1, [.int 0, .ref e0, .int 0])), (xa, .inr (2, [.int 0, .int 0, .int 0, .null, .int 0, .double 0]))] := hD
  refine lv_aload_n hx hb dX5_init_58 rfl (lv_at hl 0 rfl) ?_
  refine lv_iconst (v := 0) hx hb dX5_init_59 (by decide) ?_
  refine va_put (D := D) (ci := 7) (v := .int 0) (ty := .int) (C := RX5) (T := TX5) (N := 8) hx hb hts (by decide +kernel) tyX5 tyX5_ok nmX5 hown hK hP hD hS 0 rfl rfl 6 (by decide) (hts (.fieldLink RX5 41 "PickCell" "slips" "I") (by decide +kernel)) (fun _ h9 => h9) rfl (by decide +kernel) rfl rfl (Nat.le_of_ble_eq_true rfl) dX5_init_60 (fun H locs hP hD hS => ?_)
  have hP : va_P D vwCl [(x, .inr (7, [.ref xk, .ref xb, .ref xo, .ref xa, .int 0, .int 0, .int 0, .int 0])), (xk, .inr (1, [.int 0, .ref e0, .int 0])), (xb, .inr (3, [.ref xt, .ref xp, .ref xs, .int 0])), (xt, .inr (1, [.int 0, .ref e0, .int 0])), (xp, .inl (cxp, 36, .inl (fun _ => 0))), (xs, .inl (cxs, 36, .inl g)), (xo, .inr (1, [.int 0, .ref e0, .int 0])), (xa, .inr (2, [.int 0, .int 0, .int 0, .null, .int 0, .double 0]))] H := hP
  have hD : va_D A [(x, .inr (7, [.ref xk, .ref xb, .ref xo, .ref xa, .int 0, .int 0, .int 0, .int 0])), (xk, .inr (1, [.int 0, .ref e0, .int 0])), (xb, .inr (3, [.ref xt, .ref xp, .ref xs, .int 0])), (xt, .inr (1, [.int 0, .ref e0, .int 0])), (xp, .inl (cxp, 36, .inl (fun _ => 0))), (xs, .inl (cxs, 36, .inl g)), (xo, .inr (1, [.int 0, .ref e0, .int 0])), (xa, .inr (2, [.int 0, .int 0, .int 0, .null, .int 0, .double 0]))] := hD
  refine lv_aload_n hx hb dX5_init_63 rfl (lv_at hl 0 rfl) ?_
  refine lv_iconst (v := 0) hx hb dX5_init_64 (by decide) ?_
  refine va_put (D := D) (ci := 7) (v := .int 0) (ty := .int) (C := RX5) (T := TX5) (N := 8) hx hb hts (by decide +kernel) tyX5 tyX5_ok nmX5 hown hK hP hD hS 0 rfl rfl 7 (by decide) (hts (.fieldLink RX5 44 "PickCell" "hinderedPicks" "I") (by decide +kernel)) (fun _ h9 => h9) rfl (by decide +kernel) rfl rfl (Nat.le_of_ble_eq_true rfl) dX5_init_65 (fun H locs hP hD hS => ?_)
  have hP : va_P D vwCl [(x, .inr (7, [.ref xk, .ref xb, .ref xo, .ref xa, .int 0, .int 0, .int 0, .int 0])), (xk, .inr (1, [.int 0, .ref e0, .int 0])), (xb, .inr (3, [.ref xt, .ref xp, .ref xs, .int 0])), (xt, .inr (1, [.int 0, .ref e0, .int 0])), (xp, .inl (cxp, 36, .inl (fun _ => 0))), (xs, .inl (cxs, 36, .inl g)), (xo, .inr (1, [.int 0, .ref e0, .int 0])), (xa, .inr (2, [.int 0, .int 0, .int 0, .null, .int 0, .double 0]))] H := hP
  have hD : va_D A [(x, .inr (7, [.ref xk, .ref xb, .ref xo, .ref xa, .int 0, .int 0, .int 0, .int 0])), (xk, .inr (1, [.int 0, .ref e0, .int 0])), (xb, .inr (3, [.ref xt, .ref xp, .ref xs, .int 0])), (xt, .inr (1, [.int 0, .ref e0, .int 0])), (xp, .inl (cxp, 36, .inl (fun _ => 0))), (xs, .inl (cxs, 36, .inl g)), (xo, .inr (1, [.int 0, .ref e0, .int 0])), (xa, .inr (2, [.int 0, .int 0, .int 0, .null, .int 0, .double 0]))] := hD
  exact end_v hx hb hr hlocks hP hD hK hS (xk, xb, xt, xp, cxp, xs, cxs, g, xo, xa) hg [0, 1, 2, 3, 4, 5, 6, 7] [0, 1] rfl (by decide) rfl (Nat.le_of_ble_eq_true rfl) (Nat.le_of_ble_eq_true rfl) dX5_init_68
set_option maxHeartbeats 4000000 in
set_option maxRecDepth 100000 in
/-- PickCellModel() -/
theorem c_m_init (l : Launch) (D : va_G) (e0 sz : Nat) (mm : Nat) : Kv (S := Nat × Nat × Nat) l yX9_init wsX9_init ({ frames := 4, cells := 3, slots := 9, locals := 72 } : Room) [.ref mm] D [(mm, .inr (11, [.int 0, .null, .null, .null, .int 0, .int 0, .int 0, .int 0, .null, .int 0, .int 0, .double 0, .int 0, .int 0, .int 0]))] [] e0 sz (fun (_ : Nat × Nat × Nat) => True) (fun (u : Nat × Nat × Nat) => match u with | (mk9, mt, mb) => [(mm, .inr (11, [.int 0, .ref mk9, .ref mt, .ref mb, .int 0, .int 0, .int 0, .int 0, .null, .int 0, .int 0, .double 0, .int 0, .int 0, .int 0])), (mk9, .inr (1, [.int 0, .ref e0, .int 0])), (mt, .inr (1, [.int 0, .ref e0, .int 0])), (mb, .inr (1, [.int 0, .ref e0, .int 0]))]) (fun _ => []) 3 9 := by
  refine Met.ofW (cc := cX9_init) (maxL := 1) (ret := none) (by decide) rfl ?_
  intro p e s m args below meth c s₁ B hml hv
  obtain ⟨rfl, hsz, hP, hK, hD0, hE⟩ := hv
  have hx := B.exec
  have hb := B.bytes
  have hr := B.returns
  have hts := atoms_spec (ws := wsX9_init) B.pre
  have hown : s.vm.findClass RX9 = some m.cls := findClass_of_methodNamed B.named
  have hlocks := B.notSynchronized
  have hin : meth.name = "<init>" := (name_of_methodNamed B.named B.method).1
  subst hsz
  have hD := hD0.self (sz := s.heap.size)
  generalize hAe : va_A [(mm, .inr (11, [.int 0, .null, .null, .null, .int 0, .int 0, .int 0, .int 0, .null, .int 0, .int 0, .double 0, .int 0, .int 0, .int 0]))] s.heap.size = A at hD hE ⊢
  have hA : ∀ q : Nat, s.heap.size ≤ q → A q := fun q h => by rw [← hAe]; exact Or.inr h
  have hS : va_S A s.heap s.heap [] := va_S.rf
  have hP : va_P D vwCl [(mm, .inr (11, [.int 0, .null, .null, .null, .int 0, .int 0, .int 0, .int 0, .null, .int 0, .int 0, .double 0, .int 0, .int 0, .int 0]))] s.heap := hP
  have hl := lv_entry ([.ref mm]) (n := 1) (Nat.le_of_ble_eq_true rfl)
  rw [lg_entry_eq]
  generalize (lg_sl ([.ref mm]) ++ List.replicate (1 - (lg_sl ([.ref mm])).length) Slot.unset).toArray = ls at hl ⊢
  have hl : lv_has ls 1 [(0, .ref mm)] := hl
  refine lv_aload_n hx hb dX9_init_0 rfl (lv_at hl 0 rfl) ?_
  refine W.objInit hx hb hown (hts (.methodLink RX9 1 objectInit) (by decide +kernel)) (hts (.instanceMethod objectInit) (by decide +kernel)) (hts (.code objectInit ⟨#[0xb1]⟩ 1 none) (by decide +kernel)) rfl (by rw [hml]; exact hl.1) rfl dX9_init_1 (Nat.le_of_ble_eq_true rfl) (Nat.le_of_ble_eq_true rfl) ?_
  refine W.eq (g2 := F0 m 4 ls []) rfl ?_
  refine lv_aload_n hx hb dX9_init_4 rfl (lv_at hl 0 rfl) ?_
  refine va_new (ci := 1) (fs := [.int 0, .null, .int 0]) (C := RJx4a65c) (T := TJx4a65c) (N := 3) hx hb hts (by decide +kernel) tyJx4a65c tyJx4a65c_ok hown (hts (.classLink RX9 7 RJx4a65c) (by decide +kernel)) (hts (.instantiable RJx4a65c 3) (by decide +kernel)) (hts (.initialized RJx4a65c) (by decide +kernel)) hK hP hD hS hA rfl (fun j hj => by rcases (show j = 0 ∨ j = 1 ∨ j = 2 by omega) with rfl | rfl | rfl <;> rfl) (Nat.le_of_ble_eq_true rfl) (Nat.le_of_ble_eq_true rfl) dX9_init_5 (fun mk9 H hP hD hS => ?_)
  have hP : va_P D vwCl [(mm, .inr (11, [.int 0, .null, .null, .null, .int 0, .int 0, .int 0, .int 0, .null, .int 0, .int 0, .double 0, .int 0, .int 0, .int 0])), (mk9, .inr (1, [.int 0, .null, .int 0]))] H := hP
  have hD : va_D A [(mm, .inr (11, [.int 0, .null, .null, .null, .int 0, .int 0, .int 0, .int 0, .null, .int 0, .int 0, .double 0, .int 0, .int 0, .int 0])), (mk9, .inr (1, [.int 0, .null, .int 0]))] := hD
  refine lv_dup hx hb dX9_init_8 rfl ?_
  refine kI_v (As := []) (rest := [.ref mk9, .ref mm]) (wr := [(mm, .inr (11, [.int 0, .null, .null, .null, .int 0, .int 0, .int 0, .int 0, .null, .int 0, .int 0, .double 0, .int 0, .int 0, .int 0]))]) ⟨hx, hb, hml, hown, hts⟩ (c_arl_init l D e0 _ mk9) (cwI 0 hts gX9_init_Jx4a65c_init_da8c8 rfl rfl rfl (hts (.initialized RJx4a65c) (by decide +kernel)) (hts (.methodLink RX9 9 yJx4a65c_init_da8c8) (by decide +kernel)) (hts (.instanceMethod yJx4a65c_init_da8c8) (by decide +kernel)) rfl (by decide +kernel) ⟨Nat.le_of_ble_eq_true rfl, Nat.le_of_ble_eq_true rfl⟩) hP hD hK hS hA hE rfl [1] [0] [] rfl rfl (by decide) (by decide) (by decide) rfl rfl hl.1 (Nat.le_of_ble_eq_true rfl) dX9_init_9 ⟨Nat.le_of_ble_eq_true rfl, Nat.le_of_ble_eq_true rfl⟩ (fun u9 H locs hw hP hD hK hS => ?_)
  have hP : va_P D vwCl [(mm, .inr (11, [.int 0, .null, .null, .null, .int 0, .int 0, .int 0, .int 0, .null, .int 0, .int 0, .double 0, .int 0, .int 0, .int 0])), (mk9, .inr (1, [.int 0, .ref e0, .int 0]))] H := hP
  have hD : va_D A [(mm, .inr (11, [.int 0, .null, .null, .null, .int 0, .int 0, .int 0, .int 0, .null, .int 0, .int 0, .double 0, .int 0, .int 0, .int 0])), (mk9, .inr (1, [.int 0, .ref e0, .int 0]))] := hD
  have hK : va_K D vwCl [] s := hK
  refine va_putF (D := D) (ci := 11) (v := .ref mk9) (ty := .object "java/util/ArrayList") (C := RX9) (T := TX9) (N := 15) hx hb hts (by decide +kernel) tyX9 tyX9_ok nmX9 hown hK hP hD hS 0 rfl rfl 1 (by decide) (hts (.fieldLink RX9 10 "PickCellModel" "kinds" "Ljava/util/ArrayList;") (by decide +kernel)) (fun _ h9 => h9) rfl hin rfl (by decide +kernel) rfl rfl (Nat.le_of_ble_eq_true rfl) dX9_init_12 (fun H locs hP hD hS => ?_)
  have hP : va_P D vwCl [(mm, .inr (11, [.int 0, .ref mk9, .null, .null, .int 0, .int 0, .int 0, .int 0, .null, .int 0, .int 0, .double 0, .int 0, .int 0, .int 0])), (mk9, .inr (1, [.int 0, .ref e0, .int 0]))] H := hP
  have hD : va_D A [(mm, .inr (11, [.int 0, .ref mk9, .null, .null, .int 0, .int 0, .int 0, .int 0, .null, .int 0, .int 0, .double 0, .int 0, .int 0, .int 0])), (mk9, .inr (1, [.int 0, .ref e0, .int 0]))] := hD
  refine lv_aload_n hx hb dX9_init_15 rfl (lv_at hl 0 rfl) ?_
  refine va_new (ci := 1) (fs := [.int 0, .null, .int 0]) (C := RJx4a65c) (T := TJx4a65c) (N := 3) hx hb hts (by decide +kernel) tyJx4a65c tyJx4a65c_ok hown (hts (.classLink RX9 7 RJx4a65c) (by decide +kernel)) (hts (.instantiable RJx4a65c 3) (by decide +kernel)) (hts (.initialized RJx4a65c) (by decide +kernel)) hK hP hD hS hA rfl (fun j hj => by rcases (show j = 0 ∨ j = 1 ∨ j = 2 by omega) with rfl | rfl | rfl <;> rfl) (Nat.le_of_ble_eq_true rfl) (Nat.le_of_ble_eq_true rfl) dX9_init_16 (fun mt H hP hD hS => ?_)
  have hP : va_P D vwCl [(mm, .inr (11, [.int 0, .ref mk9, .null, .null, .int 0, .int 0, .int 0, .int 0, .null, .int 0, .int 0, .double 0, .int 0, .int 0, .int 0])), (mk9, .inr (1, [.int 0, .ref e0, .int 0])), (mt, .inr (1, [.int 0, .null, .int 0]))] H := hP
  have hD : va_D A [(mm, .inr (11, [.int 0, .ref mk9, .null, .null, .int 0, .int 0, .int 0, .int 0, .null, .int 0, .int 0, .double 0, .int 0, .int 0, .int 0])), (mk9, .inr (1, [.int 0, .ref e0, .int 0])), (mt, .inr (1, [.int 0, .null, .int 0]))] := hD
  refine lv_dup hx hb dX9_init_19 rfl ?_
  refine kI_v (As := []) (rest := [.ref mt, .ref mm]) (wr := [(mm, .inr (11, [.int 0, .ref mk9, .null, .null, .int 0, .int 0, .int 0, .int 0, .null, .int 0, .int 0, .double 0, .int 0, .int 0, .int 0])), (mk9, .inr (1, [.int 0, .ref e0, .int 0]))]) ⟨hx, hb, hml, hown, hts⟩ (c_arl_init l D e0 _ mt) (cwI 0 hts gX9_init_Jx4a65c_init_da8c8 rfl rfl rfl (hts (.initialized RJx4a65c) (by decide +kernel)) (hts (.methodLink RX9 9 yJx4a65c_init_da8c8) (by decide +kernel)) (hts (.instanceMethod yJx4a65c_init_da8c8) (by decide +kernel)) rfl (by decide +kernel) ⟨Nat.le_of_ble_eq_true rfl, Nat.le_of_ble_eq_true rfl⟩) hP hD hK hS hA hE rfl [2] [0, 1] [] rfl rfl (by decide) (by decide) (by decide) rfl rfl hl.1 (Nat.le_of_ble_eq_true rfl) dX9_init_20 ⟨Nat.le_of_ble_eq_true rfl, Nat.le_of_ble_eq_true rfl⟩ (fun u9 H locs hw hP hD hK hS => ?_)
  have hP : va_P D vwCl [(mm, .inr (11, [.int 0, .ref mk9, .null, .null, .int 0, .int 0, .int 0, .int 0, .null, .int 0, .int 0, .double 0, .int 0, .int 0, .int 0])), (mk9, .inr (1, [.int 0, .ref e0, .int 0])), (mt, .inr (1, [.int 0, .ref e0, .int 0]))] H := hP
  have hD : va_D A [(mm, .inr (11, [.int 0, .ref mk9, .null, .null, .int 0, .int 0, .int 0, .int 0, .null, .int 0, .int 0, .double 0, .int 0, .int 0, .int 0])), (mk9, .inr (1, [.int 0, .ref e0, .int 0])), (mt, .inr (1, [.int 0, .ref e0, .int 0]))] := hD
  have hK : va_K D vwCl [] s := hK
  refine va_putF (D := D) (ci := 11) (v := .ref mt) (ty := .object "java/util/ArrayList") (C := RX9) (T := TX9) (N := 15) hx hb hts (by decide +kernel) tyX9 tyX9_ok nmX9 hown hK hP hD hS 0 rfl rfl 2 (by decide) (hts (.fieldLink RX9 16 "PickCellModel" "things" "Ljava/util/ArrayList;") (by decide +kernel)) (fun _ h9 => h9) rfl hin rfl (by decide +kernel) rfl rfl (Nat.le_of_ble_eq_true rfl) dX9_init_23 (fun H locs hP hD hS => ?_)
  have hP : va_P D vwCl [(mm, .inr (11, [.int 0, .ref mk9, .ref mt, .null, .int 0, .int 0, .int 0, .int 0, .null, .int 0, .int 0, .double 0, .int 0, .int 0, .int 0])), (mk9, .inr (1, [.int 0, .ref e0, .int 0])), (mt, .inr (1, [.int 0, .ref e0, .int 0]))] H := hP
  have hD : va_D A [(mm, .inr (11, [.int 0, .ref mk9, .ref mt, .null, .int 0, .int 0, .int 0, .int 0, .null, .int 0, .int 0, .double 0, .int 0, .int 0, .int 0])), (mk9, .inr (1, [.int 0, .ref e0, .int 0])), (mt, .inr (1, [.int 0, .ref e0, .int 0]))] := hD
  refine lv_aload_n hx hb dX9_init_26 rfl (lv_at hl 0 rfl) ?_
  refine va_new (ci := 1) (fs := [.int 0, .null, .int 0]) (C := RJx4a65c) (T := TJx4a65c) (N := 3) hx hb hts (by decide +kernel) tyJx4a65c tyJx4a65c_ok hown (hts (.classLink RX9 7 RJx4a65c) (by decide +kernel)) (hts (.instantiable RJx4a65c 3) (by decide +kernel)) (hts (.initialized RJx4a65c) (by decide +kernel)) hK hP hD hS hA rfl (fun j hj => by rcases (show j = 0 ∨ j = 1 ∨ j = 2 by omega) with rfl | rfl | rfl <;> rfl) (Nat.le_of_ble_eq_true rfl) (Nat.le_of_ble_eq_true rfl) dX9_init_27 (fun mb H hP hD hS => ?_)
  have hP : va_P D vwCl [(mm, .inr (11, [.int 0, .ref mk9, .ref mt, .null, .int 0, .int 0, .int 0, .int 0, .null, .int 0, .int 0, .double 0, .int 0, .int 0, .int 0])), (mk9, .inr (1, [.int 0, .ref e0, .int 0])), (mt, .inr (1, [.int 0, .ref e0, .int 0])), (mb, .inr (1, [.int 0, .null, .int 0]))] H := hP
  have hD : va_D A [(mm, .inr (11, [.int 0, .ref mk9, .ref mt, .null, .int 0, .int 0, .int 0, .int 0, .null, .int 0, .int 0, .double 0, .int 0, .int 0, .int 0])), (mk9, .inr (1, [.int 0, .ref e0, .int 0])), (mt, .inr (1, [.int 0, .ref e0, .int 0])), (mb, .inr (1, [.int 0, .null, .int 0]))] := hD
  refine lv_dup hx hb dX9_init_30 rfl ?_
  refine kI_v (As := []) (rest := [.ref mb, .ref mm]) (wr := [(mm, .inr (11, [.int 0, .ref mk9, .ref mt, .null, .int 0, .int 0, .int 0, .int 0, .null, .int 0, .int 0, .double 0, .int 0, .int 0, .int 0])), (mk9, .inr (1, [.int 0, .ref e0, .int 0])), (mt, .inr (1, [.int 0, .ref e0, .int 0]))]) ⟨hx, hb, hml, hown, hts⟩ (c_arl_init l D e0 _ mb) (cwI 0 hts gX9_init_Jx4a65c_init_da8c8 rfl rfl rfl (hts (.initialized RJx4a65c) (by decide +kernel)) (hts (.methodLink RX9 9 yJx4a65c_init_da8c8) (by decide +kernel)) (hts (.instanceMethod yJx4a65c_init_da8c8) (by decide +kernel)) rfl (by decide +kernel) ⟨Nat.le_of_ble_eq_true rfl, Nat.le_of_ble_eq_true rfl⟩) hP hD hK hS hA hE rfl [3] [0, 1, 2] [] rfl rfl (by decide) (by decide) (by decide) rfl rfl hl.1 (Nat.le_of_ble_eq_true rfl) dX9_init_31 ⟨Nat.le_of_ble_eq_true rfl, Nat.le_of_ble_eq_true rfl⟩ (fun u9 H locs hw hP hD hK hS => ?_)
  have hP : va_P D vwCl [(mm, .inr (11, [.int 0, .ref mk9, .ref mt, .null, .int 0, .int 0, .int 0, .int 0, .null, .int 0, .int 0, .double 0, .int 0, .int 0, .int 0])), (mk9, .inr (1, [.int 0, .ref e0, .int 0])), (mt, .inr (1, [.int 0, .ref e0, .int 0])), (mb, .inr (1, [.int 0, .ref e0, .int 0]))] H := hP
  have hD : va_D A [(mm, .inr (11, [.int 0, .ref mk9, .ref mt, .null, .int 0, .int 0, .int 0, .int 0, .null, .int 0, .int 0, .double 0, .int 0, .int 0, .int 0])), (mk9, .inr (1, [.int 0, .ref e0, .int 0])), (mt, .inr (1, [.int 0, .ref e0, .int 0])), (mb, .inr (1, [.int 0, .ref e0, .int 0]))] := hD
  have hK : va_K D vwCl [] s := hK
  refine va_putF (D := D) (ci := 11) (v := .ref mb) (ty := .object "java/util/ArrayList") (C := RX9) (T := TX9) (N := 15) hx hb hts (by decide +kernel) tyX9 tyX9_ok nmX9 hown hK hP hD hS 0 rfl rfl 3 (by decide) (hts (.fieldLink RX9 19 "PickCellModel" "boxes" "Ljava/util/ArrayList;") (by decide +kernel)) (fun _ h9 => h9) rfl hin rfl (by decide +kernel) rfl rfl (Nat.le_of_ble_eq_true rfl) dX9_init_34 (fun H locs hP hD hS => ?_)
  have hP : va_P D vwCl [(mm, .inr (11, [.int 0, .ref mk9, .ref mt, .ref mb, .int 0, .int 0, .int 0, .int 0, .null, .int 0, .int 0, .double 0, .int 0, .int 0, .int 0])), (mk9, .inr (1, [.int 0, .ref e0, .int 0])), (mt, .inr (1, [.int 0, .ref e0, .int 0])), (mb, .inr (1, [.int 0, .ref e0, .int 0]))] H := hP
  have hD : va_D A [(mm, .inr (11, [.int 0, .ref mk9, .ref mt, .ref mb, .int 0, .int 0, .int 0, .int 0, .null, .int 0, .int 0, .double 0, .int 0, .int 0, .int 0])), (mk9, .inr (1, [.int 0, .ref e0, .int 0])), (mt, .inr (1, [.int 0, .ref e0, .int 0])), (mb, .inr (1, [.int 0, .ref e0, .int 0]))] := hD
  exact end_v hx hb hr hlocks hP hD hK hS (mk9, mt, mb) trivial [0, 1, 2, 3] [] rfl (by decide) rfl (Nat.le_of_ble_eq_true rfl) (Nat.le_of_ble_eq_true rfl) dX9_init_37
set_option maxHeartbeats 4000000 in
set_option maxRecDepth 100000 in
/-- PickCell.Kind(..) -/
theorem c_k3_init (l : Launch) (D : va_G) (e0 sz : Nat) (h0 : Nat) (p0 p1 p2 p3 p4 p5 p6 : Int32) : Kv (S := Unit) l yX3_init wsX3_init ({ frames := 1, cells := 0, slots := 0, locals := 12 } : Room) [.ref h0, .int p0, .int p1, .int p2, .int p3, .int p4, .int p5, .int p6] D [(h0, .inr (5, [.int 0, .int 0, .int 0, .int 0, .int 0, .int 0, .int 0]))] [] e0 sz (fun _ => True) (fun _ => [(h0, .inr (5, [.int p0, .int p1, .int p2, .int p3, .int p4, .int p5, .int p6]))]) (fun _ => []) 0 0 := by
  refine Met.ofW (cc := cX3_init) (maxL := 8) (ret := none) (by decide) rfl ?_
  intro p e s m args below meth c s₁ B hml hv
  obtain ⟨rfl, hsz, hP, hK, hD0, hE⟩ := hv
  have hx := B.exec
  have hb := B.bytes
  have hr := B.returns
  have hts := atoms_spec (ws := wsX3_init) B.pre
  have hown : s.vm.findClass RX3 = some m.cls := findClass_of_methodNamed B.named
  have hlocks := B.notSynchronized
  have hin : meth.name = "<init>" := (name_of_methodNamed B.named B.method).1
  subst hsz
  have hD := hD0.self (sz := s.heap.size)
  generalize hAe : va_A [(h0, .inr (5, [.int 0, .int 0, .int 0, .int 0, .int 0, .int 0, .int 0]))] s.heap.size = A at hD hE ⊢
  have hA : ∀ q : Nat, s.heap.size ≤ q → A q := fun q h => by rw [← hAe]; exact Or.inr h
  have hS : va_S A s.heap s.heap [] := va_S.rf
  have hP : va_P D vwCl [(h0, .inr (5, [.int 0, .int 0, .int 0, .int 0, .int 0, .int 0, .int 0]))] s.heap := hP
  have hl := lv_entry ([.ref h0, .int p0, .int p1, .int p2, .int p3, .int p4, .int p5, .int p6]) (n := 8) (Nat.le_of_ble_eq_true rfl)
  rw [lg_entry_eq]
  generalize (lg_sl ([.ref h0, .int p0, .int p1, .int p2, .int p3, .int p4, .int p5, .int p6]) ++ List.replicate (8 - (lg_sl ([.ref h0, .int p0, .int p1, .int p2, .int p3, .int p4, .int p5, .int p6])).length) Slot.unset).toArray = ls at hl ⊢
  have hl : lv_has ls 8 [(0, .ref h0), (1, .int p0), (2, .int p1), (3, .int p2), (4, .int p3), (5, .int p4), (6, .int p5), (7, .int p6)] := hl
  refine lv_aload_n hx hb dX3_init_0 rfl (lv_at hl 0 rfl) ?_
  refine W.objInit hx hb hown (hts (.methodLink RX3 1 objectInit) (by decide +kernel)) (hts (.instanceMethod objectInit) (by decide +kernel)) (hts (.code objectInit ⟨#[0xb1]⟩ 1 none) (by decide +kernel)) rfl (by rw [hml]; exact hl.1) rfl dX3_init_1 (Nat.le_of_ble_eq_true rfl) (Nat.le_of_ble_eq_true rfl) ?_
  refine W.eq (g2 := F0 m 4 ls []) rfl ?_
  refine lv_aload_n hx hb dX3_init_4 rfl (lv_at hl 0 rfl) ?_
  refine lv_iload_n hx hb dX3_init_5 rfl (lv_at hl 1 rfl) ?_
  refine va_putF (D := D) (ci := 5) (v := .int p0) (ty := .int) (C := RX3) (T := TX3) (N := 7) hx hb hts (by decide +kernel) tyX3 tyX3_ok nmX3 hown hK hP hD hS 0 rfl rfl 0 (by decide) (hts (.fieldLink RX3 7 "PickCell$Kind" "number" "I") (by decide +kernel)) (fun _ h9 => h9) rfl hin rfl (by decide +kernel) rfl rfl (Nat.le_of_ble_eq_true rfl) dX3_init_6 (fun H locs hP hD hS => ?_)
  have hP : va_P D vwCl [(h0, .inr (5, [.int p0, .int 0, .int 0, .int 0, .int 0, .int 0, .int 0]))] H := hP
  have hD : va_D A [(h0, .inr (5, [.int p0, .int 0, .int 0, .int 0, .int 0, .int 0, .int 0]))] := hD
  refine lv_aload_n hx hb dX3_init_9 rfl (lv_at hl 0 rfl) ?_
  refine lv_iload_n hx hb dX3_init_10 rfl (lv_at hl 2 rfl) ?_
  refine va_putF (D := D) (ci := 5) (v := .int p1) (ty := .int) (C := RX3) (T := TX3) (N := 7) hx hb hts (by decide +kernel) tyX3 tyX3_ok nmX3 hown hK hP hD hS 0 rfl rfl 1 (by decide) (hts (.fieldLink RX3 13 "PickCell$Kind" "width" "I") (by decide +kernel)) (fun _ h9 => h9) rfl hin rfl (by decide +kernel) rfl rfl (Nat.le_of_ble_eq_true rfl) dX3_init_11 (fun H locs hP hD hS => ?_)
  have hP : va_P D vwCl [(h0, .inr (5, [.int p0, .int p1, .int 0, .int 0, .int 0, .int 0, .int 0]))] H := hP
  have hD : va_D A [(h0, .inr (5, [.int p0, .int p1, .int 0, .int 0, .int 0, .int 0, .int 0]))] := hD
  refine lv_aload_n hx hb dX3_init_14 rfl (lv_at hl 0 rfl) ?_
  refine lv_iload_n hx hb dX3_init_15 rfl (lv_at hl 3 rfl) ?_
  refine va_putF (D := D) (ci := 5) (v := .int p2) (ty := .int) (C := RX3) (T := TX3) (N := 7) hx hb hts (by decide +kernel) tyX3 tyX3_ok nmX3 hown hK hP hD hS 0 rfl rfl 2 (by decide) (hts (.fieldLink RX3 16 "PickCell$Kind" "depth" "I") (by decide +kernel)) (fun _ h9 => h9) rfl hin rfl (by decide +kernel) rfl rfl (Nat.le_of_ble_eq_true rfl) dX3_init_16 (fun H locs hP hD hS => ?_)
  have hP : va_P D vwCl [(h0, .inr (5, [.int p0, .int p1, .int p2, .int 0, .int 0, .int 0, .int 0]))] H := hP
  have hD : va_D A [(h0, .inr (5, [.int p0, .int p1, .int p2, .int 0, .int 0, .int 0, .int 0]))] := hD
  refine lv_aload_n hx hb dX3_init_19 rfl (lv_at hl 0 rfl) ?_
  refine lv_iload hx hb dX3_init_20 (lv_at hl 4 rfl) ?_
  refine va_putF (D := D) (ci := 5) (v := .int p3) (ty := .int) (C := RX3) (T := TX3) (N := 7) hx hb hts (by decide +kernel) tyX3 tyX3_ok nmX3 hown hK hP hD hS 0 rfl rfl 3 (by decide) (hts (.fieldLink RX3 19 "PickCell$Kind" "height" "I") (by decide +kernel)) (fun _ h9 => h9) rfl hin rfl (by decide +kernel) rfl rfl (Nat.le_of_ble_eq_true rfl) dX3_init_22 (fun H locs hP hD hS => ?_)
  have hP : va_P D vwCl [(h0, .inr (5, [.int p0, .int p1, .int p2, .int p3, .int 0, .int 0, .int 0]))] H := hP
  have hD : va_D A [(h0, .inr (5, [.int p0, .int p1, .int p2, .int p3, .int 0, .int 0, .int 0]))] := hD
  refine lv_aload_n hx hb dX3_init_25 rfl (lv_at hl 0 rfl) ?_
  refine lv_iload hx hb dX3_init_26 (lv_at hl 5 rfl) ?_
  refine va_putF (D := D) (ci := 5) (v := .int p4) (ty := .int) (C := RX3) (T := TX3) (N := 7) hx hb hts (by decide +kernel) tyX3 tyX3_ok nmX3 hown hK hP hD hS 0 rfl rfl 4 (by decide) (hts (.fieldLink RX3 22 "PickCell$Kind" "weight" "I") (by decide +kernel)) (fun _ h9 => h9) rfl hin rfl (by decide +kernel) rfl rfl (Nat.le_of_ble_eq_true rfl) dX3_init_28 (fun H locs hP hD hS => ?_)
  have hP : va_P D vwCl [(h0, .inr (5, [.int p0, .int p1, .int p2, .int p3, .int p4, .int 0, .int 0]))] H := hP
  have hD : va_D A [(h0, .inr (5, [.int p0, .int p1, .int p2, .int p3, .int p4, .int 0, .int 0]))] := hD
  refine lv_aload_n hx hb dX3_init_31 rfl (lv_at hl 0 rfl) ?_
  refine lv_iload hx hb dX3_init_32 (lv_at hl 6 rfl) ?_
  refine va_putF (D := D) (ci := 5) (v := .int p5) (ty := .int) (C := RX3) (T := TX3) (N := 7) hx hb hts (by decide +kernel) tyX3 tyX3_ok nmX3 hown hK hP hD hS 0 rfl rfl 5 (by decide) (hts (.fieldLink RX3 25 "PickCell$Kind" "skin" "I") (by decide +kernel)) (fun _ h9 => h9) rfl hin rfl (by decide +kernel) rfl rfl (Nat.le_of_ble_eq_true rfl) dX3_init_34 (fun H locs hP hD hS => ?_)
  have hP : va_P D vwCl [(h0, .inr (5, [.int p0, .int p1, .int p2, .int p3, .int p4, .int p5, .int 0]))] H := hP
  have hD : va_D A [(h0, .inr (5, [.int p0, .int p1, .int p2, .int p3, .int p4, .int p5, .int 0]))] := hD
  refine lv_aload_n hx hb dX3_init_37 rfl (lv_at hl 0 rfl) ?_
  refine lv_iload hx hb dX3_init_38 (lv_at hl 7 rfl) ?_
  refine va_putF (D := D) (ci := 5) (v := .int p6) (ty := .int) (C := RX3) (T := TX3) (N := 7) hx hb hts (by decide +kernel) tyX3 tyX3_ok nmX3 hown hK hP hD hS 0 rfl rfl 6 (by decide) (hts (.fieldLink RX3 28 "PickCell$Kind" "strength" "I") (by decide +kernel)) (fun _ h9 => h9) rfl hin rfl (by decide +kernel) rfl rfl (Nat.le_of_ble_eq_true rfl) dX3_init_40 (fun H locs hP hD hS => ?_)
  have hP : va_P D vwCl [(h0, .inr (5, [.int p0, .int p1, .int p2, .int p3, .int p4, .int p5, .int p6]))] H := hP
  have hD : va_D A [(h0, .inr (5, [.int p0, .int p1, .int p2, .int p3, .int p4, .int p5, .int p6]))] := hD
  exact end_v hx hb hr hlocks hP hD hK hS () trivial [0] [] rfl (by decide) rfl (Nat.le_of_ble_eq_true rfl) (Nat.le_of_ble_eq_true rfl) dX3_init_43
set_option maxHeartbeats 4000000 in
set_option maxRecDepth 100000 in
/-- PickCellModel.Kind(..) -/
theorem c_k7_init (l : Launch) (D : va_G) (e0 sz : Nat) (h0 : Nat) (p0 p1 p2 p3 p4 p5 : Int32) : Kv (S := Unit) l yX7_init wsX7_init ({ frames := 1, cells := 0, slots := 0, locals := 12 } : Room) [.ref h0, .int p0, .int p1, .int p2, .int p3, .int p4, .int p5] D [(h0, .inr (9, [.int 0, .int 0, .int 0, .int 0, .int 0, .int 0]))] [] e0 sz (fun _ => True) (fun _ => [(h0, .inr (9, [.int p0, .int p1, .int p2, .int p3, .int p4, .int p5]))]) (fun _ => []) 0 0 := by
  refine Met.ofW (cc := cX7_init) (maxL := 7) (ret := none) (by decide) rfl ?_
  intro p e s m args below meth c s₁ B hml hv
  obtain ⟨rfl, hsz, hP, hK, hD0, hE⟩ := hv
  have hx := B.exec
  have hb := B.bytes
  have hr := B.returns
  have hts := atoms_spec (ws := wsX7_init) B.pre
  have hown : s.vm.findClass RX7 = some m.cls := findClass_of_methodNamed B.named
  have hlocks := B.notSynchronized
  have hin : meth.name = "<init>" := (name_of_methodNamed B.named B.method).1
  subst hsz
  have hD := hD0.self (sz := s.heap.size)
  generalize hAe : va_A [(h0, .inr (9, [.int 0, .int 0, .int 0, .int 0, .int 0, .int 0]))] s.heap.size = A at hD hE ⊢
  have hA : ∀ q : Nat, s.heap.size ≤ q → A q := fun q h => by rw [← hAe]; exact Or.inr h
  have hS : va_S A s.heap s.heap [] := va_S.rf
  have hP : va_P D vwCl [(h0, .inr (9, [.int 0, .int 0, .int 0, .int 0, .int 0, .int 0]))] s.heap := hP
  have hl := lv_entry ([.ref h0, .int p0, .int p1, .int p2, .int p3, .int p4, .int p5]) (n := 7) (Nat.le_of_ble_eq_true rfl)
  rw [lg_entry_eq]
  generalize (lg_sl ([.ref h0, .int p0, .int p1, .int p2, .int p3, .int p4, .int p5]) ++ List.replicate (7 - (lg_sl ([.ref h0, .int p0, .int p1, .int p2, .int p3, .int p4, .int p5])).length) Slot.unset).toArray = ls at hl ⊢
  have hl : lv_has ls 7 [(0, .ref h0), (1, .int p0), (2, .int p1), (3, .int p2), (4, .int p3), (5, .int p4), (6, .int p5)] := hl
  refine lv_aload_n hx hb dX7_init_0 rfl (lv_at hl 0 rfl) ?_
  refine W.objInit hx hb hown (hts (.methodLink RX7 1 objectInit) (by decide +kernel)) (hts (.instanceMethod objectInit) (by decide +kernel)) (hts (.code objectInit ⟨#[0xb1]⟩ 1 none) (by decide +kernel)) rfl (by rw [hml]; exact hl.1) rfl dX7_init_1 (Nat.le_of_ble_eq_true rfl) (Nat.le_of_ble_eq_true rfl) ?_
  refine W.eq (g2 := F0 m 4 ls []) rfl ?_
  refine lv_aload_n hx hb dX7_init_4 rfl (lv_at hl 0 rfl) ?_
  refine lv_iload_n hx hb dX7_init_5 rfl (lv_at hl 1 rfl) ?_
  refine va_putF (D := D) (ci := 9) (v := .int p0) (ty := .int) (C := RX7) (T := TX7) (N := 6) hx hb hts (by decide +kernel) tyX7 tyX7_ok nmX7 hown hK hP hD hS 0 rfl rfl 0 (by decide) (hts (.fieldLink RX7 7 "PickCellModel$Kind" "width" "I") (by decide +kernel)) (fun _ h9 => h9) rfl hin rfl (by decide +kernel) rfl rfl (Nat.le_of_ble_eq_true rfl) dX7_init_6 (fun H locs hP hD hS => ?_)
  have hP : va_P D vwCl [(h0, .inr (9, [.int p0, .int 0, .int 0, .int 0, .int 0, .int 0]))] H := hP
  have hD : va_D A [(h0, .inr (9, [.int p0, .int 0, .int 0, .int 0, .int 0, .int 0]))] := hD
  refine lv_aload_n hx hb dX7_init_9 rfl (lv_at hl 0 rfl) ?_
  refine lv_iload_n hx hb dX7_init_10 rfl (lv_at hl 2 rfl) ?_
  refine va_putF (D := D) (ci := 9) (v := .int p1) (ty := .int) (C := RX7) (T := TX7) (N := 6) hx hb hts (by decide +kernel) tyX7 tyX7_ok nmX7 hown hK hP hD hS 0 rfl rfl 1 (by decide) (hts (.fieldLink RX7 13 "PickCellModel$Kind" "depth" "I") (by decide +kernel)) (fun _ h9 => h9) rfl hin rfl (by decide +kernel) rfl rfl (Nat.le_of_ble_eq_true rfl) dX7_init_11 (fun H locs hP hD hS => ?_)
  have hP : va_P D vwCl [(h0, .inr (9, [.int p0, .int p1, .int 0, .int 0, .int 0, .int 0]))] H := hP
  have hD : va_D A [(h0, .inr (9, [.int p0, .int p1, .int 0, .int 0, .int 0, .int 0]))] := hD
  refine lv_aload_n hx hb dX7_init_14 rfl (lv_at hl 0 rfl) ?_
  refine lv_iload_n hx hb dX7_init_15 rfl (lv_at hl 3 rfl) ?_
  refine va_putF (D := D) (ci := 9) (v := .int p2) (ty := .int) (C := RX7) (T := TX7) (N := 6) hx hb hts (by decide +kernel) tyX7 tyX7_ok nmX7 hown hK hP hD hS 0 rfl rfl 2 (by decide) (hts (.fieldLink RX7 16 "PickCellModel$Kind" "height" "I") (by decide +kernel)) (fun _ h9 => h9) rfl hin rfl (by decide +kernel) rfl rfl (Nat.le_of_ble_eq_true rfl) dX7_init_16 (fun H locs hP hD hS => ?_)
  have hP : va_P D vwCl [(h0, .inr (9, [.int p0, .int p1, .int p2, .int 0, .int 0, .int 0]))] H := hP
  have hD : va_D A [(h0, .inr (9, [.int p0, .int p1, .int p2, .int 0, .int 0, .int 0]))] := hD
  refine lv_aload_n hx hb dX7_init_19 rfl (lv_at hl 0 rfl) ?_
  refine lv_iload hx hb dX7_init_20 (lv_at hl 4 rfl) ?_
  refine va_putF (D := D) (ci := 9) (v := .int p3) (ty := .int) (C := RX7) (T := TX7) (N := 6) hx hb hts (by decide +kernel) tyX7 tyX7_ok nmX7 hown hK hP hD hS 0 rfl rfl 3 (by decide) (hts (.fieldLink RX7 19 "PickCellModel$Kind" "weight" "I") (by decide +kernel)) (fun _ h9 => h9) rfl hin rfl (by decide +kernel) rfl rfl (Nat.le_of_ble_eq_true rfl) dX7_init_22 (fun H locs hP hD hS => ?_)
  have hP : va_P D vwCl [(h0, .inr (9, [.int p0, .int p1, .int p2, .int p3, .int 0, .int 0]))] H := hP
  have hD : va_D A [(h0, .inr (9, [.int p0, .int p1, .int p2, .int p3, .int 0, .int 0]))] := hD
  refine lv_aload_n hx hb dX7_init_25 rfl (lv_at hl 0 rfl) ?_
  refine lv_iload hx hb dX7_init_26 (lv_at hl 5 rfl) ?_
  refine va_putF (D := D) (ci := 9) (v := .int p4) (ty := .int) (C := RX7) (T := TX7) (N := 6) hx hb hts (by decide +kernel) tyX7 tyX7_ok nmX7 hown hK hP hD hS 0 rfl rfl 4 (by decide) (hts (.fieldLink RX7 22 "PickCellModel$Kind" "skin" "I") (by decide +kernel)) (fun _ h9 => h9) rfl hin rfl (by decide +kernel) rfl rfl (Nat.le_of_ble_eq_true rfl) dX7_init_28 (fun H locs hP hD hS => ?_)
  have hP : va_P D vwCl [(h0, .inr (9, [.int p0, .int p1, .int p2, .int p3, .int p4, .int 0]))] H := hP
  have hD : va_D A [(h0, .inr (9, [.int p0, .int p1, .int p2, .int p3, .int p4, .int 0]))] := hD
  refine lv_aload_n hx hb dX7_init_31 rfl (lv_at hl 0 rfl) ?_
  refine lv_iload hx hb dX7_init_32 (lv_at hl 6 rfl) ?_
  refine va_putF (D := D) (ci := 9) (v := .int p5) (ty := .int) (C := RX7) (T := TX7) (N := 6) hx hb hts (by decide +kernel) tyX7 tyX7_ok nmX7 hown hK hP hD hS 0 rfl rfl 5 (by decide) (hts (.fieldLink RX7 25 "PickCellModel$Kind" "strength" "I") (by decide +kernel)) (fun _ h9 => h9) rfl hin rfl (by decide +kernel) rfl rfl (Nat.le_of_ble_eq_true rfl) dX7_init_34 (fun H locs hP hD hS => ?_)
  have hP : va_P D vwCl [(h0, .inr (9, [.int p0, .int p1, .int p2, .int p3, .int p4, .int p5]))] H := hP
  have hD : va_D A [(h0, .inr (9, [.int p0, .int p1, .int p2, .int p3, .int p4, .int p5]))] := hD
  exact end_v hx hb hr hlocks hP hD hK hS () trivial [0] [] rfl (by decide) rfl (Nat.le_of_ble_eq_true rfl) (Nat.le_of_ble_eq_true rfl) dX7_init_37
set_option maxHeartbeats 4000000 in
set_option maxRecDepth 100000 in
/-- grow(1) of an empty list: ten places -/
theorem c_grow1 (l : Launch) (D : va_G) (e0 sz : Nat) (h0 : Nat) : Kq (S := Nat × ClassId) l yJx4a65c_grow_92f84 wsJx4a65c_grow_92f84 ({ frames := 1, cells := 1, slots := 10, locals := 14 } : Room) [.ref h0, .int 1] D [(h0, .inr (1, [.int 1, .ref e0, .int 0]))] [] e0 sz (fun r u => r = some u.1) (fun u => [(h0, .inr (1, [.int 1, .ref u.1, .int 0])), (u.1, .inl (u.2, 10, .inr (.inr (.inr (.inr (fun _ => none))))))]) (fun u => [(u.2, .object "java/lang/Object")]) 1 10 := by
  refine Met.ofW (cc := cJx4a65c_grow_92f84) (maxL := 4) (ret := (some (.array (.object "java/lang/Object")))) (by decide) rfl ?_
  intro p e s m args below meth c s₁ B hml hv
  obtain ⟨rfl, hsz, hP, hK, hD0, hE⟩ := hv
  have hx := B.exec
  have hb := B.bytes
  have hr := B.returns
  have hts := atoms_spec (ws := wsJx4a65c_grow_92f84) B.pre
  have hown : s.vm.findClass RJx4a65c = some m.cls := findClass_of_methodNamed B.named
  have hlocks := B.notSynchronized
  subst hsz
  have hD := hD0.self (sz := s.heap.size)
  generalize hAe : va_A [(h0, .inr (1, [.int 1, .ref e0, .int 0]))] s.heap.size = A at hD hE ⊢
  have hA : ∀ q : Nat, s.heap.size ≤ q → A q := fun q h => by rw [← hAe]; exact Or.inr h
  have hS : va_S A s.heap s.heap [] := va_S.rf
  have hP : va_P D vwCl [(h0, .inr (1, [.int 1, .ref e0, .int 0]))] s.heap := hP
  have hl := lv_entry ([.ref h0, .int 1]) (n := 4) (Nat.le_of_ble_eq_true rfl)
  rw [lg_entry_eq]
  generalize (lg_sl ([.ref h0, .int 1]) ++ List.replicate (4 - (lg_sl ([.ref h0, .int 1])).length) Slot.unset).toArray = ls at hl ⊢
  have hl : lv_has ls 4 [(0, .ref h0), (1, .int 1)] := hl
  refine lv_aload_n hx hb dJx4a65c_grow_92f84_0 rfl (lv_at hl 0 rfl) ?_
  refine va_get (D := D) (ci := 1) (v := .ref e0) (C := RJx4a65c) (T := TJx4a65c) (N := 3) hx hb hts (by decide +kernel) hown hK hP 0 rfl rfl 1 (by decide) (hts (.fieldLink RJx4a65c 9 "java/util/ArrayList" "elementData" "[Ljava/lang/Object;") (by decide +kernel)) (fun _ h9 => h9) rfl dJx4a65c_grow_92f84_1 ?_
  refine va_tlen (v := 0) hx hb hE.2.1 hS (by decide) dJx4a65c_grow_92f84_4 ?_
  refine lv_istore_n (lv' := [(2, .int 0), (0, .ref h0), (1, .int 1)]) hx hb dJx4a65c_grow_92f84_5 rfl hl (by decide) rfl (fun ls hl => ?_)
  refine lv_iload_n hx hb dJx4a65c_grow_92f84_6 rfl (lv_at hl 0 rfl) ?_
  refine lv_if_gt (tgt := 20) hx hb dJx4a65c_grow_92f84_7 (by decide) (fun h9 => absurd h9 (by decide)) (fun _ => ?_)
  refine lv_aload_n hx hb dJx4a65c_grow_92f84_10 rfl (lv_at hl 1 rfl) ?_
  refine va_get (D := D) (ci := 1) (v := .ref e0) (C := RJx4a65c) (T := TJx4a65c) (N := 3) hx hb hts (by decide +kernel) hown hK hP 0 rfl rfl 1 (by decide) (hts (.fieldLink RJx4a65c 9 "java/util/ArrayList" "elementData" "[Ljava/lang/Object;") (by decide +kernel)) (fun _ h9 => h9) rfl dJx4a65c_grow_92f84_11 ?_
  refine va_gets hx hb hE.1 hS hown (hts (.fieldLink RJx4a65c 39 "java/util/ArrayList" "DEFAULTCAPACITY_EMPTY_ELEMENTDATA" "[Ljava/lang/Object;") (by decide +kernel)) (fun _ h9 => h9) dJx4a65c_grow_92f84_14 ?_
  refine lv_acmp_eq (rx := some e0) (ry := some e0) (tgt := 45) hx hb dJx4a65c_grow_92f84_17 (by decide) (fun _ => ?_) (fun h9 => absurd rfl h9)
  refine lv_aload_n hx hb dJx4a65c_grow_92f84_45 rfl (lv_at hl 1 rfl) ?_
  refine lv_bipush (v := 10) hx hb dJx4a65c_grow_92f84_46 (by decide) ?_
  refine lv_iload_n hx hb dJx4a65c_grow_92f84_48 rfl (lv_at hl 2 rfl) ?_
  refine va_mmax hx hb (hml.trans hl.1.symm) hown (hts (.methodLink RJx4a65c 79 Lib.Math.max.name) (by decide +kernel)) (hts (.static Lib.Math.max.name) (by decide +kernel)) (hts (.initialized "java/lang/Math") (by decide +kernel)) (hts (.code Lib.Math.max.name Lib.Math.max.code 2 (some .int)) (by decide +kernel)) (Nat.le_of_ble_eq_true rfl) (Nat.le_of_ble_eq_true rfl) (Nat.le_of_ble_eq_true rfl) (Nat.le_of_ble_eq_true rfl) dJx4a65c_grow_92f84_49 ?_
  refine lv_topi (fun x_1 ex_1 => ?_)
  obtain rfl : x_1 = 10 := ex_1.trans (by decide)
  refine va_newq (C := "java/lang/Object") (N' := 10) hx hb hown (hts (.classLink RJx4a65c 7 "java/lang/Object") (by decide +kernel)) hE.2.2.2.2.1 hK hP hD hS hA (by decide) (by decide) (by decide) (Nat.le_of_ble_eq_true rfl) (Nat.le_of_ble_eq_true rfl) dJx4a65c_grow_92f84_52 (fun q_2 cq_2 H hK hP hD hS => ?_)
  have hP : va_P D vwCl [(h0, .inr (1, [.int 1, .ref e0, .int 0])), (q_2, .inl (cq_2, 10, .inr (.inr (.inr (.inr (fun _ => none))))))] H := hP
  have hD : va_D A [(h0, .inr (1, [.int 1, .ref e0, .int 0])), (q_2, .inl (cq_2, 10, .inr (.inr (.inr (.inr (fun _ => none))))))] := hD
  have hK : va_K D vwCl [(cq_2, .object "java/lang/Object")] s := hK
  refine lv_dup_x1 hx hb dJx4a65c_grow_92f84_55 rfl rfl ?_
  refine va_put (D := D) (ci := 1) (v := .ref q_2) (ty := .array (.object "java/lang/Object")) (C := RJx4a65c) (T := TJx4a65c) (N := 3) hx hb hts (by decide +kernel) tyJx4a65c tyJx4a65c_ok nmJx4a65c hown hK hP hD hS 0 rfl rfl 1 (by decide) (hts (.fieldLink RJx4a65c 9 "java/util/ArrayList" "elementData" "[Ljava/lang/Object;") (by decide +kernel)) (fun _ h9 => h9) rfl (by decide +kernel) rfl rfl (Nat.le_of_ble_eq_true rfl) dJx4a65c_grow_92f84_56 (fun H locs hP hD hS => ?_)
  have hP : va_P D vwCl [(h0, .inr (1, [.int 1, .ref q_2, .int 0])), (q_2, .inl (cq_2, 10, .inr (.inr (.inr (.inr (fun _ => none))))))] H := hP
  have hD : va_D A [(h0, .inr (1, [.int 1, .ref q_2, .int 0])), (q_2, .inl (cq_2, 10, .inr (.inr (.inr (.inr (fun _ => none))))))] := hD
  exact end_q (v := some q_2) hx hb hr (Or.inr ⟨_, rfl⟩) hlocks hP hD hK hS (q_2, cq_2) rfl [0, 1] [0] rfl (by decide) rfl (Nat.le_of_ble_eq_true rfl) (Nat.le_of_ble_eq_true rfl) dJx4a65c_grow_92f84_59
set_option maxHeartbeats 4000000 in
set_option maxRecDepth 100000 in
/-- grow() -/
theorem c_grow0 (l : Launch) (D : va_G) (e0 sz : Nat) (h0 : Nat) : Kq (S := Nat × ClassId) l yJx4a65c_grow_d5877 wsJx4a65c_grow_d5877 ({ frames := 2, cells := 1, slots := 10, locals := 37 } : Room) [.ref h0] D [(h0, .inr (1, [.int 1, .ref e0, .int 0]))] [] e0 sz (fun r u => r = some u.1) (fun u => [(h0, .inr (1, [.int 1, .ref u.1, .int 0])), (u.1, .inl (u.2, 10, .inr (.inr (.inr (.inr (fun _ => none))))))]) (fun u => [(u.2, .object "java/lang/Object")]) 1 10 := by
  refine Met.ofW (cc := cJx4a65c_grow_d5877) (maxL := 1) (ret := (some (.array (.object "java/lang/Object")))) (by decide) rfl ?_
  intro p e s m args below meth c s₁ B hml hv
  obtain ⟨rfl, hsz, hP, hK, hD0, hE⟩ := hv
  have hx := B.exec
  have hb := B.bytes
  have hr := B.returns
  have hts := atoms_spec (ws := wsJx4a65c_grow_d5877) B.pre
  have hown : s.vm.findClass RJx4a65c = some m.cls := findClass_of_methodNamed B.named
  have hlocks := B.notSynchronized
  subst hsz
  have hD := hD0.self (sz := s.heap.size)
  generalize hAe : va_A [(h0, .inr (1, [.int 1, .ref e0, .int 0]))] s.heap.size = A at hD hE ⊢
  have hA : ∀ q : Nat, s.heap.size ≤ q → A q := fun q h => by rw [← hAe]; exact Or.inr h
  have hS : va_S A s.heap s.heap [] := va_S.rf
  have hP : va_P D vwCl [(h0, .inr (1, [.int 1, .ref e0, .int 0]))] s.heap := hP
  have hl := lv_entry ([.ref h0]) (n := 1) (Nat.le_of_ble_eq_true rfl)
  rw [lg_entry_eq]
  generalize (lg_sl ([.ref h0]) ++ List.replicate (1 - (lg_sl ([.ref h0])).length) Slot.unset).toArray = ls at hl ⊢
  have hl : lv_has ls 1 [(0, .ref h0)] := hl
  refine lv_aload_n hx hb dJx4a65c_grow_d5877_0 rfl (lv_at hl 0 rfl) ?_
  refine lv_aload_n hx hb dJx4a65c_grow_d5877_1 rfl (lv_at hl 0 rfl) ?_
  refine va_get (D := D) (ci := 1) (v := .int 0) (C := RJx4a65c) (T := TJx4a65c) (N := 3) hx hb hts (by decide +kernel) hown hK hP 0 rfl rfl 2 (by decide) (hts (.fieldLink RJx4a65c 48 "java/util/ArrayList" "size" "I") (by decide +kernel)) (fun _ h9 => h9) rfl dJx4a65c_grow_d5877_2 ?_
  refine lv_iconst (v := 1) hx hb dJx4a65c_grow_d5877_5 (by decide) ?_
  refine lv_iadd hx hb dJx4a65c_grow_d5877_6 ?_
  refine lv_topi (fun x_1 ex_1 => ?_)
  obtain rfl : x_1 = 1 := ex_1.trans (by decide)
  refine kV_q (As := [.int 1]) (rest := []) (wr := []) ⟨hx, hb, hml, hown, hts⟩ (c_grow1 l D e0 _ h0) (cwV 1 hts gJx4a65c_grow_d5877_Jx4a65c_grow_92f84 rfl rfl rfl (by decide +kernel) ⟨Nat.le_of_ble_eq_true rfl, Nat.le_of_ble_eq_true rfl⟩) hP hD hK hS hA hE rfl [0] [] [] rfl rfl (by decide) (by decide) (by decide) rfl 1 0 rfl rfl rfl rfl hl.1 (Nat.le_of_ble_eq_true rfl) dJx4a65c_grow_d5877_7 ⟨Nat.le_of_ble_eq_true rfl, Nat.le_of_ble_eq_true rfl⟩ (fun r_2 u9 H locs hw hP hD hK hS => ?_)
  obtain ⟨gq, cgq⟩ := u9
  have hw : r_2 = some gq := hw
  subst hw
  refine W.eq (g2 := F0 m 10 ls [.ref gq]) rfl ?_
  have hP : va_P D vwCl [(h0, .inr (1, [.int 1, .ref gq, .int 0])), (gq, .inl (cgq, 10, .inr (.inr (.inr (.inr (fun _ => none))))))] H := hP
  have hD : va_D A [(h0, .inr (1, [.int 1, .ref gq, .int 0])), (gq, .inl (cgq, 10, .inr (.inr (.inr (.inr (fun _ => none))))))] := hD
  have hK : va_K D vwCl [(cgq, .object "java/lang/Object")] s := hK
  exact end_q (v := some gq) hx hb hr (Or.inr ⟨_, rfl⟩) hlocks hP hD hK hS (gq, cgq) rfl [0, 1] [0] rfl (by decide) rfl (Nat.le_of_ble_eq_true rfl) (Nat.le_of_ble_eq_true rfl) dJx4a65c_grow_d5877_10
set_option maxHeartbeats 4000000 in
set_option maxRecDepth 100000 in
/-- add(e, [], 0) -/
theorem c_addp_X3 (l : Launch) (D : va_G) (e0 sz : Nat) (h0 k0 : Nat) (p0 p1 p2 p3 p4 p5 p6 : Int32) : Kv (S := Nat) l yJx4a65c_add_72be8 wsJx4a65c_add_72be8 ({ frames := 3, cells := 1, slots := 10, locals := 57 } : Room) [.ref h0, .ref k0, .ref e0, .int 0] D [(h0, .inr (1, [.int 1, .ref e0, .int 0])), (k0, .inr (5, [.int p0, .int p1, .int p2, .int p3, .int p4, .int p5, .int p6]))] [] e0 sz (fun (_ : Nat) => True) (fun u => [(h0, .inr (1, [.int 1, .ref u, .int 1]))]) (fun _ => []) 1 10 := by
  refine Met.ofW (cc := cJx4a65c_add_72be8) (maxL := 4) (ret := none) (by decide) rfl ?_
  intro p e s m args below meth c s₁ B hml hv
  obtain ⟨rfl, hsz, hP, hK, hD0, hE⟩ := hv
  have hx := B.exec
  have hb := B.bytes
  have hr := B.returns
  have hts := atoms_spec (ws := wsJx4a65c_add_72be8) B.pre
  have hown : s.vm.findClass RJx4a65c = some m.cls := findClass_of_methodNamed B.named
  have hlocks := B.notSynchronized
  subst hsz
  have hD := hD0.self (sz := s.heap.size)
  generalize hAe : va_A [(h0, .inr (1, [.int 1, .ref e0, .int 0])), (k0, .inr (5, [.int p0, .int p1, .int p2, .int p3, .int p4, .int p5, .int p6]))] s.heap.size = A at hD hE ⊢
  have hA : ∀ q : Nat, s.heap.size ≤ q → A q := fun q h => by rw [← hAe]; exact Or.inr h
  have hS : va_S A s.heap s.heap [] := va_S.rf
  have hP : va_P D vwCl [(h0, .inr (1, [.int 1, .ref e0, .int 0])), (k0, .inr (5, [.int p0, .int p1, .int p2, .int p3, .int p4, .int p5, .int p6]))] s.heap := hP
  have hl := lv_entry ([.ref h0, .ref k0, .ref e0, .int 0]) (n := 4) (Nat.le_of_ble_eq_true rfl)
  rw [lg_entry_eq]
  generalize (lg_sl ([.ref h0, .ref k0, .ref e0, .int 0]) ++ List.replicate (4 - (lg_sl ([.ref h0, .ref k0, .ref e0, .int 0])).length) Slot.unset).toArray = ls at hl ⊢
  have hl : lv_has ls 4 [(0, .ref h0), (1, .ref k0), (2, .ref e0), (3, .int 0)] := hl
  refine lv_iload_n hx hb dJx4a65c_add_72be8_0 rfl (lv_at hl 3 rfl) ?_
  refine lv_aload_n hx hb dJx4a65c_add_72be8_1 rfl (lv_at hl 2 rfl) ?_
  refine va_tlen (v := 0) hx hb hE.2.1 hS (by decide) dJx4a65c_add_72be8_2 ?_
  refine lv_icmp_ne (tgt := 11) hx hb dJx4a65c_add_72be8_3 (by decide) (fun h9 => absurd (by decide) h9) (fun _ => ?_)
  refine lv_aload_n hx hb dJx4a65c_add_72be8_6 rfl (lv_at hl 0 rfl) ?_
  refine kV_q (As := []) (rest := []) (wr := [(k0, .inr (5, [.int p0, .int p1, .int p2, .int p3, .int p4, .int p5, .int p6]))]) ⟨hx, hb, hml, hown, hts⟩ (c_grow0 l D e0 _ h0) (cwV 0 hts gJx4a65c_add_72be8_Jx4a65c_grow_d5877 rfl rfl rfl (by decide +kernel) ⟨Nat.le_of_ble_eq_true rfl, Nat.le_of_ble_eq_true rfl⟩) hP hD hK hS hA hE rfl [0] [1] [] rfl rfl (by decide) (by decide) (by decide) rfl 1 0 rfl rfl rfl rfl hl.1 (Nat.le_of_ble_eq_true rfl) dJx4a65c_add_72be8_7 ⟨Nat.le_of_ble_eq_true rfl, Nat.le_of_ble_eq_true rfl⟩ (fun r_1 u9 H locs hw hP hD hK hS => ?_)
  obtain ⟨gq, cgq⟩ := u9
  have hw : r_1 = some gq := hw
  subst hw
  refine W.eq (g2 := F0 m 10 ls [.ref gq]) rfl ?_
  have hP : va_P D vwCl [(k0, .inr (5, [.int p0, .int p1, .int p2, .int p3, .int p4, .int p5, .int p6])), (h0, .inr (1, [.int 1, .ref gq, .int 0])), (gq, .inl (cgq, 10, .inr (.inr (.inr (.inr (fun _ => none))))))] H := hP
  have hD : va_D A [(k0, .inr (5, [.int p0, .int p1, .int p2, .int p3, .int p4, .int p5, .int p6])), (h0, .inr (1, [.int 1, .ref gq, .int 0])), (gq, .inl (cgq, 10, .inr (.inr (.inr (.inr (fun _ => none))))))] := hD
  have hK : va_K D vwCl [(cgq, .object "java/lang/Object")] s := hK
  refine lv_astore_n (lv' := [(2, .ref gq), (0, .ref h0), (1, .ref k0), (3, .int 0)]) hx hb dJx4a65c_add_72be8_10 rfl hl (by decide) rfl (fun ls hl => ?_)
  refine lv_aload_n hx hb dJx4a65c_add_72be8_11 rfl (lv_at hl 0 rfl) ?_
  refine lv_iload_n hx hb dJx4a65c_add_72be8_12 rfl (lv_at hl 3 rfl) ?_
  refine lv_aload_n hx hb dJx4a65c_add_72be8_13 rfl (lv_at hl 2 rfl) ?_
  refine va_astqO (r := (RX3, TX3, 7)) hx hb hK hP hD hS 2 0 0 5 rfl rfl (hE.2.2.2.2.2.1 _ (by decide +kernel)) rfl rfl (by unfold vp_in; decide) dJx4a65c_add_72be8_14 (fun H locs hP hD hS => ?_)
  have hP : va_P D vwCl [(k0, .inr (5, [.int p0, .int p1, .int p2, .int p3, .int p4, .int p5, .int p6])), (h0, .inr (1, [.int 1, .ref gq, .int 0])), (gq, .inl (cgq, 10, .inr (.inr (.inr (.inr (va_up (fun _ => none) (0 : Int32).toNatClampNeg (some k0)))))))] H := hP
  have hD : va_D A [(k0, .inr (5, [.int p0, .int p1, .int p2, .int p3, .int p4, .int p5, .int p6])), (h0, .inr (1, [.int 1, .ref gq, .int 0])), (gq, .inl (cgq, 10, .inr (.inr (.inr (.inr (va_up (fun _ => none) (0 : Int32).toNatClampNeg (some k0)))))))] := hD
  refine lv_aload_n hx hb dJx4a65c_add_72be8_15 rfl (lv_at hl 1 rfl) ?_
  refine lv_iload_n hx hb dJx4a65c_add_72be8_16 rfl (lv_at hl 3 rfl) ?_
  refine lv_iconst (v := 1) hx hb dJx4a65c_add_72be8_17 (by decide) ?_
  refine lv_iadd hx hb dJx4a65c_add_72be8_18 ?_
  refine lv_topi (fun x_2 ex_2 => ?_)
  obtain rfl : x_2 = 1 := ex_2.trans (by decide)
  refine va_put (D := D) (ci := 1) (v := .int 1) (ty := .int) (C := RJx4a65c) (T := TJx4a65c) (N := 3) hx hb hts (by decide +kernel) tyJx4a65c tyJx4a65c_ok nmJx4a65c hown hK hP hD hS 1 rfl rfl 2 (by decide) (hts (.fieldLink RJx4a65c 48 "java/util/ArrayList" "size" "I") (by decide +kernel)) (fun _ h9 => h9) rfl (by decide +kernel) rfl rfl (Nat.le_of_ble_eq_true rfl) dJx4a65c_add_72be8_19 (fun H locs hP hD hS => ?_)
  have hP : va_P D vwCl [(k0, .inr (5, [.int p0, .int p1, .int p2, .int p3, .int p4, .int p5, .int p6])), (h0, .inr (1, [.int 1, .ref gq, .int 1])), (gq, .inl (cgq, 10, .inr (.inr (.inr (.inr (va_up (fun _ => none) (0 : Int32).toNatClampNeg (some k0)))))))] H := hP
  have hD : va_D A [(k0, .inr (5, [.int p0, .int p1, .int p2, .int p3, .int p4, .int p5, .int p6])), (h0, .inr (1, [.int 1, .ref gq, .int 1])), (gq, .inl (cgq, 10, .inr (.inr (.inr (.inr (va_up (fun _ => none) (0 : Int32).toNatClampNeg (some k0)))))))] := hD
  exact end_v hx hb hr hlocks hP hD hK hS gq trivial [1] [] rfl (by decide) rfl (Nat.le_of_ble_eq_true rfl) (Nat.le_of_ble_eq_true rfl) dJx4a65c_add_72be8_22
set_option maxHeartbeats 4000000 in
set_option maxRecDepth 100000 in
/-- add(e) of an empty list: one element -/
theorem c_add_X3 (l : Launch) (D : va_G) (e0 sz : Nat) (h0 k0 : Nat) (p0 p1 p2 p3 p4 p5 p6 : Int32) : Ki (S := Nat) l yJx4a65c_add_9ea2d wsJx4a65c_add_9ea2d ({ frames := 4, cells := 1, slots := 10, locals := 80 } : Room) [.ref h0, .ref k0] D [(h0, .inr (1, [.int 0, .ref e0, .int 0])), (k0, .inr (5, [.int p0, .int p1, .int p2, .int p3, .int p4, .int p5, .int p6]))] [] e0 sz (fun (r : Int32) (_ : Nat) => r = 1) (fun u => [(h0, .inr (1, [.int 1, .ref u, .int 1]))]) (fun _ => []) 1 10 := by
  refine Met.ofW (cc := cJx4a65c_add_9ea2d) (maxL := 2) (ret := (some .boolean)) (by decide) rfl ?_
  intro p e s m args below meth c s₁ B hml hv
  obtain ⟨rfl, hsz, hP, hK, hD0, hE⟩ := hv
  have hx := B.exec
  have hb := B.bytes
  have hr := B.returns
  have hts := atoms_spec (ws := wsJx4a65c_add_9ea2d) B.pre
  have hown : s.vm.findClass RJx4a65c = some m.cls := findClass_of_methodNamed B.named
  have hlocks := B.notSynchronized
  subst hsz
  have hD := hD0.self (sz := s.heap.size)
  generalize hAe : va_A [(h0, .inr (1, [.int 0, .ref e0, .int 0])), (k0, .inr (5, [.int p0, .int p1, .int p2, .int p3, .int p4, .int p5, .int p6]))] s.heap.size = A at hD hE ⊢
  have hA : ∀ q : Nat, s.heap.size ≤ q → A q := fun q h => by rw [← hAe]; exact Or.inr h
  have hS : va_S A s.heap s.heap [] := va_S.rf
  have hP : va_P D vwCl [(h0, .inr (1, [.int 0, .ref e0, .int 0])), (k0, .inr (5, [.int p0, .int p1, .int p2, .int p3, .int p4, .int p5, .int p6]))] s.heap := hP
  have hl := lv_entry ([.ref h0, .ref k0]) (n := 2) (Nat.le_of_ble_eq_true rfl)
  rw [lg_entry_eq]
  generalize (lg_sl ([.ref h0, .ref k0]) ++ List.replicate (2 - (lg_sl ([.ref h0, .ref k0])).length) Slot.unset).toArray = ls at hl ⊢
  have hl : lv_has ls 2 [(0, .ref h0), (1, .ref k0)] := hl
  refine lv_aload_n hx hb dJx4a65c_add_9ea2d_0 rfl (lv_at hl 0 rfl) ?_
  refine lv_dup hx hb dJx4a65c_add_9ea2d_1 rfl ?_
  refine va_get (D := D) (ci := 1) (v := .int 0) (C := RJx4a65c) (T := TJx4a65c) (N := 3) hx hb hts (by decide +kernel) hown hK hP 0 rfl rfl 0 (by decide) (hts (.fieldLink RJx4a65c 63 "java/util/ArrayList" "modCount" "I") (by decide +kernel)) (fun x9 h9 => u_same (hts (.sameField "java/util/ArrayList" "java/util/AbstractList" "modCount" "I") (by decide +kernel)) x9 h9) rfl dJx4a65c_add_9ea2d_2 ?_
  refine lv_iconst (v := 1) hx hb dJx4a65c_add_9ea2d_5 (by decide) ?_
  refine lv_iadd hx hb dJx4a65c_add_9ea2d_6 ?_
  refine lv_topi (fun x_1 ex_1 => ?_)
  obtain rfl : x_1 = 1 := ex_1.trans (by decide)
  refine va_put (D := D) (ci := 1) (v := .int 1) (ty := .int) (C := RJx4a65c) (T := TJx4a65c) (N := 3) hx hb hts (by decide +kernel) tyJx4a65c tyJx4a65c_ok nmJx4a65c hown hK hP hD hS 0 rfl rfl 0 (by decide) (hts (.fieldLink RJx4a65c 63 "java/util/ArrayList" "modCount" "I") (by decide +kernel)) (fun x9 h9 => u_same (hts (.sameField "java/util/ArrayList" "java/util/AbstractList" "modCount" "I") (by decide +kernel)) x9 h9) rfl (by decide +kernel) rfl rfl (Nat.le_of_ble_eq_true rfl) dJx4a65c_add_9ea2d_7 (fun H locs hP hD hS => ?_)
  have hP : va_P D vwCl [(h0, .inr (1, [.int 1, .ref e0, .int 0])), (k0, .inr (5, [.int p0, .int p1, .int p2, .int p3, .int p4, .int p5, .int p6]))] H := hP
  have hD : va_D A [(h0, .inr (1, [.int 1, .ref e0, .int 0])), (k0, .inr (5, [.int p0, .int p1, .int p2, .int p3, .int p4, .int p5, .int p6]))] := hD
  refine lv_aload_n hx hb dJx4a65c_add_9ea2d_10 rfl (lv_at hl 0 rfl) ?_
  refine lv_aload_n hx hb dJx4a65c_add_9ea2d_11 rfl (lv_at hl 1 rfl) ?_
  refine lv_aload_n hx hb dJx4a65c_add_9ea2d_12 rfl (lv_at hl 0 rfl) ?_
  refine va_get (D := D) (ci := 1) (v := .ref e0) (C := RJx4a65c) (T := TJx4a65c) (N := 3) hx hb hts (by decide +kernel) hown hK hP 0 rfl rfl 1 (by decide) (hts (.fieldLink RJx4a65c 9 "java/util/ArrayList" "elementData" "[Ljava/lang/Object;") (by decide +kernel)) (fun _ h9 => h9) rfl dJx4a65c_add_9ea2d_13 ?_
  refine lv_aload_n hx hb dJx4a65c_add_9ea2d_16 rfl (lv_at hl 0 rfl) ?_
  refine va_get (D := D) (ci := 1) (v := .int 0) (C := RJx4a65c) (T := TJx4a65c) (N := 3) hx hb hts (by decide +kernel) hown hK hP 0 rfl rfl 2 (by decide) (hts (.fieldLink RJx4a65c 48 "java/util/ArrayList" "size" "I") (by decide +kernel)) (fun _ h9 => h9) rfl dJx4a65c_add_9ea2d_17 ?_
  refine kV_v (As := [.ref k0, .ref e0, .int 0]) (rest := []) (wr := []) ⟨hx, hb, hml, hown, hts⟩ (c_addp_X3 l D e0 _ h0 k0 p0 p1 p2 p3 p4 p5 p6) (cwV 3 hts gJx4a65c_add_9ea2d_Jx4a65c_add_72be8 rfl rfl rfl (by decide +kernel) ⟨Nat.le_of_ble_eq_true rfl, Nat.le_of_ble_eq_true rfl⟩) hP hD hK hS hA hE rfl [0, 1] [] [] rfl rfl (by decide) (by decide) (by decide) rfl 1 0 rfl rfl rfl rfl hl.1 (Nat.le_of_ble_eq_true rfl) dJx4a65c_add_9ea2d_20 ⟨Nat.le_of_ble_eq_true rfl, Nat.le_of_ble_eq_true rfl⟩ (fun u9 H locs hw hP hD hK hS => ?_)
  have hP : va_P D vwCl [(h0, .inr (1, [.int 1, .ref u9, .int 1]))] H := hP
  have hD : va_D A [(h0, .inr (1, [.int 1, .ref u9, .int 1]))] := hD
  have hK : va_K D vwCl [] s := hK
  refine lv_iconst (v := 1) hx hb dJx4a65c_add_9ea2d_23 (by decide) ?_
  exact end_i (v := 1) hx hb hr rfl hlocks hP hD hK hS u9 rfl [0] [] rfl (by decide) rfl (Nat.le_of_ble_eq_true rfl) (Nat.le_of_ble_eq_true rfl) dJx4a65c_add_9ea2d_24
set_option maxHeartbeats 4000000 in
set_option maxRecDepth 100000 in
/-- add(e, [], 0) -/
theorem c_addp_X7 (l : Launch) (D : va_G) (e0 sz : Nat) (h0 k0 : Nat) (p0 p1 p2 p3 p4 p5 : Int32) : Kv (S := Nat) l yJx4a65c_add_72be8 wsJx4a65c_add_72be8 ({ frames := 3, cells := 1, slots := 10, locals := 57 } : Room) [.ref h0, .ref k0, .ref e0, .int 0] D [(h0, .inr (1, [.int 1, .ref e0, .int 0])), (k0, .inr (9, [.int p0, .int p1, .int p2, .int p3, .int p4, .int p5]))] [] e0 sz (fun (_ : Nat) => True) (fun u => [(h0, .inr (1, [.int 1, .ref u, .int 1]))]) (fun _ => []) 1 10 := by
  refine Met.ofW (cc := cJx4a65c_add_72be8) (maxL := 4) (ret := none) (by decide) rfl ?_
  intro p e s m args below meth c s₁ B hml hv
  obtain ⟨rfl, hsz, hP, hK, hD0, hE⟩ := hv
  have hx := B.exec
  have hb := B.bytes
  have hr := B.returns
  have hts := atoms_spec (ws := wsJx4a65c_add_72be8) B.pre
  have hown : s.vm.findClass RJx4a65c = some m.cls := findClass_of_methodNamed B.named
  have hlocks := B.notSynchronized
  subst hsz
  have hD := hD0.self (sz := s.heap.size)
  generalize hAe : va_A [(h0, .inr (1, [.int 1, .ref e0, .int 0])), (k0, .inr (9, [.int p0, .int p1, .int p2, .int p3, .int p4, .int p5]))] s.heap.size = A at hD hE ⊢
  have hA : ∀ q : Nat, s.heap.size ≤ q → A q := fun q h => by rw [← hAe]; exact Or.inr h
  have hS : va_S A s.heap s.heap [] := va_S.rf
  have hP : va_P D vwCl [(h0, .inr (1, [.int 1, .ref e0, .int 0])), (k0, .inr (9, [.int p0, .int p1, .int p2, .int p3, .int p4, .int p5]))] s.heap := hP
  have hl := lv_entry ([.ref h0, .ref k0, .ref e0, .int 0]) (n := 4) (Nat.le_of_ble_eq_true rfl)
  rw [lg_entry_eq]
  generalize (lg_sl ([.ref h0, .ref k0, .ref e0, .int 0]) ++ List.replicate (4 - (lg_sl ([.ref h0, .ref k0, .ref e0, .int 0])).length) Slot.unset).toArray = ls at hl ⊢
  have hl : lv_has ls 4 [(0, .ref h0), (1, .ref k0), (2, .ref e0), (3, .int 0)] := hl
  refine lv_iload_n hx hb dJx4a65c_add_72be8_0 rfl (lv_at hl 3 rfl) ?_
  refine lv_aload_n hx hb dJx4a65c_add_72be8_1 rfl (lv_at hl 2 rfl) ?_
  refine va_tlen (v := 0) hx hb hE.2.1 hS (by decide) dJx4a65c_add_72be8_2 ?_
  refine lv_icmp_ne (tgt := 11) hx hb dJx4a65c_add_72be8_3 (by decide) (fun h9 => absurd (by decide) h9) (fun _ => ?_)
  refine lv_aload_n hx hb dJx4a65c_add_72be8_6 rfl (lv_at hl 0 rfl) ?_
  refine kV_q (As := []) (rest := []) (wr := [(k0, .inr (9, [.int p0, .int p1, .int p2, .int p3, .int p4, .int p5]))]) ⟨hx, hb, hml, hown, hts⟩ (c_grow0 l D e0 _ h0) (cwV 0 hts gJx4a65c_add_72be8_Jx4a65c_grow_d5877 rfl rfl rfl (by decide +kernel) ⟨Nat.le_of_ble_eq_true rfl, Nat.le_of_ble_eq_true rfl⟩) hP hD hK hS hA hE rfl [0] [1] [] rfl rfl (by decide) (by decide) (by decide) rfl 1 0 rfl rfl rfl rfl hl.1 (Nat.le_of_ble_eq_true rfl) dJx4a65c_add_72be8_7 ⟨Nat.le_of_ble_eq_true rfl, Nat.le_of_ble_eq_true rfl⟩ (fun r_1 u9 H locs hw hP hD hK hS => ?_)
  obtain ⟨gq, cgq⟩ := u9
  have hw : r_1 = some gq := hw
  subst hw
  refine W.eq (g2 := F0 m 10 ls [.ref gq]) rfl ?_
  have hP : va_P D vwCl [(k0, .inr (9, [.int p0, .int p1, .int p2, .int p3, .int p4, .int p5])), (h0, .inr (1, [.int 1, .ref gq, .int 0])), (gq, .inl (cgq, 10, .inr (.inr (.inr (.inr (fun _ => none))))))] H := hP
  have hD : va_D A [(k0, .inr (9, [.int p0, .int p1, .int p2, .int p3, .int p4, .int p5])), (h0, .inr (1, [.int 1, .ref gq, .int 0])), (gq, .inl (cgq, 10, .inr (.inr (.inr (.inr (fun _ => none))))))] := hD
  have hK : va_K D vwCl [(cgq, .object "java/lang/Object")] s := hK
  refine lv_astore_n (lv' := [(2, .ref gq), (0, .ref h0), (1, .ref k0), (3, .int 0)]) hx hb dJx4a65c_add_72be8_10 rfl hl (by decide) rfl (fun ls hl => ?_)
  refine lv_aload_n hx hb dJx4a65c_add_72be8_11 rfl (lv_at hl 0 rfl) ?_
  refine lv_iload_n hx hb dJx4a65c_add_72be8_12 rfl (lv_at hl 3 rfl) ?_
  refine lv_aload_n hx hb dJx4a65c_add_72be8_13 rfl (lv_at hl 2 rfl) ?_
  refine va_astqO (r := (RX7, TX7, 6)) hx hb hK hP hD hS 2 0 0 9 rfl rfl (hE.2.2.2.2.2.1 _ (by decide +kernel)) rfl rfl (by unfold vp_in; decide) dJx4a65c_add_72be8_14 (fun H locs hP hD hS => ?_)
  have hP : va_P D vwCl [(k0, .inr (9, [.int p0, .int p1, .int p2, .int p3, .int p4, .int p5])), (h0, .inr (1, [.int 1, .ref gq, .int 0])), (gq, .inl (cgq, 10, .inr (.inr (.inr (.inr (va_up (fun _ => none) (0 : Int32).toNatClampNeg (some k0)))))))] H := hP
  have hD : va_D A [(k0, .inr (9, [.int p0, .int p1, .int p2, .int p3, .int p4, .int p5])), (h0, .inr (1, [.int 1, .ref gq, .int 0])), (gq, .inl (cgq, 10, .inr (.inr (.inr (.inr (va_up (fun _ => none) (0 : Int32).toNatClampNeg (some k0)))))))] := hD
  refine lv_aload_n hx hb dJx4a65c_add_72be8_15 rfl (lv_at hl 1 rfl) ?_
  refine lv_iload_n hx hb dJx4a65c_add_72be8_16 rfl (lv_at hl 3 rfl) ?_
  refine lv_iconst (v := 1) hx hb dJx4a65c_add_72be8_17 (by decide) ?_
  refine lv_iadd hx hb dJx4a65c_add_72be8_18 ?_
  refine lv_topi (fun x_2 ex_2 => ?_)
  obtain rfl : x_2 = 1 := ex_2.trans (by decide)
  refine va_put (D := D) (ci := 1) (v := .int 1) (ty := .int) (C := RJx4a65c) (T := TJx4a65c) (N := 3) hx hb hts (by decide +kernel) tyJx4a65c tyJx4a65c_ok nmJx4a65c hown hK hP hD hS 1 rfl rfl 2 (by decide) (hts (.fieldLink RJx4a65c 48 "java/util/ArrayList" "size" "I") (by decide +kernel)) (fun _ h9 => h9) rfl (by decide +kernel) rfl rfl (Nat.le_of_ble_eq_true rfl) dJx4a65c_add_72be8_19 (fun H locs hP hD hS => ?_)
  have hP : va_P D vwCl [(k0, .inr (9, [.int p0, .int p1, .int p2, .int p3, .int p4, .int p5])), (h0, .inr (1, [.int 1, .ref gq, .int 1])), (gq, .inl (cgq, 10, .inr (.inr (.inr (.inr (va_up (fun _ => none) (0 : Int32).toNatClampNeg (some k0)))))))] H := hP
  have hD : va_D A [(k0, .inr (9, [.int p0, .int p1, .int p2, .int p3, .int p4, .int p5])), (h0, .inr (1, [.int 1, .ref gq, .int 1])), (gq, .inl (cgq, 10, .inr (.inr (.inr (.inr (va_up (fun _ => none) (0 : Int32).toNatClampNeg (some k0)))))))] := hD
  exact end_v hx hb hr hlocks hP hD hK hS gq trivial [1] [] rfl (by decide) rfl (Nat.le_of_ble_eq_true rfl) (Nat.le_of_ble_eq_true rfl) dJx4a65c_add_72be8_22
set_option maxHeartbeats 4000000 in
set_option maxRecDepth 100000 in
/-- add(e) of an empty list: one element -/
theorem c_add_X7 (l : Launch) (D : va_G) (e0 sz : Nat) (h0 k0 : Nat) (p0 p1 p2 p3 p4 p5 : Int32) : Ki (S := Nat) l yJx4a65c_add_9ea2d wsJx4a65c_add_9ea2d ({ frames := 4, cells := 1, slots := 10, locals := 80 } : Room) [.ref h0, .ref k0] D [(h0, .inr (1, [.int 0, .ref e0, .int 0])), (k0, .inr (9, [.int p0, .int p1, .int p2, .int p3, .int p4, .int p5]))] [] e0 sz (fun (r : Int32) (_ : Nat) => r = 1) (fun u => [(h0, .inr (1, [.int 1, .ref u, .int 1]))]) (fun _ => []) 1 10 := by
  refine Met.ofW (cc := cJx4a65c_add_9ea2d) (maxL := 2) (ret := (some .boolean)) (by decide) rfl ?_
  intro p e s m args below meth c s₁ B hml hv
  obtain ⟨rfl, hsz, hP, hK, hD0, hE⟩ := hv
  have hx := B.exec
  have hb := B.bytes
  have hr := B.returns
  have hts := atoms_spec (ws := wsJx4a65c_add_9ea2d) B.pre
  have hown : s.vm.findClass RJx4a65c = some m.cls := findClass_of_methodNamed B.named
  have hlocks := B.notSynchronized
  subst hsz
  have hD := hD0.self (sz := s.heap.size)
  generalize hAe : va_A [(h0, .inr (1, [.int 0, .ref e0, .int 0])), (k0, .inr (9, [.int p0, .int p1, .int p2, .int p3, .int p4, .int p5]))] s.heap.size = A at hD hE ⊢
  have hA : ∀ q : Nat, s.heap.size ≤ q → A q := fun q h => by rw [← hAe]; exact Or.inr h
  have hS : va_S A s.heap s.heap [] := va_S.rf
  have hP : va_P D vwCl [(h0, .inr (1, [.int 0, .ref e0, .int 0])), (k0, .inr (9, [.int p0, .int p1, .int p2, .int p3, .int p4, .int p5]))] s.heap := hP
  have hl := lv_entry ([.ref h0, .ref k0]) (n := 2) (Nat.le_of_ble_eq_true rfl)
  rw [lg_entry_eq]
  generalize (lg_sl ([.ref h0, .ref k0]) ++ List.replicate (2 - (lg_sl ([.ref h0, .ref k0])).length) Slot.unset).toArray = ls at hl ⊢
  have hl : lv_has ls 2 [(0, .ref h0), (1, .ref k0)] := hl
  refine lv_aload_n hx hb dJx4a65c_add_9ea2d_0 rfl (lv_at hl 0 rfl) ?_
  refine lv_dup hx hb dJx4a65c_add_9ea2d_1 rfl ?_
  refine va_get (D := D) (ci := 1) (v := .int 0) (C := RJx4a65c) (T := TJx4a65c) (N := 3) hx hb hts (by decide +kernel) hown hK hP 0 rfl rfl 0 (by decide) (hts (.fieldLink RJx4a65c 63 "java/util/ArrayList" "modCount" "I") (by decide +kernel)) (fun x9 h9 => u_same (hts (.sameField "java/util/ArrayList" "java/util/AbstractList" "modCount" "I") (by decide +kernel)) x9 h9) rfl dJx4a65c_add_9ea2d_2 ?_
  refine lv_iconst (v := 1) hx hb dJx4a65c_add_9ea2d_5 (by decide) ?_
  refine lv_iadd hx hb dJx4a65c_add_9ea2d_6 ?_
  refine lv_topi (fun x_1 ex_1 => ?_)
  obtain rfl : x_1 = 1 := ex_1.trans (by decide)
  refine va_put (D := D) (ci := 1) (v := .int 1) (ty := .int) (C := RJx4a65c) (T := TJx4a65c) (N := 3) hx hb hts (by decide +kernel) tyJx4a65c tyJx4a65c_ok nmJx4a65c hown hK hP hD hS 0 rfl rfl 0 (by decide) (hts (.fieldLink RJx4a65c 63 "java/util/ArrayList" "modCount" "I") (by decide +kernel)) (fun x9 h9 => u_same (hts (.sameField "java/util/ArrayList" "java/util/AbstractList" "modCount" "I") (by decide +kernel)) x9 h9) rfl (by decide +kernel) rfl rfl (Nat.le_of_ble_eq_true rfl) dJx4a65c_add_9ea2d_7 (fun H locs hP hD hS => ?_)
  have hP : va_P D vwCl [(h0, .inr (1, [.int 1, .ref e0, .int 0])), (k0, .inr (9, [.int p0, .int p1, .int p2, .int p3, .int p4, .int p5]))] H := hP
  have hD : va_D A [(h0, .inr (1, [.int 1, .ref e0, .int 0])), (k0, .inr (9, [.int p0, .int p1, .int p2, .int p3, .int p4, .int p5]))] := hD
  refine lv_aload_n hx hb dJx4a65c_add_9ea2d_10 rfl (lv_at hl 0 rfl) ?_
  refine lv_aload_n hx hb dJx4a65c_add_9ea2d_11 rfl (lv_at hl 1 rfl) ?_
  refine lv_aload_n hx hb dJx4a65c_add_9ea2d_12 rfl (lv_at hl 0 rfl) ?_
  refine va_get (D := D) (ci := 1) (v := .ref e0) (C := RJx4a65c) (T := TJx4a65c) (N := 3) hx hb hts (by decide +kernel) hown hK hP 0 rfl rfl 1 (by decide) (hts (.fieldLink RJx4a65c 9 "java/util/ArrayList" "elementData" "[Ljava/lang/Object;") (by decide +kernel)) (fun _ h9 => h9) rfl dJx4a65c_add_9ea2d_13 ?_
  refine lv_aload_n hx hb dJx4a65c_add_9ea2d_16 rfl (lv_at hl 0 rfl) ?_
  refine va_get (D := D) (ci := 1) (v := .int 0) (C := RJx4a65c) (T := TJx4a65c) (N := 3) hx hb hts (by decide +kernel) hown hK hP 0 rfl rfl 2 (by decide) (hts (.fieldLink RJx4a65c 48 "java/util/ArrayList" "size" "I") (by decide +kernel)) (fun _ h9 => h9) rfl dJx4a65c_add_9ea2d_17 ?_
  refine kV_v (As := [.ref k0, .ref e0, .int 0]) (rest := []) (wr := []) ⟨hx, hb, hml, hown, hts⟩ (c_addp_X7 l D e0 _ h0 k0 p0 p1 p2 p3 p4 p5) (cwV 3 hts gJx4a65c_add_9ea2d_Jx4a65c_add_72be8 rfl rfl rfl (by decide +kernel) ⟨Nat.le_of_ble_eq_true rfl, Nat.le_of_ble_eq_true rfl⟩) hP hD hK hS hA hE rfl [0, 1] [] [] rfl rfl (by decide) (by decide) (by decide) rfl 1 0 rfl rfl rfl rfl hl.1 (Nat.le_of_ble_eq_true rfl) dJx4a65c_add_9ea2d_20 ⟨Nat.le_of_ble_eq_true rfl, Nat.le_of_ble_eq_true rfl⟩ (fun u9 H locs hw hP hD hK hS => ?_)
  have hP : va_P D vwCl [(h0, .inr (1, [.int 1, .ref u9, .int 1]))] H := hP
  have hD : va_D A [(h0, .inr (1, [.int 1, .ref u9, .int 1]))] := hD
  have hK : va_K D vwCl [] s := hK
  refine lv_iconst (v := 1) hx hb dJx4a65c_add_9ea2d_23 (by decide) ?_
  exact end_i (v := 1) hx hb hr rfl hlocks hP hD hK hS u9 rfl [0] [] rfl (by decide) rfl (Nat.le_of_ble_eq_true rfl) (Nat.le_of_ble_eq_true rfl) dJx4a65c_add_9ea2d_24
set_option maxHeartbeats 4000000 in
set_option maxRecDepth 100000 in
/-- Itr() -/
theorem c_itr_init (l : Launch) (D : va_G) (e0 sz : Nat) (it h0 : Nat) : Kv (S := Unit) l yJx35411_init_45d68 wsJx35411_init_45d68 ({ frames := 1, cells := 0, slots := 0, locals := 12 } : Room) [.ref it, .ref h0] D [(it, .inr (0, [.int 0, .int 0, .int 0, .null])), (h0, .inr (1, [.int 0, .ref e0, .int 0]))] [] e0 sz (fun _ => True) (fun _ => [(it, .inr (0, [.int 0, .int (-1), .int 0, .ref h0])), (h0, .inr (1, [.int 0, .ref e0, .int 0]))]) (fun _ => []) 0 0 := by
  refine Met.ofW (cc := cJx35411_init_45d68) (maxL := 2) (ret := none) (by decide) rfl ?_
  intro p e s m args below meth c s₁ B hml hv
  obtain ⟨rfl, hsz, hP, hK, hD0, hE⟩ := hv
  have hx := B.exec
  have hb := B.bytes
  have hr := B.returns
  have hts := atoms_spec (ws := wsJx35411_init_45d68) B.pre
  have hown : s.vm.findClass RJx35411 = some m.cls := findClass_of_methodNamed B.named
  have hlocks := B.notSynchronized
  have hin : meth.name = "<init>" := (name_of_methodNamed B.named B.method).1
  subst hsz
  have hD := hD0.self (sz := s.heap.size)
  generalize hAe : va_A [(it, .inr (0, [.int 0, .int 0, .int 0, .null])), (h0, .inr (1, [.int 0, .ref e0, .int 0]))] s.heap.size = A at hD hE ⊢
  have hA : ∀ q : Nat, s.heap.size ≤ q → A q := fun q h => by rw [← hAe]; exact Or.inr h
  have hS : va_S A s.heap s.heap [] := va_S.rf
  have hP : va_P D vwCl [(it, .inr (0, [.int 0, .int 0, .int 0, .null])), (h0, .inr (1, [.int 0, .ref e0, .int 0]))] s.heap := hP
  have hl := lv_entry ([.ref it, .ref h0]) (n := 2) (Nat.le_of_ble_eq_true rfl)
  rw [lg_entry_eq]
  generalize (lg_sl ([.ref it, .ref h0]) ++ List.replicate (2 - (lg_sl ([.ref it, .ref h0])).length) Slot.unset).toArray = ls at hl ⊢
  have hl : lv_has ls 2 [(0, .ref it), (1, .ref h0)] := hl
  refine lv_aload_n hx hb dJx35411_init_45d68_0 rfl (lv_at hl 0 rfl) ?_
  refine lv_aload_n hx hb dJx35411_init_45d68_1 rfl (lv_at hl 1 rfl) ?_
  refine va_putF (D := D) (ci := 0) (v := .ref h0) (ty := .object "java/util/ArrayList") (C := RJx35411) (T := TJx35411) (N := 4) hx hb hts (by decide +kernel) tyJx35411 tyJx35411_ok nmJx35411 hown hK hP hD hS 0 rfl rfl 3 (by decide) (hts (.fieldLink RJx35411 1 "java/util/ArrayList$Itr" "this$0" "Ljava/util/ArrayList;") (by decide +kernel)) (fun _ h9 => h9) rfl hin rfl (by decide +kernel) rfl rfl (Nat.le_of_ble_eq_true rfl) dJx35411_init_45d68_2 (fun H locs hP hD hS => ?_)
  have hP : va_P D vwCl [(it, .inr (0, [.int 0, .int 0, .int 0, .ref h0])), (h0, .inr (1, [.int 0, .ref e0, .int 0]))] H := hP
  have hD : va_D A [(it, .inr (0, [.int 0, .int 0, .int 0, .ref h0])), (h0, .inr (1, [.int 0, .ref e0, .int 0]))] := hD
  refine lv_aload_n hx hb dJx35411_init_45d68_5 rfl (lv_at hl 0 rfl) ?_
  refine W.objInit hx hb hown (hts (.methodLink RJx35411 7 objectInit) (by decide +kernel)) (hts (.instanceMethod objectInit) (by decide +kernel)) (hts (.code objectInit ⟨#[0xb1]⟩ 1 none) (by decide +kernel)) rfl (by rw [hml]; exact hl.1) rfl dJx35411_init_45d68_6 (Nat.le_of_ble_eq_true rfl) (Nat.le_of_ble_eq_true rfl) ?_
  refine W.eq (g2 := F0 m 9 ls []) rfl ?_
  refine lv_aload_n hx hb dJx35411_init_45d68_9 rfl (lv_at hl 0 rfl) ?_
  refine lv_iconst (v := (-1)) hx hb dJx35411_init_45d68_10 (by decide) ?_
  refine va_put (D := D) (ci := 0) (v := .int (-1)) (ty := .int) (C := RJx35411) (T := TJx35411) (N := 4) hx hb hts (by decide +kernel) tyJx35411 tyJx35411_ok nmJx35411 hown hK hP hD hS 0 rfl rfl 1 (by decide) (hts (.fieldLink RJx35411 13 "java/util/ArrayList$Itr" "lastRet" "I") (by decide +kernel)) (fun _ h9 => h9) rfl (by decide +kernel) rfl rfl (Nat.le_of_ble_eq_true rfl) dJx35411_init_45d68_11 (fun H locs hP hD hS => ?_)
  have hP : va_P D vwCl [(it, .inr (0, [.int 0, .int (-1), .int 0, .ref h0])), (h0, .inr (1, [.int 0, .ref e0, .int 0]))] H := hP
  have hD : va_D A [(it, .inr (0, [.int 0, .int (-1), .int 0, .ref h0])), (h0, .inr (1, [.int 0, .ref e0, .int 0]))] := hD
  refine lv_aload_n hx hb dJx35411_init_45d68_14 rfl (lv_at hl 0 rfl) ?_
  refine lv_aload_n hx hb dJx35411_init_45d68_15 rfl (lv_at hl 0 rfl) ?_
  refine va_get (D := D) (ci := 0) (v := .ref h0) (C := RJx35411) (T := TJx35411) (N := 4) hx hb hts (by decide +kernel) hown hK hP 0 rfl rfl 3 (by decide) (hts (.fieldLink RJx35411 1 "java/util/ArrayList$Itr" "this$0" "Ljava/util/ArrayList;") (by decide +kernel)) (fun _ h9 => h9) rfl dJx35411_init_45d68_16 ?_
  refine va_get (D := D) (ci := 1) (v := .int 0) (C := RJx4a65c) (T := TJx4a65c) (N := 3) hx hb hts (by decide +kernel) hown hK hP 1 rfl rfl 0 (by decide) (hts (.fieldLink RJx35411 17 "java/util/ArrayList" "modCount" "I") (by decide +kernel)) (fun x9 h9 => u_same (hts (.sameField "java/util/ArrayList" "java/util/AbstractList" "modCount" "I") (by decide +kernel)) x9 h9) rfl dJx35411_init_45d68_19 ?_
  refine va_put (D := D) (ci := 0) (v := .int 0) (ty := .int) (C := RJx35411) (T := TJx35411) (N := 4) hx hb hts (by decide +kernel) tyJx35411 tyJx35411_ok nmJx35411 hown hK hP hD hS 0 rfl rfl 2 (by decide) (hts (.fieldLink RJx35411 22 "java/util/ArrayList$Itr" "expectedModCount" "I") (by decide +kernel)) (fun _ h9 => h9) rfl (by decide +kernel) rfl rfl (Nat.le_of_ble_eq_true rfl) dJx35411_init_45d68_22 (fun H locs hP hD hS => ?_)
  have hP : va_P D vwCl [(it, .inr (0, [.int 0, .int (-1), .int 0, .ref h0])), (h0, .inr (1, [.int 0, .ref e0, .int 0]))] H := hP
  have hD : va_D A [(it, .inr (0, [.int 0, .int (-1), .int 0, .ref h0])), (h0, .inr (1, [.int 0, .ref e0, .int 0]))] := hD
  exact end_v hx hb hr hlocks hP hD hK hS () trivial [0, 1] [] rfl (by decide) rfl (Nat.le_of_ble_eq_true rfl) (Nat.le_of_ble_eq_true rfl) dJx35411_init_45d68_25
set_option maxHeartbeats 4000000 in
set_option maxRecDepth 100000 in
/-- iterator() of an empty list -/
theorem c_iter (l : Launch) (D : va_G) (e0 sz : Nat) (h0 : Nat) : Kq (S := Nat) l yJx4a65c_iterator_32c93 wsJx4a65c_iterator_32c93 ({ frames := 2, cells := 1, slots := 4, locals := 33 } : Room) [.ref h0] D [(h0, .inr (1, [.int 0, .ref e0, .int 0]))] [] e0 sz (fun r u => r = some u) (fun u => [(u, .inr (0, [.int 0, .int (-1), .int 0, .ref h0])), (h0, .inr (1, [.int 0, .ref e0, .int 0]))]) (fun _ => []) 1 4 := by
  refine Met.ofW (cc := cJx4a65c_iterator_32c93) (maxL := 1) (ret := (some (.object "java/util/Iterator"))) (by decide) rfl ?_
  intro p e s m args below meth c s₁ B hml hv
  obtain ⟨rfl, hsz, hP, hK, hD0, hE⟩ := hv
  have hx := B.exec
  have hb := B.bytes
  have hr := B.returns
  have hts := atoms_spec (ws := wsJx4a65c_iterator_32c93) B.pre
  have hown : s.vm.findClass RJx4a65c = some m.cls := findClass_of_methodNamed B.named
  have hlocks := B.notSynchronized
  subst hsz
  have hD := hD0.self (sz := s.heap.size)
  generalize hAe : va_A [(h0, .inr (1, [.int 0, .ref e0, .int 0]))] s.heap.size = A at hD hE ⊢
  have hA : ∀ q : Nat, s.heap.size ≤ q → A q := fun q h => by rw [← hAe]; exact Or.inr h
  have hS : va_S A s.heap s.heap [] := va_S.rf
  have hP : va_P D vwCl [(h0, .inr (1, [.int 0, .ref e0, .int 0]))] s.heap := hP
  have hl := lv_entry ([.ref h0]) (n := 1) (Nat.le_of_ble_eq_true rfl)
  rw [lg_entry_eq]
  generalize (lg_sl ([.ref h0]) ++ List.replicate (1 - (lg_sl ([.ref h0])).length) Slot.unset).toArray = ls at hl ⊢
  have hl : lv_has ls 1 [(0, .ref h0)] := hl
  refine va_new (ci := 0) (fs := [.int 0, .int 0, .int 0, .null]) (C := RJx35411) (T := TJx35411) (N := 4) hx hb hts (by decide +kernel) tyJx35411 tyJx35411_ok hown (hts (.classLink RJx4a65c 267 RJx35411) (by decide +kernel)) (hts (.instantiable RJx35411 4) (by decide +kernel)) (hts (.initialized RJx35411) (by decide +kernel)) hK hP hD hS hA rfl (fun j hj => by rcases (show j = 0 ∨ j = 1 ∨ j = 2 ∨ j = 3 by omega) with rfl | rfl | rfl | rfl <;> rfl) (Nat.le_of_ble_eq_true rfl) (Nat.le_of_ble_eq_true rfl) dJx4a65c_iterator_32c93_0 (fun it H hP hD hS => ?_)
  have hP : va_P D vwCl [(h0, .inr (1, [.int 0, .ref e0, .int 0])), (it, .inr (0, [.int 0, .int 0, .int 0, .null]))] H := hP
  have hD : va_D A [(h0, .inr (1, [.int 0, .ref e0, .int 0])), (it, .inr (0, [.int 0, .int 0, .int 0, .null]))] := hD
  refine lv_dup hx hb dJx4a65c_iterator_32c93_3 rfl ?_
  refine lv_aload_n hx hb dJx4a65c_iterator_32c93_4 rfl (lv_at hl 0 rfl) ?_
  refine kI_v (As := [.ref h0]) (rest := [.ref it]) (wr := []) ⟨hx, hb, hml, hown, hts⟩ (c_itr_init l D e0 _ it h0) (cwI 1 hts gJx4a65c_iterator_32c93_Jx35411_init_45d68 rfl rfl rfl (hts (.initialized RJx35411) (by decide +kernel)) (hts (.methodLink RJx4a65c 269 yJx35411_init_45d68) (by decide +kernel)) (hts (.instanceMethod yJx35411_init_45d68) (by decide +kernel)) rfl (by decide +kernel) ⟨Nat.le_of_ble_eq_true rfl, Nat.le_of_ble_eq_true rfl⟩) hP hD hK hS hA hE rfl [1, 0] [] [] rfl rfl (by decide) (by decide) (by decide) rfl rfl hl.1 (Nat.le_of_ble_eq_true rfl) dJx4a65c_iterator_32c93_5 ⟨Nat.le_of_ble_eq_true rfl, Nat.le_of_ble_eq_true rfl⟩ (fun u9 H locs hw hP hD hK hS => ?_)
  have hP : va_P D vwCl [(it, .inr (0, [.int 0, .int (-1), .int 0, .ref h0])), (h0, .inr (1, [.int 0, .ref e0, .int 0]))] H := hP
  have hD : va_D A [(it, .inr (0, [.int 0, .int (-1), .int 0, .ref h0])), (h0, .inr (1, [.int 0, .ref e0, .int 0]))] := hD
  have hK : va_K D vwCl [] s := hK
  exact end_q (v := some it) hx hb hr (Or.inl ⟨_, rfl⟩) hlocks hP hD hK hS it rfl [0, 1] [] rfl (by decide) rfl (Nat.le_of_ble_eq_true rfl) (Nat.le_of_ble_eq_true rfl) dJx4a65c_iterator_32c93_8
set_option maxHeartbeats 4000000 in
set_option maxRecDepth 100000 in
/-- hasNext() over an empty list: no -/
theorem c_hasNext (l : Launch) (D : va_G) (e0 sz : Nat) (it h0 : Nat) : Ki (S := Unit) l yJx35411_hasNext_aae02 wsJx35411_hasNext_aae02 ({ frames := 0, cells := 0, slots := 0, locals := 0 } : Room) [.ref it] D [(it, .inr (0, [.int 0, .int (-1), .int 0, .ref h0])), (h0, .inr (1, [.int 0, .ref e0, .int 0]))] [] e0 sz (fun r _ => r = 0) (fun _ => [(it, .inr (0, [.int 0, .int (-1), .int 0, .ref h0])), (h0, .inr (1, [.int 0, .ref e0, .int 0]))]) (fun _ => []) 0 0 := by
  refine Met.ofW (cc := cJx35411_hasNext_aae02) (maxL := 1) (ret := (some .boolean)) (by decide) rfl ?_
  intro p e s m args below meth c s₁ B hml hv
  obtain ⟨rfl, hsz, hP, hK, hD0, hE⟩ := hv
  have hx := B.exec
  have hb := B.bytes
  have hr := B.returns
  have hts := atoms_spec (ws := wsJx35411_hasNext_aae02) B.pre
  have hown : s.vm.findClass RJx35411 = some m.cls := findClass_of_methodNamed B.named
  have hlocks := B.notSynchronized
  subst hsz
  have hD := hD0.self (sz := s.heap.size)
  generalize hAe : va_A [(it, .inr (0, [.int 0, .int (-1), .int 0, .ref h0])), (h0, .inr (1, [.int 0, .ref e0, .int 0]))] s.heap.size = A at hD hE ⊢
  have hA : ∀ q : Nat, s.heap.size ≤ q → A q := fun q h => by rw [← hAe]; exact Or.inr h
  have hS : va_S A s.heap s.heap [] := va_S.rf
  have hP : va_P D vwCl [(it, .inr (0, [.int 0, .int (-1), .int 0, .ref h0])), (h0, .inr (1, [.int 0, .ref e0, .int 0]))] s.heap := hP
  have hl := lv_entry ([.ref it]) (n := 1) (Nat.le_of_ble_eq_true rfl)
  rw [lg_entry_eq]
  generalize (lg_sl ([.ref it]) ++ List.replicate (1 - (lg_sl ([.ref it])).length) Slot.unset).toArray = ls at hl ⊢
  have hl : lv_has ls 1 [(0, .ref it)] := hl
  refine lv_aload_n hx hb dJx35411_hasNext_aae02_0 rfl (lv_at hl 0 rfl) ?_
  refine va_get (D := D) (ci := 0) (v := .int 0) (C := RJx35411) (T := TJx35411) (N := 4) hx hb hts (by decide +kernel) hown hK hP 0 rfl rfl 0 (by decide) (hts (.fieldLink RJx35411 25 "java/util/ArrayList$Itr" "cursor" "I") (by decide +kernel)) (fun _ h9 => h9) rfl dJx35411_hasNext_aae02_1 ?_
  refine lv_aload_n hx hb dJx35411_hasNext_aae02_4 rfl (lv_at hl 0 rfl) ?_
  refine va_get (D := D) (ci := 0) (v := .ref h0) (C := RJx35411) (T := TJx35411) (N := 4) hx hb hts (by decide +kernel) hown hK hP 0 rfl rfl 3 (by decide) (hts (.fieldLink RJx35411 1 "java/util/ArrayList$Itr" "this$0" "Ljava/util/ArrayList;") (by decide +kernel)) (fun _ h9 => h9) rfl dJx35411_hasNext_aae02_5 ?_
  refine va_getN (D := D) (ci := 1) (v := .int 0) (C := RJx4a65c) (T := TJx4a65c) (N := 3) hx hb hts (by decide +kernel) hown hK hP 1 rfl rfl 2 (by decide) (va_Nw.use rfl hE.2.2.2.2.2.2.2.1.2.2) (fun _ h9 => h9) rfl dJx35411_hasNext_aae02_8 ?_
  refine lv_icmp_eq (tgt := 18) hx hb dJx35411_hasNext_aae02_11 (by decide) (fun _ => ?_) (fun h9 => absurd (by decide) h9)
  refine lv_iconst (v := 0) hx hb dJx35411_hasNext_aae02_18 (by decide) ?_
  exact end_i (v := 0) hx hb hr rfl hlocks hP hD hK hS () rfl [0, 1] [] rfl (by decide) rfl (Nat.le_of_ble_eq_true rfl) (Nat.le_of_ble_eq_true rfl) dJx35411_hasNext_aae02_19
