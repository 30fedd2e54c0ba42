theorem dX9_thrown_0 : decode cX9_thrown 0 = .ok (.aload_n 0, 1) := by decide +kernel
theorem dX9_thrown_1 : decode cX9_thrown 1 = .ok (.getfield 22, 3) := by decide +kernel
theorem dX9_thrown_4 : decode cX9_thrown 4 = .ok (.ireturn, 1) := by decide +kernel
theorem dX9_refuse_0 : decode cX9_refuse 0 = .ok (.iload_n 1, 1) := by decide +kernel
theorem dX9_refuse_1 : decode cX9_refuse 1 = .ok (.ifCond .eq 15, 3) := by decide +kernel
theorem dX9_refuse_4 : decode cX9_refuse 4 = .ok (.aload_n 0, 1) := by decide +kernel
theorem dX9_refuse_5 : decode cX9_refuse 5 = .ok (.getfield 22, 3) := by decide +kernel
theorem dX9_refuse_8 : decode cX9_refuse 8 = .ok (.ifCond .ne 8, 3) := by decide +kernel
theorem dX9_refuse_11 : decode cX9_refuse 11 = .ok (.aload_n 0, 1) := by decide +kernel
theorem dX9_refuse_12 : decode cX9_refuse 12 = .ok (.iload_n 2, 1) := by decide +kernel
theorem dX9_refuse_13 : decode cX9_refuse 13 = .ok (.putfield 22, 3) := by decide +kernel
theorem dX9_refuse_16 : decode cX9_refuse 16 = .ok (.aload_n 0, 1) := by decide +kernel
theorem dX9_refuse_17 : decode cX9_refuse 17 = .ok (.getfield 22, 3) := by decide +kernel
theorem dX9_refuse_20 : decode cX9_refuse 20 = .ok (.ifCond .le 7, 3) := by decide +kernel
theorem dX9_refuse_23 : decode cX9_refuse 23 = .ok (.iconst 1, 1) := by decide +kernel
theorem dX9_refuse_24 : decode cX9_refuse 24 = .ok (.goto 4, 3) := by decide +kernel
theorem dX9_refuse_27 : decode cX9_refuse 27 = .ok (.iconst 0, 1) := by decide +kernel
theorem dX9_refuse_28 : decode cX9_refuse 28 = .ok (.ireturn, 1) := by decide +kernel
set_option maxRecDepth 20000 in
theorem ggX9_start_X9_refuse : GoodIn wsX9_start wsX9_refuse := goodIn_r _ [6, 1, 7, 8, 9, 10, 11, 12, 13, 14, 15, 16, 17, 18, 19, 20, 21] (by decide +kernel) (by decide +kernel)
set_option maxRecDepth 20000 in
theorem gX9_start_X9_refuse : GoodIn wsX9_start (wsV RX9 26 RX9 yX9_refuse wsX9_refuse) := goodIn_app (goodIn_of _ (by decide +kernel)) ggX9_start_X9_refuse
theorem dX9_start_0 : decode cX9_start 0 = .ok (.aload_n 0, 1) := by decide +kernel
theorem dX9_start_1 : decode cX9_start 1 = .ok (.iconst 0, 1) := by decide +kernel
theorem dX9_start_2 : decode cX9_start 2 = .ok (.putfield 22, 3) := by decide +kernel
theorem dX9_start_5 : decode cX9_start 5 = .ok (.aload_n 0, 1) := by decide +kernel
theorem dX9_start_6 : decode cX9_start 6 = .ok (.iload_n 1, 1) := by decide +kernel
theorem dX9_start_7 : decode cX9_start 7 = .ok (.iload_n 2, 1) := by decide +kernel
theorem dX9_start_8 : decode cX9_start 8 = .ok (.invokevirtual 26, 3) := by decide +kernel
theorem dX9_start_11 : decode cX9_start 11 = .ok (.ireturn, 1) := by decide +kernel
set_option maxRecDepth 20000 in
theorem ggX9_isNoKind_Jx4a65c_size_8abf5 : GoodIn wsX9_isNoKind wsJx4a65c_size_8abf5 := goodIn_r _ [6, 7, 27, 28, 29] (by decide +kernel) (by decide +kernel)
set_option maxRecDepth 20000 in
theorem gX9_isNoKind_Jx4a65c_size_8abf5 : GoodIn wsX9_isNoKind (wsV RX9 30 RJx4a65c yJx4a65c_size_8abf5 wsJx4a65c_size_8abf5) := goodIn_app (goodIn_of _ (by decide +kernel)) ggX9_isNoKind_Jx4a65c_size_8abf5
set_option maxRecDepth 20000 in
theorem ggX9_isNoKind_X9_isIn : GoodIn wsX9_isNoKind wsX9_isIn := goodIn_r _ [11] (by decide +kernel) (by decide +kernel)
set_option maxRecDepth 20000 in
theorem gX9_isNoKind_X9_isIn : GoodIn wsX9_isNoKind (va_wsS RX9 34 yX9_isIn wsX9_isIn) := goodIn_app (goodIn_of _ (by decide +kernel)) ggX9_isNoKind_X9_isIn
theorem dX9_isNoKind_0 : decode cX9_isNoKind 0 = .ok (.iload_n 1, 1) := by decide +kernel
theorem dX9_isNoKind_1 : decode cX9_isNoKind 1 = .ok (.iconst 0, 1) := by decide +kernel
theorem dX9_isNoKind_2 : decode cX9_isNoKind 2 = .ok (.aload_n 0, 1) := by decide +kernel
theorem dX9_isNoKind_3 : decode cX9_isNoKind 3 = .ok (.getfield 10, 3) := by decide +kernel
theorem dX9_isNoKind_6 : decode cX9_isNoKind 6 = .ok (.invokevirtual 30, 3) := by decide +kernel
theorem dX9_isNoKind_9 : decode cX9_isNoKind 9 = .ok (.iconst 1, 1) := by decide +kernel
theorem dX9_isNoKind_10 : decode cX9_isNoKind 10 = .ok (.isub, 1) := by decide +kernel
theorem dX9_isNoKind_11 : decode cX9_isNoKind 11 = .ok (.invokestatic 34, 3) := by decide +kernel
theorem dX9_isNoKind_14 : decode cX9_isNoKind 14 = .ok (.ifCond .ne 7, 3) := by decide +kernel
theorem dX9_isNoKind_17 : decode cX9_isNoKind 17 = .ok (.iconst 1, 1) := by decide +kernel
theorem dX9_isNoKind_18 : decode cX9_isNoKind 18 = .ok (.goto 4, 3) := by decide +kernel
theorem dX9_isNoKind_22 : decode cX9_isNoKind 22 = .ok (.ireturn, 1) := by decide +kernel
set_option maxRecDepth 20000 in
theorem ggX9_isNoThing_Jx4a65c_size_8abf5 : GoodIn wsX9_isNoThing wsJx4a65c_size_8abf5 := goodIn_r _ [6, 7, 27, 28, 29] (by decide +kernel) (by decide +kernel)
set_option maxRecDepth 20000 in
theorem gX9_isNoThing_Jx4a65c_size_8abf5 : GoodIn wsX9_isNoThing (wsV RX9 30 RJx4a65c yJx4a65c_size_8abf5 wsJx4a65c_size_8abf5) := goodIn_app (goodIn_of _ (by decide +kernel)) ggX9_isNoThing_Jx4a65c_size_8abf5
set_option maxRecDepth 20000 in
theorem ggX9_isNoThing_X9_isIn : GoodIn wsX9_isNoThing wsX9_isIn := goodIn_r _ [11] (by decide +kernel) (by decide +kernel)
set_option maxRecDepth 20000 in
theorem gX9_isNoThing_X9_isIn : GoodIn wsX9_isNoThing (va_wsS RX9 34 yX9_isIn wsX9_isIn) := goodIn_app (goodIn_of _ (by decide +kernel)) ggX9_isNoThing_X9_isIn
theorem dX9_isNoThing_0 : decode cX9_isNoThing 0 = .ok (.iload_n 1, 1) := by decide +kernel
theorem dX9_isNoThing_1 : decode cX9_isNoThing 1 = .ok (.iconst 0, 1) := by decide +kernel
theorem dX9_isNoThing_2 : decode cX9_isNoThing 2 = .ok (.aload_n 0, 1) := by decide +kernel
theorem dX9_isNoThing_3 : decode cX9_isNoThing 3 = .ok (.getfield 16, 3) := by decide +kernel
theorem dX9_isNoThing_6 : decode cX9_isNoThing 6 = .ok (.invokevirtual 30, 3) := by decide +kernel
theorem dX9_isNoThing_9 : decode cX9_isNoThing 9 = .ok (.iconst 1, 1) := by decide +kernel
theorem dX9_isNoThing_10 : decode cX9_isNoThing 10 = .ok (.isub, 1) := by decide +kernel
theorem dX9_isNoThing_11 : decode cX9_isNoThing 11 = .ok (.invokestatic 34, 3) := by decide +kernel
theorem dX9_isNoThing_14 : decode cX9_isNoThing 14 = .ok (.ifCond .ne 7, 3) := by decide +kernel
theorem dX9_isNoThing_17 : decode cX9_isNoThing 17 = .ok (.iconst 1, 1) := by decide +kernel
theorem dX9_isNoThing_18 : decode cX9_isNoThing 18 = .ok (.goto 4, 3) := by decide +kernel
theorem dX9_isNoThing_22 : decode cX9_isNoThing 22 = .ok (.ireturn, 1) := by decide +kernel
set_option maxRecDepth 20000 in
theorem ggX9_isNoBox_Jx4a65c_size_8abf5 : GoodIn wsX9_isNoBox wsJx4a65c_size_8abf5 := goodIn_r _ [6, 7, 27, 28, 29] (by decide +kernel) (by decide +kernel)
set_option maxRecDepth 20000 in
theorem gX9_isNoBox_Jx4a65c_size_8abf5 : GoodIn wsX9_isNoBox (wsV RX9 30 RJx4a65c yJx4a65c_size_8abf5 wsJx4a65c_size_8abf5) := goodIn_app (goodIn_of _ (by decide +kernel)) ggX9_isNoBox_Jx4a65c_size_8abf5
set_option maxRecDepth 20000 in
theorem ggX9_isNoBox_X9_isIn : GoodIn wsX9_isNoBox wsX9_isIn := goodIn_r _ [11] (by decide +kernel) (by decide +kernel)
set_option maxRecDepth 20000 in
theorem gX9_isNoBox_X9_isIn : GoodIn wsX9_isNoBox (va_wsS RX9 34 yX9_isIn wsX9_isIn) := goodIn_app (goodIn_of _ (by decide +kernel)) ggX9_isNoBox_X9_isIn
theorem dX9_isNoBox_0 : decode cX9_isNoBox 0 = .ok (.iload_n 1, 1) := by decide +kernel
theorem dX9_isNoBox_1 : decode cX9_isNoBox 1 = .ok (.iconst 0, 1) := by decide +kernel
theorem dX9_isNoBox_2 : decode cX9_isNoBox 2 = .ok (.aload_n 0, 1) := by decide +kernel
theorem dX9_isNoBox_3 : decode cX9_isNoBox 3 = .ok (.getfield 19, 3) := by decide +kernel
theorem dX9_isNoBox_6 : decode cX9_isNoBox 6 = .ok (.invokevirtual 30, 3) := by decide +kernel
theorem dX9_isNoBox_9 : decode cX9_isNoBox 9 = .ok (.iconst 1, 1) := by decide +kernel
theorem dX9_isNoBox_10 : decode cX9_isNoBox 10 = .ok (.isub, 1) := by decide +kernel
theorem dX9_isNoBox_11 : decode cX9_isNoBox 11 = .ok (.invokestatic 34, 3) := by decide +kernel
theorem dX9_isNoBox_14 : decode cX9_isNoBox 14 = .ok (.ifCond .ne 7, 3) := by decide +kernel
theorem dX9_isNoBox_17 : decode cX9_isNoBox 17 = .ok (.iconst 1, 1) := by decide +kernel
theorem dX9_isNoBox_18 : decode cX9_isNoBox 18 = .ok (.goto 4, 3) := by decide +kernel
theorem dX9_isNoBox_22 : decode cX9_isNoBox 22 = .ok (.ireturn, 1) := by decide +kernel
set_option maxRecDepth 20000 in
theorem ggX9_topAt_Jx4a65c_iterator_32c93 : GoodIn wsX9_topAt wsJx4a65c_iterator_32c93 := goodIn_r _ [7, 8, 9, 10, 11, 12, 13, 14, 15, 16, 17, 18, 19, 20, 21, 75, 76, 77, 78, 79, 80, 81] (by decide +kernel) (by decide +kernel)
set_option maxRecDepth 20000 in
theorem gX9_topAt_Jx4a65c_iterator_32c93 : GoodIn wsX9_topAt (wsV RX9 38 RJx4a65c yJx4a65c_iterator_32c93 wsJx4a65c_iterator_32c93) := goodIn_app (goodIn_of _ (by decide +kernel)) ggX9_topAt_Jx4a65c_iterator_32c93
set_option maxRecDepth 20000 in
theorem ggX9_topAt_Jx35411_hasNext_aae02 : GoodIn wsX9_topAt wsJx35411_hasNext_aae02 := goodIn_r _ [25, 26, 14, 75, 76, 77, 78, 79, 80, 81] (by decide +kernel) (by decide +kernel)
set_option maxRecDepth 20000 in
theorem gX9_topAt_Jx35411_hasNext_aae02_f42Jx35411 : GoodIn wsX9_topAt (va_wsF RX9 42 RJx35411 ⟨"java/util/Iterator", "hasNext", "()Z"⟩ yJx35411_hasNext_aae02 wsJx35411_hasNext_aae02) := goodIn_app (goodIn_of _ (by decide +kernel)) ggX9_topAt_Jx35411_hasNext_aae02
theorem dX9_topAt_0 : decode cX9_topAt 0 = .ok (.aconst_null, 1) := by decide +kernel
theorem dX9_topAt_1 : decode cX9_topAt 1 = .ok (.astore_n 3, 1) := by decide +kernel
theorem dX9_topAt_2 : decode cX9_topAt 2 = .ok (.aload_n 0, 1) := by decide +kernel
theorem dX9_topAt_3 : decode cX9_topAt 3 = .ok (.getfield 16, 3) := by decide +kernel
theorem dX9_topAt_6 : decode cX9_topAt 6 = .ok (.invokevirtual 38, 3) := by decide +kernel
theorem dX9_topAt_9 : decode cX9_topAt 9 = .ok (.astore 4, 2) := by decide +kernel
theorem dX9_topAt_11 : decode cX9_topAt 11 = .ok (.aload 4, 2) := by decide +kernel
theorem dX9_topAt_13 : decode cX9_topAt 13 = .ok (.invokeinterface 42 1, 5) := by decide +kernel
theorem dX9_topAt_18 : decode cX9_topAt 18 = .ok (.ifCond .eq 55, 3) := by decide +kernel
theorem dX9_topAt_73 : decode cX9_topAt 73 = .ok (.aload_n 3, 1) := by decide +kernel
theorem dX9_topAt_74 : decode cX9_topAt 74 = .ok (.areturn, 1) := by decide +kernel
set_option maxRecDepth 20000 in
theorem ggX9_seenAt_X9_topAt : GoodIn wsX9_seenAt wsX9_topAt := goodIn_r _ [5, 6, 7, 8, 9, 10, 11, 12, 13, 14, 15, 16, 17, 18, 19, 20, 21, 22, 23, 24, 25, 26, 27, 28, 29, 30, 31, 32, 33, 34, 35, 36, 37, 38, 39, 40, 41, 42, 43, 44, 45, 46, 47, 48, 49, 50, 51, 52, 53, 54, 55, 56, 4, 57, 58, 59, 60, 61, 62, 63, 68, 69, 70, 71, 72, 73, 74, 75, 76, 77, 78, 79, 80, 81, 82, 83, 84, 85, 86, 87, 88, 89, 90, 91, 92, 93, 94, 95, 96, 97, 98, 99, 100, 101, 102, 103, 104, 105] (by decide +kernel) (by decide +kernel)
set_option maxRecDepth 20000 in
theorem gX9_seenAt_X9_topAt : GoodIn wsX9_seenAt (wsV RX9 92 RX9 yX9_topAt wsX9_topAt) := goodIn_app (goodIn_of _ (by decide +kernel)) ggX9_seenAt_X9_topAt
theorem dX9_seenAt_0 : decode cX9_seenAt 0 = .ok (.aload_n 0, 1) := by decide +kernel
theorem dX9_seenAt_1 : decode cX9_seenAt 1 = .ok (.iload_n 1, 1) := by decide +kernel
theorem dX9_seenAt_2 : decode cX9_seenAt 2 = .ok (.iload_n 2, 1) := by decide +kernel
theorem dX9_seenAt_3 : decode cX9_seenAt 3 = .ok (.invokevirtual 92, 3) := by decide +kernel
theorem dX9_seenAt_6 : decode cX9_seenAt 6 = .ok (.astore_n 3, 1) := by decide +kernel
theorem dX9_seenAt_7 : decode cX9_seenAt 7 = .ok (.aload_n 3, 1) := by decide +kernel
theorem dX9_seenAt_8 : decode cX9_seenAt 8 = .ok (.ifnull 51, 3) := by decide +kernel
theorem dX9_seenAt_59 : decode cX9_seenAt 59 = .ok (.aconst_null, 1) := by decide +kernel
theorem dX9_seenAt_60 : decode cX9_seenAt 60 = .ok (.areturn, 1) := by decide +kernel
set_option maxRecDepth 20000 in
theorem ggX9_kind_X9_isIn : GoodIn wsX9_kind wsX9_isIn := goodIn_r _ [8] (by decide +kernel) (by decide +kernel)
set_option maxRecDepth 20000 in
theorem gX9_kind_X9_isIn : GoodIn wsX9_kind (va_wsS RX9 34 yX9_isIn wsX9_isIn) := goodIn_app (goodIn_of _ (by decide +kernel)) ggX9_kind_X9_isIn
set_option maxRecDepth 20000 in
theorem ggX9_kind_X9_start : GoodIn wsX9_kind wsX9_start := goodIn_r _ [12, 13, 14, 15, 16, 7, 17, 90, 91, 92, 93, 94, 95, 96, 97, 98, 99, 100, 101, 102, 103, 104] (by decide +kernel) (by decide +kernel)
set_option maxRecDepth 20000 in
theorem gX9_kind_X9_start : GoodIn wsX9_kind (wsV RX9 196 RX9 yX9_start wsX9_start) := goodIn_app (goodIn_of _ (by decide +kernel)) ggX9_kind_X9_start
set_option maxRecDepth 20000 in
theorem ggX9_kind_Jx4a65c_size_8abf5 : GoodIn wsX9_kind wsJx4a65c_size_8abf5 := goodIn_r _ [22, 23, 111, 112, 113] (by decide +kernel) (by decide +kernel)
set_option maxRecDepth 20000 in
theorem gX9_kind_Jx4a65c_size_8abf5 : GoodIn wsX9_kind (wsV RX9 30 RJx4a65c yJx4a65c_size_8abf5 wsJx4a65c_size_8abf5) := goodIn_app (goodIn_of _ (by decide +kernel)) ggX9_kind_Jx4a65c_size_8abf5
set_option maxRecDepth 20000 in
theorem ggX9_kind_X9_refuse : GoodIn wsX9_kind wsX9_refuse := goodIn_r _ [17, 13, 90, 91, 92, 93, 94, 95, 96, 97, 98, 99, 100, 101, 102, 103, 104] (by decide +kernel) (by decide +kernel)
set_option maxRecDepth 20000 in
theorem gX9_kind_X9_refuse : GoodIn wsX9_kind (wsV RX9 26 RX9 yX9_refuse wsX9_refuse) := goodIn_app (goodIn_of _ (by decide +kernel)) ggX9_kind_X9_refuse
set_option maxRecDepth 20000 in
theorem ggX9_kind_X7_init : GoodIn wsX9_kind wsX7_init := goodIn_r _ [26, 27, 28, 29, 30, 31, 32, 33, 34, 35, 105, 106, 107, 108, 109, 110] (by decide +kernel) (by decide +kernel)
set_option maxRecDepth 20000 in
theorem gX9_kind_X7_init : GoodIn wsX9_kind (wsX7_init) := ggX9_kind_X7_init
set_option maxRecDepth 20000 in
theorem ggX9_kind_Jx4a65c_add_9ea2d : GoodIn wsX9_kind wsJx4a65c_add_9ea2d := goodIn_r _ [39, 40, 41, 42, 23, 43, 44, 45, 21, 46, 47, 48, 49, 50, 51, 52, 53, 54, 55, 56, 57, 58, 59, 60, 61, 62, 63, 64, 65, 66, 67, 68, 69, 70, 71, 72, 73, 74, 75, 76, 77, 78, 79, 80, 81, 82, 83, 84, 85, 86, 87, 88, 89, 111, 112, 113] (by decide +kernel) (by decide +kernel)
set_option maxRecDepth 20000 in
theorem gX9_kind_Jx4a65c_add_9ea2d : GoodIn wsX9_kind (wsV RX9 202 RJx4a65c yJx4a65c_add_9ea2d wsJx4a65c_add_9ea2d) := goodIn_app (goodIn_of _ (by decide +kernel)) ggX9_kind_Jx4a65c_add_9ea2d
theorem dX9_kind_0 : decode cX9_kind 0 = .ok (.iload_n 1, 1) := by decide +kernel
theorem dX9_kind_1 : decode cX9_kind 1 = .ok (.iconst 1, 1) := by decide +kernel
theorem dX9_kind_2 : decode cX9_kind 2 = .ok (.iconst 3, 1) := by decide +kernel
theorem dX9_kind_3 : decode cX9_kind 3 = .ok (.invokestatic 34, 3) := by decide +kernel
theorem dX9_kind_6 : decode cX9_kind 6 = .ok (.ifCond .eq 54, 3) := by decide +kernel
theorem dX9_kind_9 : decode cX9_kind 9 = .ok (.iload_n 2, 1) := by decide +kernel
theorem dX9_kind_10 : decode cX9_kind 10 = .ok (.iconst 1, 1) := by decide +kernel
theorem dX9_kind_11 : decode cX9_kind 11 = .ok (.iconst 3, 1) := by decide +kernel
theorem dX9_kind_12 : decode cX9_kind 12 = .ok (.invokestatic 34, 3) := by decide +kernel
theorem dX9_kind_15 : decode cX9_kind 15 = .ok (.ifCond .eq 45, 3) := by decide +kernel
theorem dX9_kind_18 : decode cX9_kind 18 = .ok (.iload_n 3, 1) := by decide +kernel
theorem dX9_kind_19 : decode cX9_kind 19 = .ok (.iconst 1, 1) := by decide +kernel
theorem dX9_kind_20 : decode cX9_kind 20 = .ok (.iconst 4, 1) := by decide +kernel
theorem dX9_kind_21 : decode cX9_kind 21 = .ok (.invokestatic 34, 3) := by decide +kernel
theorem dX9_kind_24 : decode cX9_kind 24 = .ok (.ifCond .eq 36, 3) := by decide +kernel
theorem dX9_kind_27 : decode cX9_kind 27 = .ok (.iload 4, 2) := by decide +kernel
theorem dX9_kind_29 : decode cX9_kind 29 = .ok (.iconst 1, 1) := by decide +kernel
theorem dX9_kind_30 : decode cX9_kind 30 = .ok (.bipush 60, 2) := by decide +kernel
theorem dX9_kind_32 : decode cX9_kind 32 = .ok (.invokestatic 34, 3) := by decide +kernel
theorem dX9_kind_35 : decode cX9_kind 35 = .ok (.ifCond .eq 25, 3) := by decide +kernel
theorem dX9_kind_38 : decode cX9_kind 38 = .ok (.iload 5, 2) := by decide +kernel
theorem dX9_kind_40 : decode cX9_kind 40 = .ok (.iconst 0, 1) := by decide +kernel
theorem dX9_kind_41 : decode cX9_kind 41 = .ok (.iconst 2, 1) := by decide +kernel
theorem dX9_kind_42 : decode cX9_kind 42 = .ok (.invokestatic 34, 3) := by decide +kernel
theorem dX9_kind_45 : decode cX9_kind 45 = .ok (.ifCond .eq 15, 3) := by decide +kernel
theorem dX9_kind_48 : decode cX9_kind 48 = .ok (.iload 6, 2) := by decide +kernel
theorem dX9_kind_50 : decode cX9_kind 50 = .ok (.iconst 0, 1) := by decide +kernel
theorem dX9_kind_51 : decode cX9_kind 51 = .ok (.sipush 200, 3) := by decide +kernel
theorem dX9_kind_54 : decode cX9_kind 54 = .ok (.invokestatic 34, 3) := by decide +kernel
theorem dX9_kind_57 : decode cX9_kind 57 = .ok (.ifCond .ne 7, 3) := by decide +kernel
theorem dX9_kind_60 : decode cX9_kind 60 = .ok (.iconst 1, 1) := by decide +kernel
theorem dX9_kind_61 : decode cX9_kind 61 = .ok (.goto 4, 3) := by decide +kernel
theorem dX9_kind_64 : decode cX9_kind 64 = .ok (.iconst 0, 1) := by decide +kernel
theorem dX9_kind_65 : decode cX9_kind 65 = .ok (.istore 7, 2) := by decide +kernel
theorem dX9_kind_67 : decode cX9_kind 67 = .ok (.aload_n 0, 1) := by decide +kernel
theorem dX9_kind_68 : decode cX9_kind 68 = .ok (.iload 7, 2) := by decide +kernel
theorem dX9_kind_70 : decode cX9_kind 70 = .ok (.iconst 1, 1) := by decide +kernel
theorem dX9_kind_71 : decode cX9_kind 71 = .ok (.invokevirtual 196, 3) := by decide +kernel
theorem dX9_kind_74 : decode cX9_kind 74 = .ok (.ifCond .ne 27, 3) := by decide +kernel
theorem dX9_kind_77 : decode cX9_kind 77 = .ok (.aload_n 0, 1) := by decide +kernel
theorem dX9_kind_78 : decode cX9_kind 78 = .ok (.aload_n 0, 1) := by decide +kernel
theorem dX9_kind_79 : decode cX9_kind 79 = .ok (.getfield 10, 3) := by decide +kernel
theorem dX9_kind_82 : decode cX9_kind 82 = .ok (.invokevirtual 30, 3) := by decide +kernel
theorem dX9_kind_85 : decode cX9_kind 85 = .ok (.iconst 5, 1) := by decide +kernel
theorem dX9_kind_86 : decode cX9_kind 86 = .ok (.if_icmp .ne 7, 3) := by decide +kernel
theorem dX9_kind_93 : decode cX9_kind 93 = .ok (.iconst 0, 1) := by decide +kernel
theorem dX9_kind_94 : decode cX9_kind 94 = .ok (.iconst 2, 1) := by decide +kernel
theorem dX9_kind_95 : decode cX9_kind 95 = .ok (.invokevirtual 26, 3) := by decide +kernel
theorem dX9_kind_98 : decode cX9_kind 98 = .ok (.ifCond .eq 5, 3) := by decide +kernel
theorem dX9_kind_101 : decode cX9_kind 101 = .ok (.iconst 0, 1) := by decide +kernel
theorem dX9_kind_102 : decode cX9_kind 102 = .ok (.ireturn, 1) := by decide +kernel
theorem dX9_kind_103 : decode cX9_kind 103 = .ok (.aload_n 0, 1) := by decide +kernel
theorem dX9_kind_104 : decode cX9_kind 104 = .ok (.getfield 10, 3) := by decide +kernel
theorem dX9_kind_107 : decode cX9_kind 107 = .ok (.new 108, 3) := by decide +kernel
theorem dX9_kind_110 : decode cX9_kind 110 = .ok (.dup, 1) := by decide +kernel
theorem dX9_kind_111 : decode cX9_kind 111 = .ok (.iload_n 1, 1) := by decide +kernel
theorem dX9_kind_112 : decode cX9_kind 112 = .ok (.iload_n 2, 1) := by decide +kernel
theorem dX9_kind_113 : decode cX9_kind 113 = .ok (.iload_n 3, 1) := by decide +kernel
theorem dX9_kind_114 : decode cX9_kind 114 = .ok (.iload 4, 2) := by decide +kernel
theorem dX9_kind_116 : decode cX9_kind 116 = .ok (.iload 5, 2) := by decide +kernel
theorem dX9_kind_118 : decode cX9_kind 118 = .ok (.iload 6, 2) := by decide +kernel
theorem dX9_kind_120 : decode cX9_kind 120 = .ok (.invokespecial 199, 3) := by decide +kernel
theorem dX9_kind_123 : decode cX9_kind 123 = .ok (.invokevirtual 202, 3) := by decide +kernel
theorem dX9_kind_126 : decode cX9_kind 126 = .ok (.pop, 1) := by decide +kernel
theorem dX9_kind_127 : decode cX9_kind 127 = .ok (.aload_n 0, 1) := by decide +kernel
theorem dX9_kind_128 : decode cX9_kind 128 = .ok (.getfield 10, 3) := by decide +kernel
theorem dX9_kind_131 : decode cX9_kind 131 = .ok (.invokevirtual 30, 3) := by decide +kernel
theorem dX9_kind_134 : decode cX9_kind 134 = .ok (.iconst 1, 1) := by decide +kernel
theorem dX9_kind_135 : decode cX9_kind 135 = .ok (.isub, 1) := by decide +kernel
theorem dX9_kind_136 : decode cX9_kind 136 = .ok (.ireturn, 1) := by decide +kernel
set_option maxRecDepth 20000 in
theorem ggX9_fall__X9_isNoKind : GoodIn wsX9_fall_ wsX9_isNoKind := goodIn_r _ [14, 1, 15, 16, 17, 18, 19, 20, 21, 22, 13, 23, 174, 175, 176, 177, 178, 179, 180, 181, 182, 183, 184, 185, 186, 187, 188, 205, 206, 207] (by decide +kernel) (by decide +kernel)
set_option maxRecDepth 20000 in
theorem gX9_fall__X9_isNoKind : GoodIn wsX9_fall_ (wsV RX9 206 RX9 yX9_isNoKind wsX9_isNoKind) := goodIn_app (goodIn_of _ (by decide +kernel)) ggX9_fall__X9_isNoKind
set_option maxRecDepth 20000 in
theorem ggX9_fall__X9_start : GoodIn wsX9_fall_ wsX9_start := goodIn_r _ [27, 28, 29, 30, 31, 13, 32, 174, 175, 176, 177, 178, 179, 180, 181, 182, 183, 184, 185, 186, 187, 188] (by decide +kernel) (by decide +kernel)
set_option maxRecDepth 20000 in
theorem gX9_fall__X9_start : GoodIn wsX9_fall_ (wsV RX9 196 RX9 yX9_start wsX9_start) := goodIn_app (goodIn_of _ (by decide +kernel)) ggX9_fall__X9_start
theorem dX9_fall__0 : decode cX9_fall_ 0 = .ok (.aload_n 0, 1) := by decide +kernel
theorem dX9_fall__1 : decode cX9_fall_ 1 = .ok (.aload_n 0, 1) := by decide +kernel
theorem dX9_fall__2 : decode cX9_fall_ 2 = .ok (.iload_n 1, 1) := by decide +kernel
theorem dX9_fall__3 : decode cX9_fall_ 3 = .ok (.invokevirtual 206, 3) := by decide +kernel
theorem dX9_fall__6 : decode cX9_fall_ 6 = .ok (.iconst 1, 1) := by decide +kernel
theorem dX9_fall__7 : decode cX9_fall_ 7 = .ok (.invokevirtual 196, 3) := by decide +kernel
theorem dX9_fall__10 : decode cX9_fall_ 10 = .ok (.ifCond .eq 5, 3) := by decide +kernel
theorem dX9_fall__13 : decode cX9_fall_ 13 = .ok (.iconst 0, 1) := by decide +kernel
theorem dX9_fall__14 : decode cX9_fall_ 14 = .ok (.ireturn, 1) := by decide +kernel
set_option maxRecDepth 20000 in
theorem ggX9_tangle_X9_isNoThing : GoodIn wsX9_tangle wsX9_isNoThing := goodIn_r _ [8, 1, 9, 10, 11, 12, 13, 14, 15, 16, 7, 17, 57, 58, 59, 60, 61, 62, 63, 64, 65, 66, 67, 68, 69, 70, 71, 82, 83, 84] (by decide +kernel) (by decide +kernel)
set_option maxRecDepth 20000 in
theorem gX9_tangle_X9_isNoThing : GoodIn wsX9_tangle (wsV RX9 221 RX9 yX9_isNoThing wsX9_isNoThing) := goodIn_app (goodIn_of _ (by decide +kernel)) ggX9_tangle_X9_isNoThing
set_option maxRecDepth 20000 in
theorem ggX9_tangle_X9_start : GoodIn wsX9_tangle wsX9_start := goodIn_r _ [21, 22, 23, 24, 25, 7, 26, 57, 58, 59, 60, 61, 62, 63, 64, 65, 66, 67, 68, 69, 70, 71] (by decide +kernel) (by decide +kernel)
set_option maxRecDepth 20000 in
theorem gX9_tangle_X9_start : GoodIn wsX9_tangle (wsV RX9 196 RX9 yX9_start wsX9_start) := goodIn_app (goodIn_of _ (by decide +kernel)) ggX9_tangle_X9_start
theorem dX9_tangle_0 : decode cX9_tangle 0 = .ok (.aload_n 0, 1) := by decide +kernel
theorem dX9_tangle_1 : decode cX9_tangle 1 = .ok (.aload_n 0, 1) := by decide +kernel
theorem dX9_tangle_2 : decode cX9_tangle 2 = .ok (.iload_n 1, 1) := by decide +kernel
theorem dX9_tangle_3 : decode cX9_tangle 3 = .ok (.invokevirtual 221, 3) := by decide +kernel
theorem dX9_tangle_6 : decode cX9_tangle 6 = .ok (.ifCond .ne 11, 3) := by decide +kernel
theorem dX9_tangle_17 : decode cX9_tangle 17 = .ok (.iconst 1, 1) := by decide +kernel
theorem dX9_tangle_18 : decode cX9_tangle 18 = .ok (.goto 4, 3) := by decide +kernel
theorem dX9_tangle_22 : decode cX9_tangle 22 = .ok (.iconst 1, 1) := by decide +kernel
theorem dX9_tangle_23 : decode cX9_tangle 23 = .ok (.invokevirtual 196, 3) := by decide +kernel
theorem dX9_tangle_26 : decode cX9_tangle 26 = .ok (.ifCond .ne 68, 3) := by decide +kernel
theorem dX9_tangle_94 : decode cX9_tangle 94 = .ok (.iconst 0, 1) := by decide +kernel
theorem dX9_tangle_95 : decode cX9_tangle 95 = .ok (.ireturn, 1) := by decide +kernel
set_option maxRecDepth 20000 in
theorem ggX9_shake_X9_isNoThing : GoodIn wsX9_shake wsX9_isNoThing := goodIn_r _ [8, 1, 9, 10, 11, 12, 13, 14, 15, 16, 7, 17, 88, 89, 90, 91, 92, 93, 94, 95, 96, 97, 98, 99, 100, 101, 102, 113, 114, 115] (by decide +kernel) (by decide +kernel)
set_option maxRecDepth 20000 in
theorem gX9_shake_X9_isNoThing : GoodIn wsX9_shake (wsV RX9 221 RX9 yX9_isNoThing wsX9_isNoThing) := goodIn_app (goodIn_of _ (by decide +kernel)) ggX9_shake_X9_isNoThing
set_option maxRecDepth 20000 in
theorem ggX9_shake_X9_start : GoodIn wsX9_shake wsX9_start := goodIn_r _ [21, 22, 23, 24, 25, 7, 26, 88, 89, 90, 91, 92, 93, 94, 95, 96, 97, 98, 99, 100, 101, 102] (by decide +kernel) (by decide +kernel)
set_option maxRecDepth 20000 in
theorem gX9_shake_X9_start : GoodIn wsX9_shake (wsV RX9 196 RX9 yX9_start wsX9_start) := goodIn_app (goodIn_of _ (by decide +kernel)) ggX9_shake_X9_start
theorem dX9_shake_0 : decode cX9_shake 0 = .ok (.aload_n 0, 1) := by decide +kernel
theorem dX9_shake_1 : decode cX9_shake 1 = .ok (.aload_n 0, 1) := by decide +kernel
theorem dX9_shake_2 : decode cX9_shake 2 = .ok (.iload_n 1, 1) := by decide +kernel
theorem dX9_shake_3 : decode cX9_shake 3 = .ok (.invokevirtual 221, 3) := by decide +kernel
theorem dX9_shake_6 : decode cX9_shake 6 = .ok (.iconst 1, 1) := by decide +kernel
theorem dX9_shake_7 : decode cX9_shake 7 = .ok (.invokevirtual 196, 3) := by decide +kernel
theorem dX9_shake_10 : decode cX9_shake 10 = .ok (.ifCond .eq 5, 3) := by decide +kernel
theorem dX9_shake_13 : decode cX9_shake 13 = .ok (.iconst 0, 1) := by decide +kernel
theorem dX9_shake_14 : decode cX9_shake 14 = .ok (.ireturn, 1) := by decide +kernel
theorem dX9_person_0 : decode cX9_person 0 = .ok (.aload_n 0, 1) := by decide +kernel
theorem dX9_person_1 : decode cX9_person 1 = .ok (.iconst 0, 1) := by decide +kernel
theorem dX9_person_2 : decode cX9_person 2 = .ok (.putfield 22, 3) := by decide +kernel
theorem dX9_person_5 : decode cX9_person 5 = .ok (.aload_n 0, 1) := by decide +kernel
theorem dX9_person_6 : decode cX9_person 6 = .ok (.getfield 163, 3) := by decide +kernel
theorem dX9_person_9 : decode cX9_person 9 = .ok (.istore_n 3, 1) := by decide +kernel
theorem dX9_person_10 : decode cX9_person 10 = .ok (.aload_n 0, 1) := by decide +kernel
theorem dX9_person_11 : decode cX9_person 11 = .ok (.iload_n 1, 1) := by decide +kernel
theorem dX9_person_12 : decode cX9_person 12 = .ok (.putfield 163, 3) := by decide +kernel
theorem dX9_person_15 : decode cX9_person 15 = .ok (.aload_n 0, 1) := by decide +kernel
theorem dX9_person_16 : decode cX9_person 16 = .ok (.iload_n 2, 1) := by decide +kernel
theorem dX9_person_17 : decode cX9_person 17 = .ok (.putfield 191, 3) := by decide +kernel
theorem dX9_person_20 : decode cX9_person 20 = .ok (.iload_n 3, 1) := by decide +kernel
theorem dX9_person_21 : decode cX9_person 21 = .ok (.ireturn, 1) := by decide +kernel
set_option maxRecDepth 20000 in
theorem ggX9_isNoOrder_X9_isIn : GoodIn wsX9_isNoOrder wsX9_isIn := goodIn_r _ [6] (by decide +kernel) (by decide +kernel)
set_option maxRecDepth 20000 in
theorem gX9_isNoOrder_X9_isIn : GoodIn wsX9_isNoOrder (va_wsS RX9 34 yX9_isIn wsX9_isIn) := goodIn_app (goodIn_of _ (by decide +kernel)) ggX9_isNoOrder_X9_isIn
set_option maxRecDepth 20000 in
theorem ggX9_isNoOrder_Jx4a65c_size_8abf5 : GoodIn wsX9_isNoOrder wsJx4a65c_size_8abf5 := goodIn_r _ [11, 12, 28, 29, 30] (by decide +kernel) (by decide +kernel)
set_option maxRecDepth 20000 in
theorem gX9_isNoOrder_Jx4a65c_size_8abf5 : GoodIn wsX9_isNoOrder (wsV RX9 30 RJx4a65c yJx4a65c_size_8abf5 wsJx4a65c_size_8abf5) := goodIn_app (goodIn_of _ (by decide +kernel)) ggX9_isNoOrder_Jx4a65c_size_8abf5
theorem dX9_isNoOrder_0 : decode cX9_isNoOrder 0 = .ok (.iload_n 1, 1) := by decide +kernel
theorem dX9_isNoOrder_1 : decode cX9_isNoOrder 1 = .ok (.iconst 1, 1) := by decide +kernel
theorem dX9_isNoOrder_2 : decode cX9_isNoOrder 2 = .ok (.ldc 232, 2) := by decide +kernel
theorem dX9_isNoOrder_4 : decode cX9_isNoOrder 4 = .ok (.invokestatic 34, 3) := by decide +kernel
theorem dX9_isNoOrder_7 : decode cX9_isNoOrder 7 = .ok (.ifCond .ne 5, 3) := by decide +kernel
theorem dX9_isNoOrder_10 : decode cX9_isNoOrder 10 = .ok (.iconst 1, 1) := by decide +kernel
theorem dX9_isNoOrder_11 : decode cX9_isNoOrder 11 = .ok (.ireturn, 1) := by decide +kernel
theorem dX9_isNoOrder_12 : decode cX9_isNoOrder 12 = .ok (.iload_n 1, 1) := by decide +kernel
theorem dX9_isNoOrder_13 : decode cX9_isNoOrder 13 = .ok (.istore_n 2, 1) := by decide +kernel
theorem dX9_isNoOrder_14 : decode cX9_isNoOrder 14 = .ok (.iconst 0, 1) := by decide +kernel
theorem dX9_isNoOrder_15 : decode cX9_isNoOrder 15 = .ok (.istore_n 3, 1) := by decide +kernel
theorem dX9_isNoOrder_16 : decode cX9_isNoOrder 16 = .ok (.iload_n 3, 1) := by decide +kernel
theorem dX9_isNoOrder_17 : decode cX9_isNoOrder 17 = .ok (.aload_n 0, 1) := by decide +kernel
theorem dX9_isNoOrder_18 : decode cX9_isNoOrder 18 = .ok (.getfield 10, 3) := by decide +kernel
theorem dX9_isNoOrder_21 : decode cX9_isNoOrder 21 = .ok (.invokevirtual 30, 3) := by decide +kernel
theorem dX9_isNoOrder_24 : decode cX9_isNoOrder 24 = .ok (.if_icmp .ge 14, 3) := by decide +kernel
theorem dX9_isNoOrder_38 : decode cX9_isNoOrder 38 = .ok (.iload_n 2, 1) := by decide +kernel
theorem dX9_isNoOrder_39 : decode cX9_isNoOrder 39 = .ok (.ifCond .le 7, 3) := by decide +kernel
theorem dX9_isNoOrder_42 : decode cX9_isNoOrder 42 = .ok (.iconst 1, 1) := by decide +kernel
theorem dX9_isNoOrder_43 : decode cX9_isNoOrder 43 = .ok (.goto 4, 3) := by decide +kernel
theorem dX9_isNoOrder_47 : decode cX9_isNoOrder 47 = .ok (.ireturn, 1) := by decide +kernel
set_option maxRecDepth 20000 in
theorem ggX9_box_X9_isNoOrder : GoodIn wsX9_box wsX9_isNoOrder := goodIn_r _ [9, 10, 11, 12, 13, 8, 14, 15, 16, 17, 18, 19, 20, 108, 109, 110, 111, 112, 113, 114, 115, 116, 117, 118, 119, 120, 121, 122, 126, 127, 128] (by decide +kernel) (by decide +kernel)
set_option maxRecDepth 20000 in
theorem gX9_box_X9_isNoOrder : GoodIn wsX9_box (wsV RX9 233 RX9 yX9_isNoOrder wsX9_isNoOrder) := goodIn_app (goodIn_of _ (by decide +kernel)) ggX9_box_X9_isNoOrder
set_option maxRecDepth 20000 in
theorem ggX9_box_X9_start : GoodIn wsX9_box wsX9_start := goodIn_r _ [24, 25, 26, 27, 28, 8, 29, 108, 109, 110, 111, 112, 113, 114, 115, 116, 117, 118, 119, 120, 121, 122] (by decide +kernel) (by decide +kernel)
set_option maxRecDepth 20000 in
theorem gX9_box_X9_start : GoodIn wsX9_box (wsV RX9 196 RX9 yX9_start wsX9_start) := goodIn_app (goodIn_of _ (by decide +kernel)) ggX9_box_X9_start
theorem dX9_box_0 : decode cX9_box 0 = .ok (.aload_n 0, 1) := by decide +kernel
theorem dX9_box_1 : decode cX9_box 1 = .ok (.aload_n 0, 1) := by decide +kernel
theorem dX9_box_2 : decode cX9_box 2 = .ok (.iload_n 1, 1) := by decide +kernel
theorem dX9_box_3 : decode cX9_box 3 = .ok (.invokevirtual 233, 3) := by decide +kernel
theorem dX9_box_6 : decode cX9_box 6 = .ok (.iconst 1, 1) := by decide +kernel
theorem dX9_box_7 : decode cX9_box 7 = .ok (.invokevirtual 196, 3) := by decide +kernel
theorem dX9_box_10 : decode cX9_box 10 = .ok (.ifCond .ne 27, 3) := by decide +kernel
theorem dX9_box_37 : decode cX9_box 37 = .ok (.iconst 0, 1) := by decide +kernel
theorem dX9_box_38 : decode cX9_box 38 = .ok (.ireturn, 1) := by decide +kernel
set_option maxRecDepth 20000 in
theorem ggX9_pick_X9_isNoThing : GoodIn wsX9_pick wsX9_isNoThing := goodIn_r _ [20, 1, 21, 22, 23, 24, 25, 26, 27, 28, 19, 29, 246, 247, 248, 249, 250, 251, 252, 253, 254, 255, 256, 257, 258, 259, 260, 271, 272, 273] (by decide +kernel) (by decide +kernel)
set_option maxRecDepth 20000 in
theorem gX9_pick_X9_isNoThing : GoodIn wsX9_pick (wsV RX9 221 RX9 yX9_isNoThing wsX9_isNoThing) := goodIn_app (goodIn_of _ (by decide +kernel)) ggX9_pick_X9_isNoThing
set_option maxRecDepth 20000 in
theorem ggX9_pick_X9_start : GoodIn wsX9_pick wsX9_start := goodIn_r _ [33, 34, 35, 36, 37, 19, 38, 246, 247, 248, 249, 250, 251, 252, 253, 254, 255, 256, 257, 258, 259, 260] (by decide +kernel) (by decide +kernel)
set_option maxRecDepth 20000 in
theorem gX9_pick_X9_start : GoodIn wsX9_pick (wsV RX9 196 RX9 yX9_start wsX9_start) := goodIn_app (goodIn_of _ (by decide +kernel)) ggX9_pick_X9_start
theorem dX9_pick_0 : decode cX9_pick 0 = .ok (.aload_n 0, 1) := by decide +kernel
theorem dX9_pick_1 : decode cX9_pick 1 = .ok (.aload_n 0, 1) := by decide +kernel
theorem dX9_pick_2 : decode cX9_pick 2 = .ok (.iload_n 1, 1) := by decide +kernel
theorem dX9_pick_3 : decode cX9_pick 3 = .ok (.invokevirtual 221, 3) := by decide +kernel
theorem dX9_pick_6 : decode cX9_pick 6 = .ok (.iconst 1, 1) := by decide +kernel
theorem dX9_pick_7 : decode cX9_pick 7 = .ok (.invokevirtual 196, 3) := by decide +kernel
theorem dX9_pick_10 : decode cX9_pick 10 = .ok (.ifCond .ne 52, 3) := by decide +kernel
theorem dX9_pick_62 : decode cX9_pick 62 = .ok (.iconst 0, 1) := by decide +kernel
theorem dX9_pick_63 : decode cX9_pick 63 = .ok (.ireturn, 1) := by decide +kernel
set_option maxRecDepth 20000 in
theorem ggX9_put_X9_isNoBox : GoodIn wsX9_put wsX9_isNoBox := goodIn_r _ [15, 1, 16, 17, 18, 19, 20, 21, 22, 23, 14, 24, 130, 131, 132, 133, 134, 135, 136, 137, 138, 139, 140, 141, 142, 143, 144, 158, 159, 160] (by decide +kernel) (by decide +kernel)
set_option maxRecDepth 20000 in
theorem gX9_put_X9_isNoBox : GoodIn wsX9_put (wsV RX9 284 RX9 yX9_isNoBox wsX9_isNoBox) := goodIn_app (goodIn_of _ (by decide +kernel)) ggX9_put_X9_isNoBox
set_option maxRecDepth 20000 in
theorem ggX9_put_X9_start : GoodIn wsX9_put wsX9_start := goodIn_r _ [28, 29, 30, 31, 32, 14, 33, 130, 131, 132, 133, 134, 135, 136, 137, 138, 139, 140, 141, 142, 143, 144] (by decide +kernel) (by decide +kernel)
set_option maxRecDepth 20000 in
theorem gX9_put_X9_start : GoodIn wsX9_put (wsV RX9 196 RX9 yX9_start wsX9_start) := goodIn_app (goodIn_of _ (by decide +kernel)) ggX9_put_X9_start
theorem dX9_put_0 : decode cX9_put 0 = .ok (.aload_n 0, 1) := by decide +kernel
theorem dX9_put_1 : decode cX9_put 1 = .ok (.aload_n 0, 1) := by decide +kernel
theorem dX9_put_2 : decode cX9_put 2 = .ok (.iload_n 1, 1) := by decide +kernel
theorem dX9_put_3 : decode cX9_put 3 = .ok (.invokevirtual 284, 3) := by decide +kernel
theorem dX9_put_6 : decode cX9_put 6 = .ok (.iconst 1, 1) := by decide +kernel
theorem dX9_put_7 : decode cX9_put 7 = .ok (.invokevirtual 196, 3) := by decide +kernel
theorem dX9_put_10 : decode cX9_put 10 = .ok (.ifCond .ne 40, 3) := by decide +kernel
theorem dX9_put_50 : decode cX9_put 50 = .ok (.iconst 0, 1) := by decide +kernel
theorem dX9_put_51 : decode cX9_put 51 = .ok (.ireturn, 1) := by decide +kernel
set_option maxRecDepth 20000 in
theorem ggX9_back_X9_start : GoodIn wsX9_back wsX9_start := goodIn_r _ [7, 8, 9, 10, 11, 6, 12, 84, 85, 86, 87, 88, 89, 90, 91, 92, 93, 94, 95, 96, 97, 98] (by decide +kernel) (by decide +kernel)
set_option maxRecDepth 20000 in
theorem gX9_back_X9_start : GoodIn wsX9_back (wsV RX9 196 RX9 yX9_start wsX9_start) := goodIn_app (goodIn_of _ (by decide +kernel)) ggX9_back_X9_start
theorem dX9_back_0 : decode cX9_back 0 = .ok (.aload_n 0, 1) := by decide +kernel
theorem dX9_back_1 : decode cX9_back 1 = .ok (.aload_n 0, 1) := by decide +kernel
theorem dX9_back_2 : decode cX9_back 2 = .ok (.getfield 241, 3) := by decide +kernel
theorem dX9_back_5 : decode cX9_back 5 = .ok (.ifnonnull 7, 3) := by decide +kernel
theorem dX9_back_8 : decode cX9_back 8 = .ok (.iconst 1, 1) := by decide +kernel
theorem dX9_back_9 : decode cX9_back 9 = .ok (.goto 4, 3) := by decide +kernel
theorem dX9_back_13 : decode cX9_back 13 = .ok (.iconst 1, 1) := by decide +kernel
theorem dX9_back_14 : decode cX9_back 14 = .ok (.invokevirtual 196, 3) := by decide +kernel
theorem dX9_back_17 : decode cX9_back 17 = .ok (.ifCond .eq 5, 3) := by decide +kernel
theorem dX9_back_20 : decode cX9_back 20 = .ok (.iconst 0, 1) := by decide +kernel
theorem dX9_back_21 : decode cX9_back 21 = .ok (.ireturn, 1) := by decide +kernel
set_option maxRecDepth 20000 in
theorem ggX9_close_X9_isNoBox : GoodIn wsX9_close wsX9_isNoBox := goodIn_r _ [8, 1, 9, 10, 11, 12, 13, 14, 15, 16, 7, 17, 63, 64, 65, 66, 67, 68, 69, 70, 71, 72, 73, 74, 75, 76, 77, 81, 82, 83] (by decide +kernel) (by decide +kernel)
set_option maxRecDepth 20000 in
theorem gX9_close_X9_isNoBox : GoodIn wsX9_close (wsV RX9 284 RX9 yX9_isNoBox wsX9_isNoBox) := goodIn_app (goodIn_of _ (by decide +kernel)) ggX9_close_X9_isNoBox
set_option maxRecDepth 20000 in
theorem ggX9_close_X9_start : GoodIn wsX9_close wsX9_start := goodIn_r _ [21, 22, 23, 24, 25, 7, 26, 63, 64, 65, 66, 67, 68, 69, 70, 71, 72, 73, 74, 75, 76, 77] (by decide +kernel) (by decide +kernel)
set_option maxRecDepth 20000 in
theorem gX9_close_X9_start : GoodIn wsX9_close (wsV RX9 196 RX9 yX9_start wsX9_start) := goodIn_app (goodIn_of _ (by decide +kernel)) ggX9_close_X9_start
theorem dX9_close_0 : decode cX9_close 0 = .ok (.aload_n 0, 1) := by decide +kernel
theorem dX9_close_1 : decode cX9_close 1 = .ok (.aload_n 0, 1) := by decide +kernel
theorem dX9_close_2 : decode cX9_close 2 = .ok (.iload_n 1, 1) := by decide +kernel
theorem dX9_close_3 : decode cX9_close 3 = .ok (.invokevirtual 284, 3) := by decide +kernel
theorem dX9_close_6 : decode cX9_close 6 = .ok (.iconst 1, 1) := by decide +kernel
theorem dX9_close_7 : decode cX9_close 7 = .ok (.invokevirtual 196, 3) := by decide +kernel
theorem dX9_close_10 : decode cX9_close 10 = .ok (.ifCond .ne 33, 3) := by decide +kernel
theorem dX9_close_43 : decode cX9_close 43 = .ok (.iconst 0, 1) := by decide +kernel
theorem dX9_close_44 : decode cX9_close 44 = .ok (.ireturn, 1) := by decide +kernel
set_option maxRecDepth 20000 in
theorem ggX9_ofKind_X9_isNoKind : GoodIn wsX9_ofKind wsX9_isNoKind := goodIn_r _ [5, 6, 7, 8, 9, 10, 11, 12, 13, 14, 4, 15, 95, 96, 97, 98, 99, 100, 101, 102, 103, 104, 105, 106, 107, 108, 109, 110, 111, 112] (by decide +kernel) (by decide +kernel)
set_option maxRecDepth 20000 in
theorem gX9_ofKind_X9_isNoKind : GoodIn wsX9_ofKind (wsV RX9 206 RX9 yX9_isNoKind wsX9_isNoKind) := goodIn_app (goodIn_of _ (by decide +kernel)) ggX9_ofKind_X9_isNoKind
set_option maxRecDepth 20000 in
theorem ggX9_ofKind_X9_start : GoodIn wsX9_ofKind wsX9_start := goodIn_r _ [19, 20, 21, 22, 23, 4, 24, 95, 96, 97, 98, 99, 100, 101, 102, 103, 104, 105, 106, 107, 108, 109] (by decide +kernel) (by decide +kernel)
set_option maxRecDepth 20000 in
theorem gX9_ofKind_X9_start : GoodIn wsX9_ofKind (wsV RX9 196 RX9 yX9_start wsX9_start) := goodIn_app (goodIn_of _ (by decide +kernel)) ggX9_ofKind_X9_start
theorem dX9_ofKind_0 : decode cX9_ofKind 0 = .ok (.aload_n 0, 1) := by decide +kernel
theorem dX9_ofKind_1 : decode cX9_ofKind 1 = .ok (.aload_n 0, 1) := by decide +kernel
theorem dX9_ofKind_2 : decode cX9_ofKind 2 = .ok (.iload_n 1, 1) := by decide +kernel
theorem dX9_ofKind_3 : decode cX9_ofKind 3 = .ok (.invokevirtual 206, 3) := by decide +kernel
theorem dX9_ofKind_6 : decode cX9_ofKind 6 = .ok (.iconst 1, 1) := by decide +kernel
theorem dX9_ofKind_7 : decode cX9_ofKind 7 = .ok (.invokevirtual 196, 3) := by decide +kernel
theorem dX9_ofKind_10 : decode cX9_ofKind 10 = .ok (.ifCond .ne 26, 3) := by decide +kernel
theorem dX9_ofKind_36 : decode cX9_ofKind 36 = .ok (.iconst 0, 1) := by decide +kernel
theorem dX9_ofKind_37 : decode cX9_ofKind 37 = .ok (.goto 9, 3) := by decide +kernel
theorem dX9_ofKind_46 : decode cX9_ofKind 46 = .ok (.ireturn, 1) := by decide +kernel
set_option maxRecDepth 20000 in
theorem ggX9_ofThing_X9_isNoThing : GoodIn wsX9_ofThing wsX9_isNoThing := goodIn_r _ [7, 1, 8, 9, 10, 11, 12, 13, 14, 15, 6, 16, 145, 146, 147, 148, 149, 150, 151, 152, 153, 154, 155, 156, 157, 158, 159, 160, 161, 162] (by decide +kernel) (by decide +kernel)
set_option maxRecDepth 20000 in
theorem gX9_ofThing_X9_isNoThing : GoodIn wsX9_ofThing (wsV RX9 221 RX9 yX9_isNoThing wsX9_isNoThing) := goodIn_app (goodIn_of _ (by decide +kernel)) ggX9_ofThing_X9_isNoThing
set_option maxRecDepth 20000 in
theorem ggX9_ofThing_X9_start : GoodIn wsX9_ofThing wsX9_start := goodIn_r _ [20, 21, 22, 23, 24, 6, 25, 145, 146, 147, 148, 149, 150, 151, 152, 153, 154, 155, 156, 157, 158, 159] (by decide +kernel) (by decide +kernel)
set_option maxRecDepth 20000 in
theorem gX9_ofThing_X9_start : GoodIn wsX9_ofThing (wsV RX9 196 RX9 yX9_start wsX9_start) := goodIn_app (goodIn_of _ (by decide +kernel)) ggX9_ofThing_X9_start
theorem dX9_ofThing_0 : decode cX9_ofThing 0 = .ok (.aload_n 0, 1) := by decide +kernel
theorem dX9_ofThing_1 : decode cX9_ofThing 1 = .ok (.aload_n 0, 1) := by decide +kernel
theorem dX9_ofThing_2 : decode cX9_ofThing 2 = .ok (.iload_n 1, 1) := by decide +kernel
theorem dX9_ofThing_3 : decode cX9_ofThing 3 = .ok (.invokevirtual 221, 3) := by decide +kernel
theorem dX9_ofThing_6 : decode cX9_ofThing 6 = .ok (.iconst 1, 1) := by decide +kernel
theorem dX9_ofThing_7 : decode cX9_ofThing 7 = .ok (.invokevirtual 196, 3) := by decide +kernel
theorem dX9_ofThing_10 : decode cX9_ofThing 10 = .ok (.ifCond .ne 26, 3) := by decide +kernel
theorem dX9_ofThing_36 : decode cX9_ofThing 36 = .ok (.iconst 0, 1) := by decide +kernel
theorem dX9_ofThing_37 : decode cX9_ofThing 37 = .ok (.goto 19, 3) := by decide +kernel
theorem dX9_ofThing_56 : decode cX9_ofThing 56 = .ok (.ireturn, 1) := by decide +kernel
set_option maxRecDepth 20000 in
theorem ggX9_hinders_X9_isNoThing : GoodIn wsX9_hinders wsX9_isNoThing := goodIn_r _ [7, 1, 8, 9, 10, 11, 12, 13, 14, 15, 6, 16, 175, 176, 177, 178, 179, 180, 181, 182, 183, 184, 185, 186, 187, 188, 189, 190, 191, 192] (by decide +kernel) (by decide +kernel)
set_option maxRecDepth 20000 in
theorem gX9_hinders_X9_isNoThing : GoodIn wsX9_hinders (wsV RX9 221 RX9 yX9_isNoThing wsX9_isNoThing) := goodIn_app (goodIn_of _ (by decide +kernel)) ggX9_hinders_X9_isNoThing
set_option maxRecDepth 20000 in
theorem ggX9_hinders_X9_start : GoodIn wsX9_hinders wsX9_start := goodIn_r _ [20, 21, 22, 23, 24, 6, 25, 175, 176, 177, 178, 179, 180, 181, 182, 183, 184, 185, 186, 187, 188, 189] (by decide +kernel) (by decide +kernel)
set_option maxRecDepth 20000 in
theorem gX9_hinders_X9_start : GoodIn wsX9_hinders (wsV RX9 196 RX9 yX9_start wsX9_start) := goodIn_app (goodIn_of _ (by decide +kernel)) ggX9_hinders_X9_start
theorem dX9_hinders_0 : decode cX9_hinders 0 = .ok (.aload_n 0, 1) := by decide +kernel
theorem dX9_hinders_1 : decode cX9_hinders 1 = .ok (.aload_n 0, 1) := by decide +kernel
theorem dX9_hinders_2 : decode cX9_hinders 2 = .ok (.iload_n 1, 1) := by decide +kernel
theorem dX9_hinders_3 : decode cX9_hinders 3 = .ok (.invokevirtual 221, 3) := by decide +kernel
theorem dX9_hinders_6 : decode cX9_hinders 6 = .ok (.iconst 1, 1) := by decide +kernel
theorem dX9_hinders_7 : decode cX9_hinders 7 = .ok (.invokevirtual 196, 3) := by decide +kernel
theorem dX9_hinders_10 : decode cX9_hinders 10 = .ok (.ifCond .ne 15, 3) := by decide +kernel
theorem dX9_hinders_25 : decode cX9_hinders 25 = .ok (.iconst 0, 1) := by decide +kernel
theorem dX9_hinders_26 : decode cX9_hinders 26 = .ok (.goto 19, 3) := by decide +kernel
theorem dX9_hinders_45 : decode cX9_hinders 45 = .ok (.ireturn, 1) := by decide +kernel
set_option maxRecDepth 20000 in
theorem ggX9_force_X9_isNoThing : GoodIn wsX9_force wsX9_isNoThing := goodIn_r _ [7, 1, 8, 9, 10, 11, 12, 13, 14, 15, 6, 16, 144, 145, 146, 147, 148, 149, 150, 151, 152, 153, 154, 155, 156, 157, 158, 159, 160, 161] (by decide +kernel) (by decide +kernel)
set_option maxRecDepth 20000 in
theorem gX9_force_X9_isNoThing : GoodIn wsX9_force (wsV RX9 221 RX9 yX9_isNoThing wsX9_isNoThing) := goodIn_app (goodIn_of _ (by decide +kernel)) ggX9_force_X9_isNoThing
set_option maxRecDepth 20000 in
theorem ggX9_force_X9_start : GoodIn wsX9_force wsX9_start := goodIn_r _ [20, 21, 22, 23, 24, 6, 25, 144, 145, 146, 147, 148, 149, 150, 151, 152, 153, 154, 155, 156, 157, 158] (by decide +kernel) (by decide +kernel)
set_option maxRecDepth 20000 in
theorem gX9_force_X9_start : GoodIn wsX9_force (wsV RX9 196 RX9 yX9_start wsX9_start) := goodIn_app (goodIn_of _ (by decide +kernel)) ggX9_force_X9_start
theorem dX9_force_0 : decode cX9_force 0 = .ok (.aload_n 0, 1) := by decide +kernel
theorem dX9_force_1 : decode cX9_force 1 = .ok (.aload_n 0, 1) := by decide +kernel
theorem dX9_force_2 : decode cX9_force 2 = .ok (.iload_n 1, 1) := by decide +kernel
theorem dX9_force_3 : decode cX9_force 3 = .ok (.invokevirtual 221, 3) := by decide +kernel
theorem dX9_force_6 : decode cX9_force 6 = .ok (.iconst 1, 1) := by decide +kernel
theorem dX9_force_7 : decode cX9_force 7 = .ok (.invokevirtual 196, 3) := by decide +kernel
theorem dX9_force_10 : decode cX9_force 10 = .ok (.ifCond .ne 32, 3) := by decide +kernel
theorem dX9_force_42 : decode cX9_force 42 = .ok (.dconst 0, 1) := by decide +kernel
theorem dX9_force_43 : decode cX9_force 43 = .ok (.dreturn, 1) := by decide +kernel
set_option maxRecDepth 20000 in
theorem ggX9_ticks_X9_isNoThing : GoodIn wsX9_ticks wsX9_isNoThing := goodIn_r _ [8, 1, 9, 10, 11, 12, 13, 14, 15, 16, 7, 17, 91, 92, 93, 94, 95, 96, 97, 98, 99, 100, 101, 102, 103, 104, 105, 106, 107, 108] (by decide +kernel) (by decide +kernel)
set_option maxRecDepth 20000 in
theorem gX9_ticks_X9_isNoThing : GoodIn wsX9_ticks (wsV RX9 221 RX9 yX9_isNoThing wsX9_isNoThing) := goodIn_app (goodIn_of _ (by decide +kernel)) ggX9_ticks_X9_isNoThing
set_option maxRecDepth 20000 in
theorem ggX9_ticks_X9_start : GoodIn wsX9_ticks wsX9_start := goodIn_r _ [21, 22, 23, 24, 25, 7, 26, 91, 92, 93, 94, 95, 96, 97, 98, 99, 100, 101, 102, 103, 104, 105] (by decide +kernel) (by decide +kernel)
set_option maxRecDepth 20000 in
theorem gX9_ticks_X9_start : GoodIn wsX9_ticks (wsV RX9 196 RX9 yX9_start wsX9_start) := goodIn_app (goodIn_of _ (by decide +kernel)) ggX9_ticks_X9_start
theorem dX9_ticks_0 : decode cX9_ticks 0 = .ok (.aload_n 0, 1) := by decide +kernel
theorem dX9_ticks_1 : decode cX9_ticks 1 = .ok (.aload_n 0, 1) := by decide +kernel
theorem dX9_ticks_2 : decode cX9_ticks 2 = .ok (.iload_n 1, 1) := by decide +kernel
theorem dX9_ticks_3 : decode cX9_ticks 3 = .ok (.invokevirtual 221, 3) := by decide +kernel
theorem dX9_ticks_6 : decode cX9_ticks 6 = .ok (.iconst 1, 1) := by decide +kernel
theorem dX9_ticks_7 : decode cX9_ticks 7 = .ok (.invokevirtual 196, 3) := by decide +kernel
theorem dX9_ticks_10 : decode cX9_ticks 10 = .ok (.ifCond .ne 15, 3) := by decide +kernel
theorem dX9_ticks_25 : decode cX9_ticks 25 = .ok (.dconst 0, 1) := by decide +kernel
theorem dX9_ticks_26 : decode cX9_ticks 26 = .ok (.dreturn, 1) := by decide +kernel
theorem dX9_clock_0 : decode cX9_clock 0 = .ok (.aload_n 0, 1) := by decide +kernel
theorem dX9_clock_1 : decode cX9_clock 1 = .ok (.iconst 0, 1) := by decide +kernel
theorem dX9_clock_2 : decode cX9_clock 2 = .ok (.putfield 22, 3) := by decide +kernel
theorem dX9_clock_5 : decode cX9_clock 5 = .ok (.aload_n 0, 1) := by decide +kernel
theorem dX9_clock_6 : decode cX9_clock 6 = .ok (.getfield 252, 3) := by decide +kernel
theorem dX9_clock_9 : decode cX9_clock 9 = .ok (.dreturn, 1) := by decide +kernel
set_option maxRecDepth 20000 in
theorem ggX9_seen_X9_isIn : GoodIn wsX9_seen wsX9_isIn := goodIn_r _ [5] (by decide +kernel) (by decide +kernel)
set_option maxRecDepth 20000 in
theorem gX9_seen_X9_isIn : GoodIn wsX9_seen (va_wsS RX9 34 yX9_isIn wsX9_isIn) := goodIn_app (goodIn_of _ (by decide +kernel)) ggX9_seen_X9_isIn
set_option maxRecDepth 20000 in
theorem ggX9_seen_X9_start : GoodIn wsX9_seen wsX9_start := goodIn_r _ [9, 10, 11, 12, 13, 4, 14, 93, 94, 95, 96, 97, 98, 99, 100, 101, 102, 103, 104, 105, 106, 107] (by decide +kernel) (by decide +kernel)
set_option maxRecDepth 20000 in
theorem gX9_seen_X9_start : GoodIn wsX9_seen (wsV RX9 196 RX9 yX9_start wsX9_start) := goodIn_app (goodIn_of _ (by decide +kernel)) ggX9_seen_X9_start
set_option maxRecDepth 20000 in
theorem ggX9_seen_X9_seenAt : GoodIn wsX9_seen wsX9_seenAt := goodIn_r _ [18, 19, 20, 21, 4, 22, 23, 24, 25, 26, 27, 28, 29, 30, 31, 32, 33, 34, 35, 36, 37, 38, 39, 40, 41, 42, 43, 44, 45, 46, 47, 48, 49, 50, 51, 52, 53, 54, 55, 56, 57, 58, 59, 60, 61, 62, 63, 64, 65, 66, 67, 68, 69, 70, 71, 72, 3, 5, 73, 74, 75, 76, 77, 78, 79, 80, 81, 82, 93, 94, 95, 96, 97, 98, 99, 100, 101, 102, 103, 104, 105, 106, 107, 108, 109, 110, 111, 112, 113, 114, 83, 84, 85, 86, 87, 88, 89, 90, 91, 92, 115, 116, 117, 118, 119, 120] (by decide +kernel) (by decide +kernel)
set_option maxRecDepth 20000 in
theorem gX9_seen_X9_seenAt : GoodIn wsX9_seen (wsV RX9 118 RX9 yX9_seenAt wsX9_seenAt) := goodIn_app (goodIn_of _ (by decide +kernel)) ggX9_seen_X9_seenAt
theorem dX9_seen_0 : decode cX9_seen 0 = .ok (.aload_n 0, 1) := by decide +kernel
theorem dX9_seen_1 : decode cX9_seen 1 = .ok (.iload_n 1, 1) := by decide +kernel
theorem dX9_seen_2 : decode cX9_seen 2 = .ok (.iconst 0, 1) := by decide +kernel
theorem dX9_seen_3 : decode cX9_seen 3 = .ok (.iconst 5, 1) := by decide +kernel
theorem dX9_seen_4 : decode cX9_seen 4 = .ok (.invokestatic 34, 3) := by decide +kernel
theorem dX9_seen_7 : decode cX9_seen 7 = .ok (.ifCond .eq 12, 3) := by decide +kernel
theorem dX9_seen_10 : decode cX9_seen 10 = .ok (.iload_n 2, 1) := by decide +kernel
theorem dX9_seen_11 : decode cX9_seen 11 = .ok (.iconst 0, 1) := by decide +kernel
theorem dX9_seen_12 : decode cX9_seen 12 = .ok (.iconst 5, 1) := by decide +kernel
theorem dX9_seen_13 : decode cX9_seen 13 = .ok (.invokestatic 34, 3) := by decide +kernel
theorem dX9_seen_16 : decode cX9_seen 16 = .ok (.ifCond .ne 7, 3) := by decide +kernel
theorem dX9_seen_19 : decode cX9_seen 19 = .ok (.iconst 1, 1) := by decide +kernel
theorem dX9_seen_20 : decode cX9_seen 20 = .ok (.goto 4, 3) := by decide +kernel
theorem dX9_seen_23 : decode cX9_seen 23 = .ok (.iconst 0, 1) := by decide +kernel
theorem dX9_seen_24 : decode cX9_seen 24 = .ok (.iconst 1, 1) := by decide +kernel
theorem dX9_seen_25 : decode cX9_seen 25 = .ok (.invokevirtual 196, 3) := by decide +kernel
theorem dX9_seen_28 : decode cX9_seen 28 = .ok (.ifCond .eq 5, 3) := by decide +kernel
theorem dX9_seen_31 : decode cX9_seen 31 = .ok (.iconst 0, 1) := by decide +kernel
theorem dX9_seen_32 : decode cX9_seen 32 = .ok (.ireturn, 1) := by decide +kernel
theorem dX9_seen_33 : decode cX9_seen 33 = .ok (.aload_n 0, 1) := by decide +kernel
theorem dX9_seen_34 : decode cX9_seen 34 = .ok (.iload_n 1, 1) := by decide +kernel
theorem dX9_seen_35 : decode cX9_seen 35 = .ok (.iload_n 2, 1) := by decide +kernel
theorem dX9_seen_36 : decode cX9_seen 36 = .ok (.invokevirtual 118, 3) := by decide +kernel
theorem dX9_seen_39 : decode cX9_seen 39 = .ok (.astore_n 3, 1) := by decide +kernel
theorem dX9_seen_40 : decode cX9_seen 40 = .ok (.aload_n 3, 1) := by decide +kernel
theorem dX9_seen_41 : decode cX9_seen 41 = .ok (.ifnonnull 7, 3) := by decide +kernel
theorem dX9_seen_44 : decode cX9_seen 44 = .ok (.iconst (-1), 1) := by decide +kernel
theorem dX9_seen_45 : decode cX9_seen 45 = .ok (.goto 7, 3) := by decide +kernel
theorem dX9_seen_52 : decode cX9_seen 52 = .ok (.ireturn, 1) := by decide +kernel
set_option maxRecDepth 20000 in
theorem ggX9_ofBox_X9_isNoBox : GoodIn wsX9_ofBox wsX9_isNoBox := goodIn_r _ [7, 1, 8, 9, 10, 11, 12, 13, 14, 15, 6, 16, 78, 79, 80, 81, 82, 83, 84, 85, 86, 87, 88, 89, 90, 91, 92, 93, 94, 95] (by decide +kernel) (by decide +kernel)
set_option maxRecDepth 20000 in
theorem gX9_ofBox_X9_isNoBox : GoodIn wsX9_ofBox (wsV RX9 284 RX9 yX9_isNoBox wsX9_isNoBox) := goodIn_app (goodIn_of _ (by decide +kernel)) ggX9_ofBox_X9_isNoBox
set_option maxRecDepth 20000 in
theorem ggX9_ofBox_X9_start : GoodIn wsX9_ofBox wsX9_start := goodIn_r _ [20, 21, 22, 23, 24, 6, 25, 78, 79, 80, 81, 82, 83, 84, 85, 86, 87, 88, 89, 90, 91, 92] (by decide +kernel) (by decide +kernel)
set_option maxRecDepth 20000 in
theorem gX9_ofBox_X9_start : GoodIn wsX9_ofBox (wsV RX9 196 RX9 yX9_start wsX9_start) := goodIn_app (goodIn_of _ (by decide +kernel)) ggX9_ofBox_X9_start
theorem dX9_ofBox_0 : decode cX9_ofBox 0 = .ok (.aload_n 0, 1) := by decide +kernel
theorem dX9_ofBox_1 : decode cX9_ofBox 1 = .ok (.aload_n 0, 1) := by decide +kernel
theorem dX9_ofBox_2 : decode cX9_ofBox 2 = .ok (.iload_n 1, 1) := by decide +kernel
theorem dX9_ofBox_3 : decode cX9_ofBox 3 = .ok (.invokevirtual 284, 3) := by decide +kernel
theorem dX9_ofBox_6 : decode cX9_ofBox 6 = .ok (.iconst 1, 1) := by decide +kernel
theorem dX9_ofBox_7 : decode cX9_ofBox 7 = .ok (.invokevirtual 196, 3) := by decide +kernel
theorem dX9_ofBox_10 : decode cX9_ofBox 10 = .ok (.ifCond .ne 25, 3) := by decide +kernel
theorem dX9_ofBox_35 : decode cX9_ofBox 35 = .ok (.iconst 0, 1) := by decide +kernel
theorem dX9_ofBox_36 : decode cX9_ofBox 36 = .ok (.goto 19, 3) := by decide +kernel
theorem dX9_ofBox_55 : decode cX9_ofBox 55 = .ok (.ireturn, 1) := by decide +kernel
set_option maxRecDepth 20000 in
theorem ggX9_inBin_Jx4a65c_iterator_32c93 : GoodIn wsX9_inBin wsJx4a65c_iterator_32c93 := goodIn_r _ [7, 8, 9, 10, 11, 12, 13, 14, 15, 16, 17, 18, 19, 20, 21, 57, 58, 59, 60, 61, 62, 63] (by decide +kernel) (by decide +kernel)
set_option maxRecDepth 20000 in
theorem gX9_inBin_Jx4a65c_iterator_32c93 : GoodIn wsX9_inBin (wsV RX9 38 RJx4a65c yJx4a65c_iterator_32c93 wsJx4a65c_iterator_32c93) := goodIn_app (goodIn_of _ (by decide +kernel)) ggX9_inBin_Jx4a65c_iterator_32c93
set_option maxRecDepth 20000 in
theorem ggX9_inBin_Jx35411_hasNext_aae02 : GoodIn wsX9_inBin wsJx35411_hasNext_aae02 := goodIn_r _ [25, 26, 14, 57, 58, 59, 60, 61, 62, 63] (by decide +kernel) (by decide +kernel)
set_option maxRecDepth 20000 in
theorem gX9_inBin_Jx35411_hasNext_aae02_f42Jx35411 : GoodIn wsX9_inBin (va_wsF RX9 42 RJx35411 ⟨"java/util/Iterator", "hasNext", "()Z"⟩ yJx35411_hasNext_aae02 wsJx35411_hasNext_aae02) := goodIn_app (goodIn_of _ (by decide +kernel)) ggX9_inBin_Jx35411_hasNext_aae02
theorem dX9_inBin_0 : decode cX9_inBin 0 = .ok (.iconst 0, 1) := by decide +kernel
theorem dX9_inBin_1 : decode cX9_inBin 1 = .ok (.istore_n 1, 1) := by decide +kernel
theorem dX9_inBin_2 : decode cX9_inBin 2 = .ok (.aload_n 0, 1) := by decide +kernel
theorem dX9_inBin_3 : decode cX9_inBin 3 = .ok (.getfield 16, 3) := by decide +kernel
theorem dX9_inBin_6 : decode cX9_inBin 6 = .ok (.invokevirtual 38, 3) := by decide +kernel
theorem dX9_inBin_9 : decode cX9_inBin 9 = .ok (.astore_n 2, 1) := by decide +kernel
theorem dX9_inBin_10 : decode cX9_inBin 10 = .ok (.aload_n 2, 1) := by decide +kernel
theorem dX9_inBin_11 : decode cX9_inBin 11 = .ok (.invokeinterface 42 1, 5) := by decide +kernel
theorem dX9_inBin_16 : decode cX9_inBin 16 = .ok (.ifCond .eq 31, 3) := by decide +kernel
theorem dX9_inBin_47 : decode cX9_inBin 47 = .ok (.iload_n 1, 1) := by decide +kernel
theorem dX9_inBin_48 : decode cX9_inBin 48 = .ok (.ireturn, 1) := by decide +kernel
set_option maxRecDepth 20000 in
theorem ggX9_full_Jx4a65c_iterator_32c93 : GoodIn wsX9_full wsJx4a65c_iterator_32c93 := goodIn_r _ [7, 8, 9, 10, 11, 12, 13, 14, 15, 16, 17, 18, 19, 20, 21, 90, 91, 92, 93, 94, 95, 96] (by decide +kernel) (by decide +kernel)
set_option maxRecDepth 20000 in
theorem gX9_full_Jx4a65c_iterator_32c93 : GoodIn wsX9_full (wsV RX9 38 RJx4a65c yJx4a65c_iterator_32c93 wsJx4a65c_iterator_32c93) := goodIn_app (goodIn_of _ (by decide +kernel)) ggX9_full_Jx4a65c_iterator_32c93
set_option maxRecDepth 20000 in
theorem ggX9_full_Jx35411_hasNext_aae02 : GoodIn wsX9_full wsJx35411_hasNext_aae02 := goodIn_r _ [25, 26, 14, 90, 91, 92, 93, 94, 95, 96] (by decide +kernel) (by decide +kernel)
set_option maxRecDepth 20000 in
theorem gX9_full_Jx35411_hasNext_aae02_f42Jx35411 : GoodIn wsX9_full (va_wsF RX9 42 RJx35411 ⟨"java/util/Iterator", "hasNext", "()Z"⟩ yJx35411_hasNext_aae02 wsJx35411_hasNext_aae02) := goodIn_app (goodIn_of _ (by decide +kernel)) ggX9_full_Jx35411_hasNext_aae02
theorem dX9_full_0 : decode cX9_full 0 = .ok (.iconst 0, 1) := by decide +kernel
theorem dX9_full_1 : decode cX9_full 1 = .ok (.istore_n 1, 1) := by decide +kernel
theorem dX9_full_2 : decode cX9_full 2 = .ok (.aload_n 0, 1) := by decide +kernel
theorem dX9_full_3 : decode cX9_full 3 = .ok (.getfield 19, 3) := by decide +kernel
theorem dX9_full_6 : decode cX9_full 6 = .ok (.invokevirtual 38, 3) := by decide +kernel
theorem dX9_full_9 : decode cX9_full 9 = .ok (.astore_n 2, 1) := by decide +kernel
theorem dX9_full_10 : decode cX9_full 10 = .ok (.aload_n 2, 1) := by decide +kernel
theorem dX9_full_11 : decode cX9_full 11 = .ok (.invokeinterface 42 1, 5) := by decide +kernel
theorem dX9_full_16 : decode cX9_full 16 = .ok (.ifCond .eq 31, 3) := by decide +kernel
theorem dX9_full_47 : decode cX9_full 47 = .ok (.iload_n 1, 1) := by decide +kernel
theorem dX9_full_48 : decode cX9_full 48 = .ok (.ireturn, 1) := by decide +kernel
set_option maxRecDepth 20000 in
theorem ggX9_highest_Jx4a65c_iterator_32c93 : GoodIn wsX9_highest wsJx4a65c_iterator_32c93 := goodIn_r _ [11, 12, 13, 14, 15, 16, 17, 18, 19, 20, 21, 22, 23, 24, 25, 68, 69, 70, 71, 72, 73, 74] (by decide +kernel) (by decide +kernel)
set_option maxRecDepth 20000 in
theorem gX9_highest_Jx4a65c_iterator_32c93 : GoodIn wsX9_highest (wsV RX9 38 RJx4a65c yJx4a65c_iterator_32c93 wsJx4a65c_iterator_32c93) := goodIn_app (goodIn_of _ (by decide +kernel)) ggX9_highest_Jx4a65c_iterator_32c93
set_option maxRecDepth 20000 in
theorem ggX9_highest_Jx35411_hasNext_aae02 : GoodIn wsX9_highest wsJx35411_hasNext_aae02 := goodIn_r _ [29, 30, 18, 68, 69, 70, 71, 72, 73, 74] (by decide +kernel) (by decide +kernel)
set_option maxRecDepth 20000 in
theorem gX9_highest_Jx35411_hasNext_aae02_f42Jx35411 : GoodIn wsX9_highest (va_wsF RX9 42 RJx35411 ⟨"java/util/Iterator", "hasNext", "()Z"⟩ yJx35411_hasNext_aae02 wsJx35411_hasNext_aae02) := goodIn_app (goodIn_of _ (by decide +kernel)) ggX9_highest_Jx35411_hasNext_aae02
theorem dX9_highest_0 : decode cX9_highest 0 = .ok (.iconst 0, 1) := by decide +kernel
theorem dX9_highest_1 : decode cX9_highest 1 = .ok (.istore_n 1, 1) := by decide +kernel
theorem dX9_highest_2 : decode cX9_highest 2 = .ok (.aload_n 0, 1) := by decide +kernel
theorem dX9_highest_3 : decode cX9_highest 3 = .ok (.getfield 16, 3) := by decide +kernel
theorem dX9_highest_6 : decode cX9_highest 6 = .ok (.invokevirtual 38, 3) := by decide +kernel
theorem dX9_highest_9 : decode cX9_highest 9 = .ok (.astore_n 2, 1) := by decide +kernel
theorem dX9_highest_10 : decode cX9_highest 10 = .ok (.aload_n 2, 1) := by decide +kernel
theorem dX9_highest_11 : decode cX9_highest 11 = .ok (.invokeinterface 42 1, 5) := by decide +kernel
theorem dX9_highest_16 : decode cX9_highest 16 = .ok (.ifCond .eq 32, 3) := by decide +kernel
theorem dX9_highest_48 : decode cX9_highest 48 = .ok (.iload_n 1, 1) := by decide +kernel
theorem dX9_highest_49 : decode cX9_highest 49 = .ok (.ireturn, 1) := by decide +kernel
set_option maxRecDepth 20000 in
theorem ggX9_manyNow_Jx4a65c_size_8abf5 : GoodIn wsX9_manyNow wsJx4a65c_size_8abf5 := goodIn_r _ [17, 18, 143, 144, 145] (by decide +kernel) (by decide +kernel)
set_option maxRecDepth 20000 in
theorem gX9_manyNow_Jx4a65c_size_8abf5 : GoodIn wsX9_manyNow (wsV RX9 30 RJx4a65c yJx4a65c_size_8abf5 wsJx4a65c_size_8abf5) := goodIn_app (goodIn_of _ (by decide +kernel)) ggX9_manyNow_Jx4a65c_size_8abf5
set_option maxRecDepth 20000 in
theorem ggX9_manyNow_X9_inBin : GoodIn wsX9_manyNow wsX9_inBin := goodIn_r _ [23, 3, 24, 25, 26, 27, 16, 28, 29, 30, 31, 32, 33, 34, 35, 36, 37, 38, 39, 40, 41, 42, 43, 44, 45, 46, 47, 48, 49, 50, 51, 52, 53, 54, 55, 56, 57, 58, 59, 60, 61, 62, 118, 119, 120, 121, 122, 123, 124, 125, 126, 127, 128, 129, 130, 131, 132, 146, 147, 148, 149, 143, 144, 145, 133, 134, 135, 136, 137, 138, 139, 140, 141, 142] (by decide +kernel) (by decide +kernel)
set_option maxRecDepth 20000 in
theorem gX9_manyNow_X9_inBin : GoodIn wsX9_manyNow (wsV RX9 325 RX9 yX9_inBin wsX9_inBin) := goodIn_app (goodIn_of _ (by decide +kernel)) ggX9_manyNow_X9_inBin
set_option maxRecDepth 20000 in
theorem ggX9_manyNow_X9_full : GoodIn wsX9_manyNow wsX9_full := goodIn_r _ [66, 4, 67, 25, 26, 27, 16, 28, 29, 30, 31, 32, 33, 34, 35, 36, 37, 38, 39, 40, 41, 42, 43, 44, 45, 46, 47, 48, 49, 50, 51, 52, 53, 54, 55, 56, 68, 69, 70, 71, 72, 73, 74, 75, 76, 77, 78, 79, 80, 81, 82, 83, 84, 85, 14, 15, 17, 18, 86, 87, 88, 89, 90, 91, 92, 93, 94, 95, 96, 97, 98, 99, 100, 101, 102, 118, 119, 120, 121, 122, 123, 124, 125, 126, 127, 128, 129, 130, 131, 132, 146, 147, 148, 149, 143, 144, 145, 150, 151, 152, 133, 134, 135, 136, 137, 138, 139, 140, 141, 142] (by decide +kernel) (by decide +kernel)
set_option maxRecDepth 20000 in
theorem gX9_manyNow_X9_full : GoodIn wsX9_manyNow (wsV RX9 328 RX9 yX9_full wsX9_full) := goodIn_app (goodIn_of _ (by decide +kernel)) ggX9_manyNow_X9_full
set_option maxRecDepth 20000 in
theorem ggX9_manyNow_X9_highest : GoodIn wsX9_manyNow wsX9_highest := goodIn_r _ [106, 3, 24, 107, 108, 109, 110, 25, 26, 27, 16, 28, 29, 30, 31, 32, 33, 34, 35, 36, 37, 38, 39, 40, 41, 42, 43, 44, 45, 46, 47, 48, 49, 50, 51, 52, 53, 54, 55, 56, 57, 58, 59, 60, 61, 62, 111, 112, 113, 114, 115, 116, 117, 118, 119, 120, 121, 122, 123, 124, 125, 126, 127, 128, 129, 130, 131, 132, 146, 147, 148, 149, 143, 144, 145, 133, 134, 135, 136, 137, 138, 139, 140, 141, 142, 153, 154, 155, 156, 157, 158] (by decide +kernel) (by decide +kernel)
set_option maxRecDepth 20000 in
theorem gX9_manyNow_X9_highest : GoodIn wsX9_manyNow (wsV RX9 331 RX9 yX9_highest wsX9_highest) := goodIn_app (goodIn_of _ (by decide +kernel)) ggX9_manyNow_X9_highest
theorem dX9_manyNow_0 : decode cX9_manyNow 0 = .ok (.bipush 13, 2) := by decide +kernel
theorem dX9_manyNow_2 : decode cX9_manyNow 2 = .ok (.newarray .int, 2) := by decide +kernel
theorem dX9_manyNow_4 : decode cX9_manyNow 4 = .ok (.dup, 1) := by decide +kernel
theorem dX9_manyNow_5 : decode cX9_manyNow 5 = .ok (.iconst 0, 1) := by decide +kernel
theorem dX9_manyNow_6 : decode cX9_manyNow 6 = .ok (.aload_n 0, 1) := by decide +kernel
theorem dX9_manyNow_7 : decode cX9_manyNow 7 = .ok (.getfield 10, 3) := by decide +kernel
theorem dX9_manyNow_10 : decode cX9_manyNow 10 = .ok (.invokevirtual 30, 3) := by decide +kernel
theorem dX9_manyNow_13 : decode cX9_manyNow 13 = .ok (.iastore, 1) := by decide +kernel
theorem dX9_manyNow_14 : decode cX9_manyNow 14 = .ok (.dup, 1) := by decide +kernel
theorem dX9_manyNow_15 : decode cX9_manyNow 15 = .ok (.iconst 1, 1) := by decide +kernel
theorem dX9_manyNow_16 : decode cX9_manyNow 16 = .ok (.aload_n 0, 1) := by decide +kernel
theorem dX9_manyNow_17 : decode cX9_manyNow 17 = .ok (.getfield 16, 3) := by decide +kernel
theorem dX9_manyNow_20 : decode cX9_manyNow 20 = .ok (.invokevirtual 30, 3) := by decide +kernel
theorem dX9_manyNow_23 : decode cX9_manyNow 23 = .ok (.iastore, 1) := by decide +kernel
theorem dX9_manyNow_24 : decode cX9_manyNow 24 = .ok (.dup, 1) := by decide +kernel
theorem dX9_manyNow_25 : decode cX9_manyNow 25 = .ok (.iconst 2, 1) := by decide +kernel
theorem dX9_manyNow_26 : decode cX9_manyNow 26 = .ok (.aload_n 0, 1) := by decide +kernel
theorem dX9_manyNow_27 : decode cX9_manyNow 27 = .ok (.invokevirtual 325, 3) := by decide +kernel
theorem dX9_manyNow_30 : decode cX9_manyNow 30 = .ok (.iastore, 1) := by decide +kernel
theorem dX9_manyNow_31 : decode cX9_manyNow 31 = .ok (.dup, 1) := by decide +kernel
theorem dX9_manyNow_32 : decode cX9_manyNow 32 = .ok (.iconst 3, 1) := by decide +kernel
theorem dX9_manyNow_33 : decode cX9_manyNow 33 = .ok (.aload_n 0, 1) := by decide +kernel
theorem dX9_manyNow_34 : decode cX9_manyNow 34 = .ok (.getfield 19, 3) := by decide +kernel
theorem dX9_manyNow_37 : decode cX9_manyNow 37 = .ok (.invokevirtual 30, 3) := by decide +kernel
theorem dX9_manyNow_40 : decode cX9_manyNow 40 = .ok (.iastore, 1) := by decide +kernel
theorem dX9_manyNow_41 : decode cX9_manyNow 41 = .ok (.dup, 1) := by decide +kernel
theorem dX9_manyNow_42 : decode cX9_manyNow 42 = .ok (.iconst 4, 1) := by decide +kernel
theorem dX9_manyNow_43 : decode cX9_manyNow 43 = .ok (.aload_n 0, 1) := by decide +kernel
theorem dX9_manyNow_44 : decode cX9_manyNow 44 = .ok (.invokevirtual 328, 3) := by decide +kernel
theorem dX9_manyNow_47 : decode cX9_manyNow 47 = .ok (.iastore, 1) := by decide +kernel
theorem dX9_manyNow_48 : decode cX9_manyNow 48 = .ok (.dup, 1) := by decide +kernel
theorem dX9_manyNow_49 : decode cX9_manyNow 49 = .ok (.iconst 5, 1) := by decide +kernel
theorem dX9_manyNow_50 : decode cX9_manyNow 50 = .ok (.aload_n 0, 1) := by decide +kernel
theorem dX9_manyNow_51 : decode cX9_manyNow 51 = .ok (.getfield 241, 3) := by decide +kernel
theorem dX9_manyNow_54 : decode cX9_manyNow 54 = .ok (.ifnonnull 7, 3) := by decide +kernel
theorem dX9_manyNow_57 : decode cX9_manyNow 57 = .ok (.iconst (-1), 1) := by decide +kernel
theorem dX9_manyNow_58 : decode cX9_manyNow 58 = .ok (.goto 10, 3) := by decide +kernel
theorem dX9_manyNow_68 : decode cX9_manyNow 68 = .ok (.iastore, 1) := by decide +kernel
theorem dX9_manyNow_69 : decode cX9_manyNow 69 = .ok (.dup, 1) := by decide +kernel
theorem dX9_manyNow_70 : decode cX9_manyNow 70 = .ok (.bipush 6, 2) := by decide +kernel
theorem dX9_manyNow_72 : decode cX9_manyNow 72 = .ok (.aload_n 0, 1) := by decide +kernel
theorem dX9_manyNow_73 : decode cX9_manyNow 73 = .ok (.getfield 186, 3) := by decide +kernel
theorem dX9_manyNow_76 : decode cX9_manyNow 76 = .ok (.iastore, 1) := by decide +kernel
theorem dX9_manyNow_77 : decode cX9_manyNow 77 = .ok (.dup, 1) := by decide +kernel
theorem dX9_manyNow_78 : decode cX9_manyNow 78 = .ok (.bipush 7, 2) := by decide +kernel
theorem dX9_manyNow_80 : decode cX9_manyNow 80 = .ok (.aload_n 0, 1) := by decide +kernel
theorem dX9_manyNow_81 : decode cX9_manyNow 81 = .ok (.getfield 167, 3) := by decide +kernel
theorem dX9_manyNow_84 : decode cX9_manyNow 84 = .ok (.iastore, 1) := by decide +kernel
theorem dX9_manyNow_85 : decode cX9_manyNow 85 = .ok (.dup, 1) := by decide +kernel
theorem dX9_manyNow_86 : decode cX9_manyNow 86 = .ok (.bipush 8, 2) := by decide +kernel
theorem dX9_manyNow_88 : decode cX9_manyNow 88 = .ok (.aload_n 0, 1) := by decide +kernel
theorem dX9_manyNow_89 : decode cX9_manyNow 89 = .ok (.getfield 174, 3) := by decide +kernel
theorem dX9_manyNow_92 : decode cX9_manyNow 92 = .ok (.iastore, 1) := by decide +kernel
theorem dX9_manyNow_93 : decode cX9_manyNow 93 = .ok (.dup, 1) := by decide +kernel
theorem dX9_manyNow_94 : decode cX9_manyNow 94 = .ok (.bipush 9, 2) := by decide +kernel
theorem dX9_manyNow_96 : decode cX9_manyNow 96 = .ok (.aload_n 0, 1) := by decide +kernel
theorem dX9_manyNow_97 : decode cX9_manyNow 97 = .ok (.getfield 274, 3) := by decide +kernel
theorem dX9_manyNow_100 : decode cX9_manyNow 100 = .ok (.iastore, 1) := by decide +kernel
theorem dX9_manyNow_101 : decode cX9_manyNow 101 = .ok (.dup, 1) := by decide +kernel
theorem dX9_manyNow_102 : decode cX9_manyNow 102 = .ok (.bipush 10, 2) := by decide +kernel
theorem dX9_manyNow_104 : decode cX9_manyNow 104 = .ok (.aload_n 0, 1) := by decide +kernel
theorem dX9_manyNow_105 : decode cX9_manyNow 105 = .ok (.getfield 277, 3) := by decide +kernel
theorem dX9_manyNow_108 : decode cX9_manyNow 108 = .ok (.iastore, 1) := by decide +kernel
theorem dX9_manyNow_109 : decode cX9_manyNow 109 = .ok (.dup, 1) := by decide +kernel
theorem dX9_manyNow_110 : decode cX9_manyNow 110 = .ok (.bipush 11, 2) := by decide +kernel
theorem dX9_manyNow_112 : decode cX9_manyNow 112 = .ok (.aload_n 0, 1) := by decide +kernel
theorem dX9_manyNow_113 : decode cX9_manyNow 113 = .ok (.getfield 260, 3) := by decide +kernel
theorem dX9_manyNow_116 : decode cX9_manyNow 116 = .ok (.iastore, 1) := by decide +kernel
theorem dX9_manyNow_117 : decode cX9_manyNow 117 = .ok (.dup, 1) := by decide +kernel
theorem dX9_manyNow_118 : decode cX9_manyNow 118 = .ok (.bipush 12, 2) := by decide +kernel
theorem dX9_manyNow_120 : decode cX9_manyNow 120 = .ok (.aload_n 0, 1) := by decide +kernel
theorem dX9_manyNow_121 : decode cX9_manyNow 121 = .ok (.invokevirtual 331, 3) := by decide +kernel
theorem dX9_manyNow_124 : decode cX9_manyNow 124 = .ok (.iastore, 1) := by decide +kernel
theorem dX9_manyNow_125 : decode cX9_manyNow 125 = .ok (.astore_n 2, 1) := by decide +kernel
theorem dX9_manyNow_126 : decode cX9_manyNow 126 = .ok (.aload_n 2, 1) := by decide +kernel
theorem dX9_manyNow_127 : decode cX9_manyNow 127 = .ok (.iload_n 1, 1) := by decide +kernel
theorem dX9_manyNow_128 : decode cX9_manyNow 128 = .ok (.iaload, 1) := by decide +kernel
theorem dX9_manyNow_129 : decode cX9_manyNow 129 = .ok (.ireturn, 1) := by decide +kernel
set_option maxRecDepth 20000 in
theorem ggX9_many_X9_isIn : GoodIn wsX9_many wsX9_isIn := goodIn_r _ [4] (by decide +kernel) (by decide +kernel)
set_option maxRecDepth 20000 in
theorem gX9_many_X9_isIn : GoodIn wsX9_many (va_wsS RX9 34 yX9_isIn wsX9_isIn) := goodIn_app (goodIn_of _ (by decide +kernel)) ggX9_many_X9_isIn
set_option maxRecDepth 20000 in
theorem ggX9_many_X9_start : GoodIn wsX9_many wsX9_start := goodIn_r _ [8, 9, 10, 11, 12, 3, 13, 134, 135, 136, 137, 138, 139, 140, 141, 142, 143, 144, 145, 146, 147, 148] (by decide +kernel) (by decide +kernel)
set_option maxRecDepth 20000 in
theorem gX9_many_X9_start : GoodIn wsX9_many (wsV RX9 196 RX9 yX9_start wsX9_start) := goodIn_app (goodIn_of _ (by decide +kernel)) ggX9_many_X9_start
set_option maxRecDepth 20000 in
theorem ggX9_many_X9_manyNow : GoodIn wsX9_many wsX9_manyNow := goodIn_r _ [17, 18, 19, 20, 21, 22, 23, 24, 25, 26, 27, 28, 29, 30, 31, 32, 33, 34, 35, 36, 37, 38, 3, 39, 40, 41, 42, 43, 44, 45, 46, 47, 48, 49, 50, 51, 52, 53, 54, 55, 56, 57, 58, 59, 60, 61, 62, 63, 64, 65, 66, 67, 68, 69, 70, 71, 72, 73, 74, 75, 76, 77, 78, 79, 80, 81, 82, 83, 84, 85, 86, 87, 88, 89, 90, 91, 92, 93, 94, 95, 96, 97, 98, 99, 100, 101, 102, 103, 104, 105, 106, 107, 108, 109, 110, 111, 112, 113, 114, 115, 116, 117, 118, 119, 120, 121, 122, 123, 124, 125, 126, 127, 128, 129, 130, 131, 132, 133, 134, 135, 136, 137, 138, 139, 140, 141, 142, 143, 144, 145, 146, 147, 148, 149, 150, 151, 152, 153, 154, 155, 156, 157, 158, 159, 160, 161, 162, 163, 164, 165, 166, 167, 168, 169, 170, 171, 172, 173, 174] (by decide +kernel) (by decide +kernel)
set_option maxRecDepth 20000 in
theorem gX9_many_X9_manyNow : GoodIn wsX9_many (wsV RX9 334 RX9 yX9_manyNow wsX9_manyNow) := goodIn_app (goodIn_of _ (by decide +kernel)) ggX9_many_X9_manyNow
theorem dX9_many_0 : decode cX9_many 0 = .ok (.aload_n 0, 1) := by decide +kernel
theorem dX9_many_1 : decode cX9_many 1 = .ok (.iload_n 1, 1) := by decide +kernel
theorem dX9_many_2 : decode cX9_many 2 = .ok (.iconst 0, 1) := by decide +kernel
theorem dX9_many_3 : decode cX9_many 3 = .ok (.bipush 12, 2) := by decide +kernel
theorem dX9_many_5 : decode cX9_many 5 = .ok (.invokestatic 34, 3) := by decide +kernel
theorem dX9_many_8 : decode cX9_many 8 = .ok (.ifCond .ne 7, 3) := by decide +kernel
theorem dX9_many_11 : decode cX9_many 11 = .ok (.iconst 1, 1) := by decide +kernel
theorem dX9_many_12 : decode cX9_many 12 = .ok (.goto 4, 3) := by decide +kernel
theorem dX9_many_15 : decode cX9_many 15 = .ok (.iconst 0, 1) := by decide +kernel
theorem dX9_many_16 : decode cX9_many 16 = .ok (.iconst 1, 1) := by decide +kernel
theorem dX9_many_17 : decode cX9_many 17 = .ok (.invokevirtual 196, 3) := by decide +kernel
theorem dX9_many_20 : decode cX9_many 20 = .ok (.ifCond .eq 7, 3) := by decide +kernel
theorem dX9_many_23 : decode cX9_many 23 = .ok (.iconst 0, 1) := by decide +kernel
theorem dX9_many_24 : decode cX9_many 24 = .ok (.goto 8, 3) := by decide +kernel
theorem dX9_many_27 : decode cX9_many 27 = .ok (.aload_n 0, 1) := by decide +kernel
theorem dX9_many_28 : decode cX9_many 28 = .ok (.iload_n 1, 1) := by decide +kernel
theorem dX9_many_29 : decode cX9_many 29 = .ok (.invokevirtual 334, 3) := by decide +kernel
theorem dX9_many_32 : decode cX9_many 32 = .ok (.ireturn, 1) := by decide +kernel
set_option maxRecDepth 20000 in
theorem ggX9_ahead_X9_isNoThing : GoodIn wsX9_ahead wsX9_isNoThing := goodIn_r _ [7, 1, 8, 9, 10, 11, 12, 13, 14, 15, 6, 16, 114, 115, 116, 117, 118, 119, 120, 121, 122, 123, 124, 125, 126, 127, 128, 129, 130, 131] (by decide +kernel) (by decide +kernel)
set_option maxRecDepth 20000 in
theorem gX9_ahead_X9_isNoThing : GoodIn wsX9_ahead (wsV RX9 221 RX9 yX9_isNoThing wsX9_isNoThing) := goodIn_app (goodIn_of _ (by decide +kernel)) ggX9_ahead_X9_isNoThing
set_option maxRecDepth 20000 in
theorem ggX9_ahead_X9_start : GoodIn wsX9_ahead wsX9_start := goodIn_r _ [20, 21, 22, 23, 24, 6, 25, 114, 115, 116, 117, 118, 119, 120, 121, 122, 123, 124, 125, 126, 127, 128] (by decide +kernel) (by decide +kernel)
set_option maxRecDepth 20000 in
theorem gX9_ahead_X9_start : GoodIn wsX9_ahead (wsV RX9 196 RX9 yX9_start wsX9_start) := goodIn_app (goodIn_of _ (by decide +kernel)) ggX9_ahead_X9_start
theorem dX9_ahead_0 : decode cX9_ahead 0 = .ok (.aload_n 0, 1) := by decide +kernel
theorem dX9_ahead_1 : decode cX9_ahead 1 = .ok (.aload_n 0, 1) := by decide +kernel
theorem dX9_ahead_2 : decode cX9_ahead 2 = .ok (.iload_n 1, 1) := by decide +kernel
theorem dX9_ahead_3 : decode cX9_ahead 3 = .ok (.invokevirtual 221, 3) := by decide +kernel
theorem dX9_ahead_6 : decode cX9_ahead 6 = .ok (.iconst 1, 1) := by decide +kernel
theorem dX9_ahead_7 : decode cX9_ahead 7 = .ok (.invokevirtual 196, 3) := by decide +kernel
theorem dX9_ahead_10 : decode cX9_ahead 10 = .ok (.ifCond .eq 7, 3) := by decide +kernel
theorem dX9_ahead_13 : decode cX9_ahead 13 = .ok (.iconst 0, 1) := by decide +kernel
theorem dX9_ahead_14 : decode cX9_ahead 14 = .ok (.goto 18, 3) := by decide +kernel
theorem dX9_ahead_32 : decode cX9_ahead 32 = .ok (.ireturn, 1) := by decide +kernel
set_option maxRecDepth 20000 in
theorem ggX9_next_X9_isNoKind : GoodIn wsX9_next wsX9_isNoKind := goodIn_r _ [5, 6, 7, 8, 9, 10, 11, 12, 13, 14, 4, 15, 190, 191, 192, 193, 194, 195, 196, 197, 198, 199, 200, 201, 202, 203, 204, 205, 206, 207] (by decide +kernel) (by decide +kernel)
set_option maxRecDepth 20000 in
theorem gX9_next_X9_isNoKind : GoodIn wsX9_next (wsV RX9 206 RX9 yX9_isNoKind wsX9_isNoKind) := goodIn_app (goodIn_of _ (by decide +kernel)) ggX9_next_X9_isNoKind
set_option maxRecDepth 20000 in
theorem ggX9_next_X9_start : GoodIn wsX9_next wsX9_start := goodIn_r _ [19, 20, 21, 22, 23, 4, 24, 190, 191, 192, 193, 194, 195, 196, 197, 198, 199, 200, 201, 202, 203, 204] (by decide +kernel) (by decide +kernel)
set_option maxRecDepth 20000 in
theorem gX9_next_X9_start : GoodIn wsX9_next (wsV RX9 196 RX9 yX9_start wsX9_start) := goodIn_app (goodIn_of _ (by decide +kernel)) ggX9_next_X9_start
theorem dX9_next_0 : decode cX9_next 0 = .ok (.aload_n 0, 1) := by decide +kernel
theorem dX9_next_1 : decode cX9_next 1 = .ok (.aload_n 0, 1) := by decide +kernel
theorem dX9_next_2 : decode cX9_next 2 = .ok (.iload_n 1, 1) := by decide +kernel
theorem dX9_next_3 : decode cX9_next 3 = .ok (.invokevirtual 206, 3) := by decide +kernel
theorem dX9_next_6 : decode cX9_next 6 = .ok (.iconst 1, 1) := by decide +kernel
theorem dX9_next_7 : decode cX9_next 7 = .ok (.invokevirtual 196, 3) := by decide +kernel
theorem dX9_next_10 : decode cX9_next 10 = .ok (.ifCond .eq 7, 3) := by decide +kernel
theorem dX9_next_13 : decode cX9_next 13 = .ok (.iconst 0, 1) := by decide +kernel
theorem dX9_next_14 : decode cX9_next 14 = .ok (.goto 8, 3) := by decide +kernel
theorem dX9_next_22 : decode cX9_next 22 = .ok (.ireturn, 1) := by decide +kernel
set_option maxRecDepth 20000 in
theorem ggX9_wouldFit_X9_isNoThing : GoodIn wsX9_wouldFit wsX9_isNoThing := goodIn_r _ [9, 1, 10, 11, 12, 13, 14, 15, 16, 17, 8, 18, 80, 81, 82, 83, 84, 85, 86, 87, 88, 89, 90, 91, 92, 93, 94, 95, 96, 97] (by decide +kernel) (by decide +kernel)
set_option maxRecDepth 20000 in
theorem gX9_wouldFit_X9_isNoThing : GoodIn wsX9_wouldFit (wsV RX9 221 RX9 yX9_isNoThing wsX9_isNoThing) := goodIn_app (goodIn_of _ (by decide +kernel)) ggX9_wouldFit_X9_isNoThing
set_option maxRecDepth 20000 in
theorem ggX9_wouldFit_X9_start : GoodIn wsX9_wouldFit wsX9_start := goodIn_r _ [26, 27, 28, 29, 30, 8, 31, 80, 81, 82, 83, 84, 85, 86, 87, 88, 89, 90, 91, 92, 93, 94] (by decide +kernel) (by decide +kernel)
set_option maxRecDepth 20000 in
theorem gX9_wouldFit_X9_start : GoodIn wsX9_wouldFit (wsV RX9 196 RX9 yX9_start wsX9_start) := goodIn_app (goodIn_of _ (by decide +kernel)) ggX9_wouldFit_X9_start
theorem dX9_wouldFit_0 : decode cX9_wouldFit 0 = .ok (.aload_n 0, 1) := by decide +kernel
theorem dX9_wouldFit_1 : decode cX9_wouldFit 1 = .ok (.aload_n 0, 1) := by decide +kernel
theorem dX9_wouldFit_2 : decode cX9_wouldFit 2 = .ok (.iload_n 1, 1) := by decide +kernel
theorem dX9_wouldFit_3 : decode cX9_wouldFit 3 = .ok (.invokevirtual 221, 3) := by decide +kernel
theorem dX9_wouldFit_6 : decode cX9_wouldFit 6 = .ok (.ifCond .ne 11, 3) := by decide +kernel
theorem dX9_wouldFit_17 : decode cX9_wouldFit 17 = .ok (.iconst 1, 1) := by decide +kernel
theorem dX9_wouldFit_18 : decode cX9_wouldFit 18 = .ok (.goto 4, 3) := by decide +kernel
theorem dX9_wouldFit_22 : decode cX9_wouldFit 22 = .ok (.iconst 1, 1) := by decide +kernel
theorem dX9_wouldFit_23 : decode cX9_wouldFit 23 = .ok (.invokevirtual 196, 3) := by decide +kernel
theorem dX9_wouldFit_26 : decode cX9_wouldFit 26 = .ok (.ifCond .eq 7, 3) := by decide +kernel
theorem dX9_wouldFit_29 : decode cX9_wouldFit 29 = .ok (.iconst 0, 1) := by decide +kernel
theorem dX9_wouldFit_30 : decode cX9_wouldFit 30 = .ok (.goto 29, 3) := by decide +kernel
theorem dX9_wouldFit_59 : decode cX9_wouldFit 59 = .ok (.ireturn, 1) := by decide +kernel
theorem dX9_add_0 : decode cX9_add 0 = .ok (.lload_n 0, 1) := by decide +kernel
theorem dX9_add_1 : decode cX9_add 1 = .ok (.ldc2_w 347, 3) := by decide +kernel
theorem dX9_add_4 : decode cX9_add 4 = .ok (.lmul, 1) := by decide +kernel
theorem dX9_add_5 : decode cX9_add 5 = .ok (.lload_n 2, 1) := by decide +kernel
theorem dX9_add_6 : decode cX9_add 6 = .ok (.ladd, 1) := by decide +kernel
theorem dX9_add_7 : decode cX9_add 7 = .ok (.lreturn, 1) := by decide +kernel
set_option maxRecDepth 20000 in
theorem ggX9_digest_X9_manyNow : GoodIn wsX9_digest wsX9_manyNow := goodIn_r _ [14, 15, 5, 6, 8, 16, 17, 18, 19, 20, 21, 22, 23, 24, 25, 26, 27, 28, 29, 30, 31, 32, 13, 33, 7, 34, 35, 36, 37, 38, 39, 40, 41, 42, 43, 44, 45, 46, 47, 48, 49, 50, 51, 52, 53, 54, 55, 56, 57, 58, 59, 60, 61, 62, 63, 64, 65, 66, 67, 68, 69, 70, 71, 72, 73, 74, 75, 9, 76, 77, 78, 79, 80, 81, 82, 83, 84, 85, 86, 87, 88, 89, 90, 91, 92, 93, 94, 95, 96, 97, 98, 99, 100, 101, 102, 103, 104, 105, 106, 107, 108, 109, 110, 111, 112, 113, 114, 115, 116, 117, 118, 119, 120, 121, 122, 123, 124, 125, 281, 282, 283, 284, 285, 286, 287, 288, 289, 290, 291, 292, 293, 294, 295, 296, 297, 298, 299, 300, 301, 302, 303, 304, 305, 306, 307, 308, 309, 310, 311, 312, 313, 314, 315, 316, 317, 318, 319, 320, 321] (by decide +kernel) (by decide +kernel)
set_option maxRecDepth 20000 in
theorem gX9_digest_X9_manyNow : GoodIn wsX9_digest (wsV RX9 334 RX9 yX9_manyNow wsX9_manyNow) := goodIn_app (goodIn_of _ (by decide +kernel)) ggX9_digest_X9_manyNow
set_option maxRecDepth 20000 in
theorem ggX9_digest_X9_add : GoodIn wsX9_digest wsX9_add := goodIn_r _ [128, 129] (by decide +kernel) (by decide +kernel)
set_option maxRecDepth 20000 in
theorem gX9_digest_X9_add : GoodIn wsX9_digest (va_wsS RX9 351 yX9_add wsX9_add) := goodIn_app (goodIn_of _ (by decide +kernel)) ggX9_digest_X9_add
set_option maxRecDepth 20000 in
theorem ggX9_digest_Jx4a65c_size_8abf5 : GoodIn wsX9_digest wsJx4a65c_size_8abf5 := goodIn_r _ [28, 29, 306, 307, 308] (by decide +kernel) (by decide +kernel)
set_option maxRecDepth 20000 in
theorem gX9_digest_Jx4a65c_size_8abf5 : GoodIn wsX9_digest (wsV RX9 30 RJx4a65c yJx4a65c_size_8abf5 wsJx4a65c_size_8abf5) := goodIn_app (goodIn_of _ (by decide +kernel)) ggX9_digest_Jx4a65c_size_8abf5
set_option maxRecDepth 20000 in
theorem ggX9_digest_Jx4a65c_iterator_32c93 : GoodIn wsX9_digest wsJx4a65c_iterator_32c93 := goodIn_r _ [37, 38, 39, 40, 41, 42, 43, 44, 45, 46, 47, 48, 49, 50, 51, 309, 310, 311, 312, 306, 307, 308] (by decide +kernel) (by decide +kernel)
set_option maxRecDepth 20000 in
theorem gX9_digest_Jx4a65c_iterator_32c93 : GoodIn wsX9_digest (wsV RX9 38 RJx4a65c yJx4a65c_iterator_32c93 wsJx4a65c_iterator_32c93) := goodIn_app (goodIn_of _ (by decide +kernel)) ggX9_digest_Jx4a65c_iterator_32c93
set_option maxRecDepth 20000 in
theorem ggX9_digest_Jx35411_hasNext_aae02 : GoodIn wsX9_digest wsJx35411_hasNext_aae02 := goodIn_r _ [55, 56, 44, 309, 310, 311, 312, 306, 307, 308] (by decide +kernel) (by decide +kernel)
set_option maxRecDepth 20000 in
theorem gX9_digest_Jx35411_hasNext_aae02_f42Jx35411 : GoodIn wsX9_digest (va_wsF RX9 42 RJx35411 ⟨"java/util/Iterator", "hasNext", "()Z"⟩ yJx35411_hasNext_aae02 wsJx35411_hasNext_aae02) := goodIn_app (goodIn_of _ (by decide +kernel)) ggX9_digest_Jx35411_hasNext_aae02
theorem dX9_digest_0 : decode cX9_digest 0 = .ok (.aload_n 0, 1) := by decide +kernel
theorem dX9_digest_1 : decode cX9_digest 1 = .ok (.iconst 0, 1) := by decide +kernel
theorem dX9_digest_2 : decode cX9_digest 2 = .ok (.putfield 22, 3) := by decide +kernel
theorem dX9_digest_5 : decode cX9_digest 5 = .ok (.ldc2_w 349, 3) := by decide +kernel
theorem dX9_digest_8 : decode cX9_digest 8 = .ok (.lstore_n 1, 1) := by decide +kernel
theorem dX9_digest_9 : decode cX9_digest 9 = .ok (.iconst 0, 1) := by decide +kernel
theorem dX9_digest_10 : decode cX9_digest 10 = .ok (.istore_n 3, 1) := by decide +kernel
theorem dX9_digest_11 : decode cX9_digest 11 = .ok (.iload_n 3, 1) := by decide +kernel
theorem dX9_digest_12 : decode cX9_digest 12 = .ok (.bipush 13, 2) := by decide +kernel
theorem dX9_digest_14 : decode cX9_digest 14 = .ok (.if_icmp .ge 20, 3) := by decide +kernel
theorem dX9_digest_17 : decode cX9_digest 17 = .ok (.lload_n 1, 1) := by decide +kernel
theorem dX9_digest_18 : decode cX9_digest 18 = .ok (.aload_n 0, 1) := by decide +kernel
theorem dX9_digest_19 : decode cX9_digest 19 = .ok (.iload_n 3, 1) := by decide +kernel
theorem dX9_digest_20 : decode cX9_digest 20 = .ok (.invokevirtual 334, 3) := by decide +kernel
theorem dX9_digest_23 : decode cX9_digest 23 = .ok (.i2l, 1) := by decide +kernel
theorem dX9_digest_24 : decode cX9_digest 24 = .ok (.invokestatic 351, 3) := by decide +kernel
theorem dX9_digest_27 : decode cX9_digest 27 = .ok (.lstore_n 1, 1) := by decide +kernel
theorem dX9_digest_28 : decode cX9_digest 28 = .ok (.iinc 3 1, 3) := by decide +kernel
theorem dX9_digest_31 : decode cX9_digest 31 = .ok (.goto (-20), 3) := by decide +kernel
theorem dX9_digest_34 : decode cX9_digest 34 = .ok (.lload_n 1, 1) := by decide +kernel
theorem dX9_digest_35 : decode cX9_digest 35 = .ok (.aload_n 0, 1) := by decide +kernel
theorem dX9_digest_36 : decode cX9_digest 36 = .ok (.getfield 252, 3) := by decide +kernel
theorem dX9_digest_39 : decode cX9_digest 39 = .ok (.ldc2_w 265, 3) := by decide +kernel
theorem dX9_digest_42 : decode cX9_digest 42 = .ok (.dmul, 1) := by decide +kernel
theorem dX9_digest_43 : decode cX9_digest 43 = .ok (.d2l, 1) := by decide +kernel
theorem dX9_digest_44 : decode cX9_digest 44 = .ok (.invokestatic 351, 3) := by decide +kernel
theorem dX9_digest_47 : decode cX9_digest 47 = .ok (.lstore_n 1, 1) := by decide +kernel
theorem dX9_digest_48 : decode cX9_digest 48 = .ok (.iconst 0, 1) := by decide +kernel
theorem dX9_digest_49 : decode cX9_digest 49 = .ok (.istore_n 3, 1) := by decide +kernel
theorem dX9_digest_50 : decode cX9_digest 50 = .ok (.iload_n 3, 1) := by decide +kernel
theorem dX9_digest_51 : decode cX9_digest 51 = .ok (.aload_n 0, 1) := by decide +kernel
theorem dX9_digest_52 : decode cX9_digest 52 = .ok (.getfield 10, 3) := by decide +kernel
theorem dX9_digest_55 : decode cX9_digest 55 = .ok (.invokevirtual 30, 3) := by decide +kernel
theorem dX9_digest_58 : decode cX9_digest 58 = .ok (.if_icmp .ge 31, 3) := by decide +kernel
theorem dX9_digest_89 : decode cX9_digest 89 = .ok (.aload_n 0, 1) := by decide +kernel
theorem dX9_digest_90 : decode cX9_digest 90 = .ok (.getfield 16, 3) := by decide +kernel
theorem dX9_digest_93 : decode cX9_digest 93 = .ok (.invokevirtual 38, 3) := by decide +kernel
theorem dX9_digest_96 : decode cX9_digest 96 = .ok (.astore_n 3, 1) := by decide +kernel
theorem dX9_digest_97 : decode cX9_digest 97 = .ok (.aload_n 3, 1) := by decide +kernel
theorem dX9_digest_98 : decode cX9_digest 98 = .ok (.invokeinterface 42 1, 5) := by decide +kernel
theorem dX9_digest_103 : decode cX9_digest 103 = .ok (.ifCond .eq 88, 3) := by decide +kernel
theorem dX9_digest_191 : decode cX9_digest 191 = .ok (.aload_n 0, 1) := by decide +kernel
theorem dX9_digest_192 : decode cX9_digest 192 = .ok (.getfield 19, 3) := by decide +kernel
theorem dX9_digest_195 : decode cX9_digest 195 = .ok (.invokevirtual 38, 3) := by decide +kernel
theorem dX9_digest_198 : decode cX9_digest 198 = .ok (.astore_n 3, 1) := by decide +kernel
theorem dX9_digest_199 : decode cX9_digest 199 = .ok (.aload_n 3, 1) := by decide +kernel
theorem dX9_digest_200 : decode cX9_digest 200 = .ok (.invokeinterface 42 1, 5) := by decide +kernel
theorem dX9_digest_205 : decode cX9_digest 205 = .ok (.ifCond .eq 95, 3) := by decide +kernel
theorem dX9_digest_300 : decode cX9_digest 300 = .ok (.lload_n 1, 1) := by decide +kernel
theorem dX9_digest_301 : decode cX9_digest 301 = .ok (.lreturn, 1) := by decide +kernel
set_option maxHeartbeats 4000000 in
set_option maxRecDepth 100000 in
theorem c_thrown (l : Launch) (D : va_G) (e0 sz : Nat) (mm mk9 mt mb : Nat) (t : Int32) : Ki (S := Unit) l yX9_thrown wsX9_thrown ({ frames := 0, cells := 0, slots := 0, locals := 0 } : Room) [.ref mm] D [(mm, .inr (11, [.int t, .ref mk9, .ref mt, .ref mb, .int 0, .int 0, .int 0, .int 0, .null, .int 0, .int 0, .double 0, .int 0, .int 0, .int 0]))] [] e0 sz (fun r _ => r = t) (fun _ => [(mm, .inr (11, [.int t, .ref mk9, .ref mt, .ref mb, .int 0, .int 0, .int 0, .int 0, .null, .int 0, .int 0, .double 0, .int 0, .int 0, .int 0]))]) (fun _ => []) 0 0 := by
  refine Met.ofW (cc := cX9_thrown) (maxL := 1) (ret := (some .int)) (by decide) rfl ?_
  intro p e s m args below meth c s₁ B hml hv
  obtain ⟨rfl, hsz, hP, hK, hD0, hE⟩ := hv
  have hx := B.exec
  have hb := B.bytes
  have hr := B.returns
  have hts := atoms_spec (ws := wsX9_thrown) B.pre
  have hown : s.vm.findClass RX9 = some m.cls := findClass_of_methodNamed B.named
  have hlocks := B.notSynchronized
  subst hsz
  have hD := hD0.self (sz := s.heap.size)
  generalize hAe : va_A [(mm, .inr (11, [.int t, .ref mk9, .ref mt, .ref mb, .int 0, .int 0, .int 0, .int 0, .null, .int 0, .int 0, .double 0, .int 0, .int 0, .int 0]))] s.heap.size = A at hD hE ⊢
  have hA : ∀ q : Nat, s.heap.size ≤ q → A q := fun q h => by rw [← hAe]; exact Or.inr h
  have hS : va_S A s.heap s.heap [] := va_S.rf
  have hP : va_P D vwCl [(mm, .inr (11, [.int t, .ref mk9, .ref mt, .ref mb, .int 0, .int 0, .int 0, .int 0, .null, .int 0, .int 0, .double 0, .int 0, .int 0, .int 0]))] s.heap := hP
  have hl := lv_entry ([.ref mm]) (n := 1) (Nat.le_of_ble_eq_true rfl)
  rw [lg_entry_eq]
  generalize (lg_sl ([.ref mm]) ++ List.replicate (1 - (lg_sl ([.ref mm])).length) Slot.unset).toArray = ls at hl ⊢
  have hl : lv_has ls 1 [(0, .ref mm)] := hl
  refine lv_aload_n hx hb dX9_thrown_0 rfl (lv_at hl 0 rfl) ?_
  refine va_get (D := D) (ci := 11) (v := .int t) (C := RX9) (T := TX9) (N := 15) hx hb hts (by decide +kernel) hown hK hP 0 rfl rfl 0 (by decide) (hts (.fieldLink RX9 22 "PickCellModel" "thrown" "I") (by decide +kernel)) (fun _ h9 => h9) rfl dX9_thrown_1 ?_
  exact end_i (v := t) hx hb hr rfl hlocks hP hD hK hS () rfl [0] [] rfl (by decide) rfl (Nat.le_of_ble_eq_true rfl) (Nat.le_of_ble_eq_true rfl) dX9_thrown_4
set_option maxHeartbeats 4000000 in
set_option maxRecDepth 100000 in
theorem c_refuse1 (l : Launch) (D : va_G) (e0 sz : Nat) (mm mk9 mt mb : Nat) : Ki (S := Unit) l yX9_refuse wsX9_refuse ({ frames := 0, cells := 0, slots := 0, locals := 0 } : Room) [.ref mm, .int 1, .int 1] D [(mm, .inr (11, [.int 0, .ref mk9, .ref mt, .ref mb, .int 0, .int 0, .int 0, .int 0, .null, .int 0, .int 0, .double 0, .int 0, .int 0, .int 0]))] [] e0 sz (fun r _ => r = 1) (fun _ => [(mm, .inr (11, [.int 1, .ref mk9, .ref mt, .ref mb, .int 0, .int 0, .int 0, .int 0, .null, .int 0, .int 0, .double 0, .int 0, .int 0, .int 0]))]) (fun _ => []) 0 0 := by
  refine Met.ofW (cc := cX9_refuse) (maxL := 3) (ret := (some .boolean)) (by decide) rfl ?_
  intro p e s m args below meth c s₁ B hml hv
  obtain ⟨rfl, hsz, hP, hK, hD0, hE⟩ := hv
  have hx := B.exec
  have hb := B.bytes
  have hr := B.returns
  have hts := atoms_spec (ws := wsX9_refuse) B.pre
  have hown : s.vm.findClass RX9 = some m.cls := findClass_of_methodNamed B.named
  have hlocks := B.notSynchronized
  subst hsz
  have hD := hD0.self (sz := s.heap.size)
  generalize hAe : va_A [(mm, .inr (11, [.int 0, .ref mk9, .ref mt, .ref mb, .int 0, .int 0, .int 0, .int 0, .null, .int 0, .int 0, .double 0, .int 0, .int 0, .int 0]))] s.heap.size = A at hD hE ⊢
  have hA : ∀ q : Nat, s.heap.size ≤ q → A q := fun q h => by rw [← hAe]; exact Or.inr h
  have hS : va_S A s.heap s.heap [] := va_S.rf
  have hP : va_P D vwCl [(mm, .inr (11, [.int 0, .ref mk9, .ref mt, .ref mb, .int 0, .int 0, .int 0, .int 0, .null, .int 0, .int 0, .double 0, .int 0, .int 0, .int 0]))] s.heap := hP
  have hl := lv_entry ([.ref mm, .int 1, .int 1]) (n := 3) (Nat.le_of_ble_eq_true rfl)
  rw [lg_entry_eq]
  generalize (lg_sl ([.ref mm, .int 1, .int 1]) ++ List.replicate (3 - (lg_sl ([.ref mm, .int 1, .int 1])).length) Slot.unset).toArray = ls at hl ⊢
  have hl : lv_has ls 3 [(0, .ref mm), (1, .int 1), (2, .int 1)] := hl
  refine lv_iload_n hx hb dX9_refuse_0 rfl (lv_at hl 1 rfl) ?_
  refine lv_if_eq (tgt := 16) hx hb dX9_refuse_1 (by decide) (fun h9 => absurd h9 (by decide)) (fun _ => ?_)
  refine lv_aload_n hx hb dX9_refuse_4 rfl (lv_at hl 0 rfl) ?_
  refine va_get (D := D) (ci := 11) (v := .int 0) (C := RX9) (T := TX9) (N := 15) hx hb hts (by decide +kernel) hown hK hP 0 rfl rfl 0 (by decide) (hts (.fieldLink RX9 22 "PickCellModel" "thrown" "I") (by decide +kernel)) (fun _ h9 => h9) rfl dX9_refuse_5 ?_
  refine lv_if_ne (tgt := 16) hx hb dX9_refuse_8 (by decide) (fun h9 => absurd (by decide) h9) (fun _ => ?_)
  refine lv_aload_n hx hb dX9_refuse_11 rfl (lv_at hl 0 rfl) ?_
  refine lv_iload_n hx hb dX9_refuse_12 rfl (lv_at hl 2 rfl) ?_
  refine va_put (D := D) (ci := 11) (v := .int 1) (ty := .int) (C := RX9) (T := TX9) (N := 15) hx hb hts (by decide +kernel) tyX9 tyX9_ok nmX9 hown hK hP hD hS 0 rfl rfl 0 (by decide) (hts (.fieldLink RX9 22 "PickCellModel" "thrown" "I") (by decide +kernel)) (fun _ h9 => h9) rfl (by decide +kernel) rfl rfl (Nat.le_of_ble_eq_true rfl) dX9_refuse_13 (fun H locs hP hD hS => ?_)
  have hP : va_P D vwCl [(mm, .inr (11, [.int 1, .ref mk9, .ref mt, .ref mb, .int 0, .int 0, .int 0, .int 0, .null, .int 0, .int 0, .double 0, .int 0, .int 0, .int 0]))] H := hP
  have hD : va_D A [(mm, .inr (11, [.int 1, .ref mk9, .ref mt, .ref mb, .int 0, .int 0, .int 0, .int 0, .null, .int 0, .int 0, .double 0, .int 0, .int 0, .int 0]))] := hD
  refine lv_aload_n hx hb dX9_refuse_16 rfl (lv_at hl 0 rfl) ?_
  refine va_get (D := D) (ci := 11) (v := .int 1) (C := RX9) (T := TX9) (N := 15) hx hb hts (by decide +kernel) hown hK hP 0 rfl rfl 0 (by decide) (hts (.fieldLink RX9 22 "PickCellModel" "thrown" "I") (by decide +kernel)) (fun _ h9 => h9) rfl dX9_refuse_17 ?_
  refine lv_if_le (tgt := 27) hx hb dX9_refuse_20 (by decide) (fun h9 => absurd h9 (by decide)) (fun _ => ?_)
  refine lv_iconst (v := 1) hx hb dX9_refuse_23 (by decide) ?_
  refine lv_goto (tgt := 28) hx hb dX9_refuse_24 (by decide) ?_
  exact end_i (v := 1) hx hb hr rfl hlocks hP hD hK hS () rfl [0] [] rfl (by decide) rfl (Nat.le_of_ble_eq_true rfl) (Nat.le_of_ble_eq_true rfl) dX9_refuse_28
set_option maxHeartbeats 4000000 in
set_option maxRecDepth 100000 in
theorem c_refuse0 (l : Launch) (D : va_G) (e0 sz : Nat) (mm mk9 mt mb : Nat) (w : Int32) : Ki (S := Unit) l yX9_refuse wsX9_refuse ({ frames := 0, cells := 0, slots := 0, locals := 0 } : Room) [.ref mm, .int 0, .int w] D [(mm, .inr (11, [.int 0, .ref mk9, .ref mt, .ref mb, .int 0, .int 0, .int 0, .int 0, .null, .int 0, .int 0, .double 0, .int 0, .int 0, .int 0]))] [] e0 sz (fun r _ => r = 0) (fun _ => [(mm, .inr (11, [.int 0, .ref mk9, .ref mt, .ref mb, .int 0, .int 0, .int 0, .int 0, .null, .int 0, .int 0, .double 0, .int 0, .int 0, .int 0]))]) (fun _ => []) 0 0 := by
  refine Met.ofW (cc := cX9_refuse) (maxL := 3) (ret := (some .boolean)) (by decide) rfl ?_
  intro p e s m args below meth c s₁ B hml hv
  obtain ⟨rfl, hsz, hP, hK, hD0, hE⟩ := hv
  have hx := B.exec
  have hb := B.bytes
  have hr := B.returns
  have hts := atoms_spec (ws := wsX9_refuse) B.pre
  have hown : s.vm.findClass RX9 = some m.cls := findClass_of_methodNamed B.named
  have hlocks := B.notSynchronized
  subst hsz
  have hD := hD0.self (sz := s.heap.size)
  generalize hAe : va_A [(mm, .inr (11, [.int 0, .ref mk9, .ref mt, .ref mb, .int 0, .int 0, .int 0, .int 0, .null, .int 0, .int 0, .double 0, .int 0, .int 0, .int 0]))] s.heap.size = A at hD hE ⊢
  have hA : ∀ q : Nat, s.heap.size ≤ q → A q := fun q h => by rw [← hAe]; exact Or.inr h
  have hS : va_S A s.heap s.heap [] := va_S.rf
  have hP : va_P D vwCl [(mm, .inr (11, [.int 0, .ref mk9, .ref mt, .ref mb, .int 0, .int 0, .int 0, .int 0, .null, .int 0, .int 0, .double 0, .int 0, .int 0, .int 0]))] s.heap := hP
  have hl := lv_entry ([.ref mm, .int 0, .int w]) (n := 3) (Nat.le_of_ble_eq_true rfl)
  rw [lg_entry_eq]
  generalize (lg_sl ([.ref mm, .int 0, .int w]) ++ List.replicate (3 - (lg_sl ([.ref mm, .int 0, .int w])).length) Slot.unset).toArray = ls at hl ⊢
  have hl : lv_has ls 3 [(0, .ref mm), (1, .int 0), (2, .int w)] := hl
  refine lv_iload_n hx hb dX9_refuse_0 rfl (lv_at hl 1 rfl) ?_
  refine lv_if_eq (tgt := 16) hx hb dX9_refuse_1 (by decide) (fun _ => ?_) (fun h9 => absurd (by decide) h9)
  refine lv_aload_n hx hb dX9_refuse_16 rfl (lv_at hl 0 rfl) ?_
  refine va_get (D := D) (ci := 11) (v := .int 0) (C := RX9) (T := TX9) (N := 15) hx hb hts (by decide +kernel) hown hK hP 0 rfl rfl 0 (by decide) (hts (.fieldLink RX9 22 "PickCellModel" "thrown" "I") (by decide +kernel)) (fun _ h9 => h9) rfl dX9_refuse_17 ?_
  refine lv_if_le (tgt := 27) hx hb dX9_refuse_20 (by decide) (fun _ => ?_) (fun h9 => absurd (by decide) h9)
  refine lv_iconst (v := 0) hx hb dX9_refuse_27 (by decide) ?_
  exact end_i (v := 0) hx hb hr rfl hlocks hP hD hK hS () rfl [0] [] rfl (by decide) rfl (Nat.le_of_ble_eq_true rfl) (Nat.le_of_ble_eq_true rfl) dX9_refuse_28
set_option maxHeartbeats 4000000 in
set_option maxRecDepth 100000 in
theorem c_start1 (l : Launch) (D : va_G) (e0 sz : Nat) (mm mk9 mt mb : Nat) : Ki (S := Unit) l yX9_start wsX9_start ({ frames := 1, cells := 0, slots := 0, locals := 22 } : Room) [.ref mm, .int 1, .int 1] D [(mm, .inr (11, [.int 0, .ref mk9, .ref mt, .ref mb, .int 0, .int 0, .int 0, .int 0, .null, .int 0, .int 0, .double 0, .int 0, .int 0, .int 0]))] [] e0 sz (fun r _ => r = 1) (fun _ => [(mm, .inr (11, [.int 1, .ref mk9, .ref mt, .ref mb, .int 0, .int 0, .int 0, .int 0, .null, .int 0, .int 0, .double 0, .int 0, .int 0, .int 0]))]) (fun _ => []) 0 0 := by
  refine Met.ofW (cc := cX9_start) (maxL := 3) (ret := (some .boolean)) (by decide) rfl ?_
  intro p e s m args below meth c s₁ B hml hv
  obtain ⟨rfl, hsz, hP, hK, hD0, hE⟩ := hv
  have hx := B.exec
  have hb := B.bytes
  have hr := B.returns
  have hts := atoms_spec (ws := wsX9_start) B.pre
  have hown : s.vm.findClass RX9 = some m.cls := findClass_of_methodNamed B.named
  have hlocks := B.notSynchronized
  subst hsz
  have hD := hD0.self (sz := s.heap.size)
  generalize hAe : va_A [(mm, .inr (11, [.int 0, .ref mk9, .ref mt, .ref mb, .int 0, .int 0, .int 0, .int 0, .null, .int 0, .int 0, .double 0, .int 0, .int 0, .int 0]))] s.heap.size = A at hD hE ⊢
  have hA : ∀ q : Nat, s.heap.size ≤ q → A q := fun q h => by rw [← hAe]; exact Or.inr h
  have hS : va_S A s.heap s.heap [] := va_S.rf
  have hP : va_P D vwCl [(mm, .inr (11, [.int 0, .ref mk9, .ref mt, .ref mb, .int 0, .int 0, .int 0, .int 0, .null, .int 0, .int 0, .double 0, .int 0, .int 0, .int 0]))] s.heap := hP
  have hl := lv_entry ([.ref mm, .int 1, .int 1]) (n := 3) (Nat.le_of_ble_eq_true rfl)
  rw [lg_entry_eq]
  generalize (lg_sl ([.ref mm, .int 1, .int 1]) ++ List.replicate (3 - (lg_sl ([.ref mm, .int 1, .int 1])).length) Slot.unset).toArray = ls at hl ⊢
  have hl : lv_has ls 3 [(0, .ref mm), (1, .int 1), (2, .int 1)] := hl
  refine lv_aload_n hx hb dX9_start_0 rfl (lv_at hl 0 rfl) ?_
  refine lv_iconst (v := 0) hx hb dX9_start_1 (by decide) ?_
  refine va_put (D := D) (ci := 11) (v := .int 0) (ty := .int) (C := RX9) (T := TX9) (N := 15) hx hb hts (by decide +kernel) tyX9 tyX9_ok nmX9 hown hK hP hD hS 0 rfl rfl 0 (by decide) (hts (.fieldLink RX9 22 "PickCellModel" "thrown" "I") (by decide +kernel)) (fun _ h9 => h9) rfl (by decide +kernel) rfl rfl (Nat.le_of_ble_eq_true rfl) dX9_start_2 (fun H locs hP hD hS => ?_)
  have hP : va_P D vwCl [(mm, .inr (11, [.int 0, .ref mk9, .ref mt, .ref mb, .int 0, .int 0, .int 0, .int 0, .null, .int 0, .int 0, .double 0, .int 0, .int 0, .int 0]))] H := hP
  have hD : va_D A [(mm, .inr (11, [.int 0, .ref mk9, .ref mt, .ref mb, .int 0, .int 0, .int 0, .int 0, .null, .int 0, .int 0, .double 0, .int 0, .int 0, .int 0]))] := hD
  refine lv_aload_n hx hb dX9_start_5 rfl (lv_at hl 0 rfl) ?_
  refine lv_iload_n hx hb dX9_start_6 rfl (lv_at hl 1 rfl) ?_
  refine lv_iload_n hx hb dX9_start_7 rfl (lv_at hl 2 rfl) ?_
  refine kV_i (As := [.int 1, .int 1]) (rest := []) (wr := []) ⟨hx, hb, hml, hown, hts⟩ (c_refuse1 l D e0 _ mm mk9 mt mb) (cwV 2 hts gX9_start_X9_refuse rfl rfl rfl (by decide +kernel) ⟨Nat.le_of_ble_eq_true rfl, Nat.le_of_ble_eq_true rfl⟩) hP hD hK hS hA hE rfl [0] [] [] rfl rfl (by decide) (by decide) (by decide) rfl 11 0 rfl rfl rfl rfl hl.1 (Nat.le_of_ble_eq_true rfl) dX9_start_8 ⟨Nat.le_of_ble_eq_true rfl, Nat.le_of_ble_eq_true rfl⟩ (fun r_1 u9 H locs hw hP hD hK hS => ?_)
  have hw : r_1 = 1 := hw
  subst hw
  have hP : va_P D vwCl [(mm, .inr (11, [.int 1, .ref mk9, .ref mt, .ref mb, .int 0, .int 0, .int 0, .int 0, .null, .int 0, .int 0, .double 0, .int 0, .int 0, .int 0]))] H := hP
  have hD : va_D A [(mm, .inr (11, [.int 1, .ref mk9, .ref mt, .ref mb, .int 0, .int 0, .int 0, .int 0, .null, .int 0, .int 0, .double 0, .int 0, .int 0, .int 0]))] := hD
  have hK : va_K D vwCl [] s := hK
  exact end_i (v := 1) hx hb hr rfl hlocks hP hD hK hS () rfl [0] [] rfl (by decide) rfl (Nat.le_of_ble_eq_true rfl) (Nat.le_of_ble_eq_true rfl) dX9_start_11
set_option maxHeartbeats 4000000 in
set_option maxRecDepth 100000 in
theorem c_start0 (l : Launch) (D : va_G) (e0 sz : Nat) (mm mk9 mt mb : Nat) : Ki (S := Unit) l yX9_start wsX9_start ({ frames := 1, cells := 0, slots := 0, locals := 22 } : Room) [.ref mm, .int 0, .int 1] D [(mm, .inr (11, [.int 0, .ref mk9, .ref mt, .ref mb, .int 0, .int 0, .int 0, .int 0, .null, .int 0, .int 0, .double 0, .int 0, .int 0, .int 0]))] [] e0 sz (fun r _ => r = 0) (fun _ => [(mm, .inr (11, [.int 0, .ref mk9, .ref mt, .ref mb, .int 0, .int 0, .int 0, .int 0, .null, .int 0, .int 0, .double 0, .int 0, .int 0, .int 0]))]) (fun _ => []) 0 0 := by
  refine Met.ofW (cc := cX9_start) (maxL := 3) (ret := (some .boolean)) (by decide) rfl ?_
  intro p e s m args below meth c s₁ B hml hv
  obtain ⟨rfl, hsz, hP, hK, hD0, hE⟩ := hv
  have hx := B.exec
  have hb := B.bytes
  have hr := B.returns
  have hts := atoms_spec (ws := wsX9_start) B.pre
  have hown : s.vm.findClass RX9 = some m.cls := findClass_of_methodNamed B.named
  have hlocks := B.notSynchronized
  subst hsz
  have hD := hD0.self (sz := s.heap.size)
  generalize hAe : va_A [(mm, .inr (11, [.int 0, .ref mk9, .ref mt, .ref mb, .int 0, .int 0, .int 0, .int 0, .null, .int 0, .int 0, .double 0, .int 0, .int 0, .int 0]))] s.heap.size = A at hD hE ⊢
  have hA : ∀ q : Nat, s.heap.size ≤ q → A q := fun q h => by rw [← hAe]; exact Or.inr h
  have hS : va_S A s.heap s.heap [] := va_S.rf
  have hP : va_P D vwCl [(mm, .inr (11, [.int 0, .ref mk9, .ref mt, .ref mb, .int 0, .int 0, .int 0, .int 0, .null, .int 0, .int 0, .double 0, .int 0, .int 0, .int 0]))] s.heap := hP
  have hl := lv_entry ([.ref mm, .int 0, .int 1]) (n := 3) (Nat.le_of_ble_eq_true rfl)
  rw [lg_entry_eq]
  generalize (lg_sl ([.ref mm, .int 0, .int 1]) ++ List.replicate (3 - (lg_sl ([.ref mm, .int 0, .int 1])).length) Slot.unset).toArray = ls at hl ⊢
  have hl : lv_has ls 3 [(0, .ref mm), (1, .int 0), (2, .int 1)] := hl
  refine lv_aload_n hx hb dX9_start_0 rfl (lv_at hl 0 rfl) ?_
  refine lv_iconst (v := 0) hx hb dX9_start_1 (by decide) ?_
  refine va_put (D := D) (ci := 11) (v := .int 0) (ty := .int) (C := RX9) (T := TX9) (N := 15) hx hb hts (by decide +kernel) tyX9 tyX9_ok nmX9 hown hK hP hD hS 0 rfl rfl 0 (by decide) (hts (.fieldLink RX9 22 "PickCellModel" "thrown" "I") (by decide +kernel)) (fun _ h9 => h9) rfl (by decide +kernel) rfl rfl (Nat.le_of_ble_eq_true rfl) dX9_start_2 (fun H locs hP hD hS => ?_)
  have hP : va_P D vwCl [(mm, .inr (11, [.int 0, .ref mk9, .ref mt, .ref mb, .int 0, .int 0, .int 0, .int 0, .null, .int 0, .int 0, .double 0, .int 0, .int 0, .int 0]))] H := hP
  have hD : va_D A [(mm, .inr (11, [.int 0, .ref mk9, .ref mt, .ref mb, .int 0, .int 0, .int 0, .int 0, .null, .int 0, .int 0, .double 0, .int 0, .int 0, .int 0]))] := hD
  refine lv_aload_n hx hb dX9_start_5 rfl (lv_at hl 0 rfl) ?_
  refine lv_iload_n hx hb dX9_start_6 rfl (lv_at hl 1 rfl) ?_
  refine lv_iload_n hx hb dX9_start_7 rfl (lv_at hl 2 rfl) ?_
  refine kV_i (As := [.int 0, .int 1]) (rest := []) (wr := []) ⟨hx, hb, hml, hown, hts⟩ (c_refuse0 l D e0 _ mm mk9 mt mb 1) (cwV 2 hts gX9_start_X9_refuse rfl rfl rfl (by decide +kernel) ⟨Nat.le_of_ble_eq_true rfl, Nat.le_of_ble_eq_true rfl⟩) hP hD hK hS hA hE rfl [0] [] [] rfl rfl (by decide) (by decide) (by decide) rfl 11 0 rfl rfl rfl rfl hl.1 (Nat.le_of_ble_eq_true rfl) dX9_start_8 ⟨Nat.le_of_ble_eq_true rfl, Nat.le_of_ble_eq_true rfl⟩ (fun r_1 u9 H locs hw hP hD hK hS => ?_)
  have hw : r_1 = 0 := hw
  subst hw
  have hP : va_P D vwCl [(mm, .inr (11, [.int 0, .ref mk9, .ref mt, .ref mb, .int 0, .int 0, .int 0, .int 0, .null, .int 0, .int 0, .double 0, .int 0, .int 0, .int 0]))] H := hP
  have hD : va_D A [(mm, .inr (11, [.int 0, .ref mk9, .ref mt, .ref mb, .int 0, .int 0, .int 0, .int 0, .null, .int 0, .int 0, .double 0, .int 0, .int 0, .int 0]))] := hD
  have hK : va_K D vwCl [] s := hK
  exact end_i (v := 0) hx hb hr rfl hlocks hP hD hK hS () rfl [0] [] rfl (by decide) rfl (Nat.le_of_ble_eq_true rfl) (Nat.le_of_ble_eq_true rfl) dX9_start_11
set_option maxHeartbeats 4000000 in
set_option maxRecDepth 100000 in
theorem c_noK (l : Launch) (D : va_G) (e0 sz : Nat) (mm mk9 mt mb : Nat) (p0 : Int32) : Ki (S := Unit) l yX9_isNoKind wsX9_isNoKind ({ frames := 1, cells := 0, slots := 0, locals := 22 } : Room) [.ref mm, .int p0] D [(mm, .inr (11, [.int 0, .ref mk9, .ref mt, .ref mb, .int 0, .int 0, .int 0, .int 0, .null, .int 0, .int 0, .double 0, .int 0, .int 0, .int 0])), (mk9, .inr (1, [.int 0, .ref e0, .int 0]))] [] e0 sz (fun r _ => r = 1) (fun _ => [(mm, .inr (11, [.int 0, .ref mk9, .ref mt, .ref mb, .int 0, .int 0, .int 0, .int 0, .null, .int 0, .int 0, .double 0, .int 0, .int 0, .int 0])), (mk9, .inr (1, [.int 0, .ref e0, .int 0]))]) (fun _ => []) 0 0 := by
  refine Met.ofW (cc := cX9_isNoKind) (maxL := 2) (ret := (some .boolean)) (by decide) rfl ?_
  intro p e s m args below meth c s₁ B hml hv
  obtain ⟨rfl, hsz, hP, hK, hD0, hE⟩ := hv
  have hx := B.exec
  have hb := B.bytes
  have hr := B.returns
  have hts := atoms_spec (ws := wsX9_isNoKind) B.pre
  have hown : s.vm.findClass RX9 = some m.cls := findClass_of_methodNamed B.named
  have hlocks := B.notSynchronized
  subst hsz
  have hD := hD0.self (sz := s.heap.size)
  generalize hAe : va_A [(mm, .inr (11, [.int 0, .ref mk9, .ref mt, .ref mb, .int 0, .int 0, .int 0, .int 0, .null, .int 0, .int 0, .double 0, .int 0, .int 0, .int 0])), (mk9, .inr (1, [.int 0, .ref e0, .int 0]))] s.heap.size = A at hD hE ⊢
  have hA : ∀ q : Nat, s.heap.size ≤ q → A q := fun q h => by rw [← hAe]; exact Or.inr h
  have hS : va_S A s.heap s.heap [] := va_S.rf
  have hP : va_P D vwCl [(mm, .inr (11, [.int 0, .ref mk9, .ref mt, .ref mb, .int 0, .int 0, .int 0, .int 0, .null, .int 0, .int 0, .double 0, .int 0, .int 0, .int 0])), (mk9, .inr (1, [.int 0, .ref e0, .int 0]))] s.heap := hP
  have hl := lv_entry ([.ref mm, .int p0]) (n := 2) (Nat.le_of_ble_eq_true rfl)
  rw [lg_entry_eq]
  generalize (lg_sl ([.ref mm, .int p0]) ++ List.replicate (2 - (lg_sl ([.ref mm, .int p0])).length) Slot.unset).toArray = ls at hl ⊢
  have hl : lv_has ls 2 [(0, .ref mm), (1, .int p0)] := hl
  refine lv_iload_n hx hb dX9_isNoKind_0 rfl (lv_at hl 1 rfl) ?_
  refine lv_iconst (v := 0) hx hb dX9_isNoKind_1 (by decide) ?_
  refine lv_aload_n hx hb dX9_isNoKind_2 rfl (lv_at hl 0 rfl) ?_
  refine va_get (D := D) (ci := 11) (v := .ref mk9) (C := RX9) (T := TX9) (N := 15) hx hb hts (by decide +kernel) hown hK hP 0 rfl rfl 1 (by decide) (hts (.fieldLink RX9 10 "PickCellModel" "kinds" "Ljava/util/ArrayList;") (by decide +kernel)) (fun _ h9 => h9) rfl dX9_isNoKind_3 ?_
  refine kV_i (As := []) (rest := [.int 0, .int p0]) (wr := [(mm, .inr (11, [.int 0, .ref mk9, .ref mt, .ref mb, .int 0, .int 0, .int 0, .int 0, .null, .int 0, .int 0, .double 0, .int 0, .int 0, .int 0]))]) ⟨hx, hb, hml, hown, hts⟩ (c_size l D e0 _ mk9 0 0 (.ref e0)) (cwV 0 hts gX9_isNoKind_Jx4a65c_size_8abf5 rfl rfl rfl (by decide +kernel) ⟨Nat.le_of_ble_eq_true rfl, Nat.le_of_ble_eq_true rfl⟩) hP hD hK hS hA hE rfl [1] [0] [] rfl rfl (by decide) (by decide) (by decide) rfl 1 1 rfl rfl rfl rfl hl.1 (Nat.le_of_ble_eq_true rfl) dX9_isNoKind_6 ⟨Nat.le_of_ble_eq_true rfl, Nat.le_of_ble_eq_true rfl⟩ (fun r_1 u9 H locs hw hP hD hK hS => ?_)
  have hw : r_1 = 0 := hw
  subst hw
  have hP : va_P D vwCl [(mm, .inr (11, [.int 0, .ref mk9, .ref mt, .ref mb, .int 0, .int 0, .int 0, .int 0, .null, .int 0, .int 0, .double 0, .int 0, .int 0, .int 0])), (mk9, .inr (1, [.int 0, .ref e0, .int 0]))] H := hP
  have hD : va_D A [(mm, .inr (11, [.int 0, .ref mk9, .ref mt, .ref mb, .int 0, .int 0, .int 0, .int 0, .null, .int 0, .int 0, .double 0, .int 0, .int 0, .int 0])), (mk9, .inr (1, [.int 0, .ref e0, .int 0]))] := hD
  have hK : va_K D vwCl [] s := hK
  refine lv_iconst (v := 1) hx hb dX9_isNoKind_9 (by decide) ?_
  refine lv_isub hx hb dX9_isNoKind_10 ?_
  refine lv_topi (fun x_2 ex_2 => ?_)
  obtain rfl : x_2 = (-1) := ex_2.trans (by decide)
  refine kS_i (As := [.int p0, .int 0, .int (-1)]) (rest := []) (wr := [(mm, .inr (11, [.int 0, .ref mk9, .ref mt, .ref mb, .int 0, .int 0, .int 0, .int 0, .null, .int 0, .int 0, .double 0, .int 0, .int 0, .int 0])), (mk9, .inr (1, [.int 0, .ref e0, .int 0]))]) ⟨hx, hb, hml, hown, hts⟩ (c_isIn l D e0 _ p0 0 (-1)) (va_cwS 3 hts gX9_isNoKind_X9_isIn rfl rfl rfl (by decide +kernel) ⟨Nat.le_of_ble_eq_true rfl, Nat.le_of_ble_eq_true rfl⟩) hP hD hK hS hA hE rfl [] [0, 1] [] rfl rfl (by decide) (by decide) (by decide) rfl rfl hl.1 (Nat.le_of_ble_eq_true rfl) dX9_isNoKind_11 ⟨Nat.le_of_ble_eq_true rfl, Nat.le_of_ble_eq_true rfl⟩ (fun r_3 u9 H locs hw hP hD hK hS => ?_)
  have hw : r_3 = 0 := hw.trans (isW_m1 _)
  subst hw
  have hP : va_P D vwCl [(mm, .inr (11, [.int 0, .ref mk9, .ref mt, .ref mb, .int 0, .int 0, .int 0, .int 0, .null, .int 0, .int 0, .double 0, .int 0, .int 0, .int 0])), (mk9, .inr (1, [.int 0, .ref e0, .int 0]))] H := hP
  have hD : va_D A [(mm, .inr (11, [.int 0, .ref mk9, .ref mt, .ref mb, .int 0, .int 0, .int 0, .int 0, .null, .int 0, .int 0, .double 0, .int 0, .int 0, .int 0])), (mk9, .inr (1, [.int 0, .ref e0, .int 0]))] := hD
  have hK : va_K D vwCl [] s := hK
  refine lv_if_ne (tgt := 21) hx hb dX9_isNoKind_14 (by decide) (fun h9 => absurd (by decide) h9) (fun _ => ?_)
  refine lv_iconst (v := 1) hx hb dX9_isNoKind_17 (by decide) ?_
  refine lv_goto (tgt := 22) hx hb dX9_isNoKind_18 (by decide) ?_
  exact end_i (v := 1) hx hb hr rfl hlocks hP hD hK hS () rfl [0, 1] [] rfl (by decide) rfl (Nat.le_of_ble_eq_true rfl) (Nat.le_of_ble_eq_true rfl) dX9_isNoKind_22
set_option maxHeartbeats 4000000 in
set_option maxRecDepth 100000 in
theorem c_noT (l : Launch) (D : va_G) (e0 sz : Nat) (mm mk9 mt mb : Nat) (p0 : Int32) : Ki (S := Unit) l yX9_isNoThing wsX9_isNoThing ({ frames := 1, cells := 0, slots := 0, locals := 22 } : Room) [.ref mm, .int p0] D [(mm, .inr (11, [.int 0, .ref mk9, .ref mt, .ref mb, .int 0, .int 0, .int 0, .int 0, .null, .int 0, .int 0, .double 0, .int 0, .int 0, .int 0])), (mt, .inr (1, [.int 0, .ref e0, .int 0]))] [] e0 sz (fun r _ => r = 1) (fun _ => [(mm, .inr (11, [.int 0, .ref mk9, .ref mt, .ref mb, .int 0, .int 0, .int 0, .int 0, .null, .int 0, .int 0, .double 0, .int 0, .int 0, .int 0])), (mt, .inr (1, [.int 0, .ref e0, .int 0]))]) (fun _ => []) 0 0 := by
  refine Met.ofW (cc := cX9_isNoThing) (maxL := 2) (ret := (some .boolean)) (by decide) rfl ?_
  intro p e s m args below meth c s₁ B hml hv
  obtain ⟨rfl, hsz, hP, hK, hD0, hE⟩ := hv
  have hx := B.exec
  have hb := B.bytes
  have hr := B.returns
  have hts := atoms_spec (ws := wsX9_isNoThing) B.pre
  have hown : s.vm.findClass RX9 = some m.cls := findClass_of_methodNamed B.named
  have hlocks := B.notSynchronized
  subst hsz
  have hD := hD0.self (sz := s.heap.size)
  generalize hAe : va_A [(mm, .inr (11, [.int 0, .ref mk9, .ref mt, .ref mb, .int 0, .int 0, .int 0, .int 0, .null, .int 0, .int 0, .double 0, .int 0, .int 0, .int 0])), (mt, .inr (1, [.int 0, .ref e0, .int 0]))] s.heap.size = A at hD hE ⊢
  have hA : ∀ q : Nat, s.heap.size ≤ q → A q := fun q h => by rw [← hAe]; exact Or.inr h
  have hS : va_S A s.heap s.heap [] := va_S.rf
  have hP : va_P D vwCl [(mm, .inr (11, [.int 0, .ref mk9, .ref mt, .ref mb, .int 0, .int 0, .int 0, .int 0, .null, .int 0, .int 0, .double 0, .int 0, .int 0, .int 0])), (mt, .inr (1, [.int 0, .ref e0, .int 0]))] s.heap := hP
  have hl := lv_entry ([.ref mm, .int p0]) (n := 2) (Nat.le_of_ble_eq_true rfl)
  rw [lg_entry_eq]
  generalize (lg_sl ([.ref mm, .int p0]) ++ List.replicate (2 - (lg_sl ([.ref mm, .int p0])).length) Slot.unset).toArray = ls at hl ⊢
  have hl : lv_has ls 2 [(0, .ref mm), (1, .int p0)] := hl
  refine lv_iload_n hx hb dX9_isNoThing_0 rfl (lv_at hl 1 rfl) ?_
  refine lv_iconst (v := 0) hx hb dX9_isNoThing_1 (by decide) ?_
  refine lv_aload_n hx hb dX9_isNoThing_2 rfl (lv_at hl 0 rfl) ?_
  refine va_get (D := D) (ci := 11) (v := .ref mt) (C := RX9) (T := TX9) (N := 15) hx hb hts (by decide +kernel) hown hK hP 0 rfl rfl 2 (by decide) (hts (.fieldLink RX9 16 "PickCellModel" "things" "Ljava/util/ArrayList;") (by decide +kernel)) (fun _ h9 => h9) rfl dX9_isNoThing_3 ?_
  refine kV_i (As := []) (rest := [.int 0, .int p0]) (wr := [(mm, .inr (11, [.int 0, .ref mk9, .ref mt, .ref mb, .int 0, .int 0, .int 0, .int 0, .null, .int 0, .int 0, .double 0, .int 0, .int 0, .int 0]))]) ⟨hx, hb, hml, hown, hts⟩ (c_size l D e0 _ mt 0 0 (.ref e0)) (cwV 0 hts gX9_isNoThing_Jx4a65c_size_8abf5 rfl rfl rfl (by decide +kernel) ⟨Nat.le_of_ble_eq_true rfl, Nat.le_of_ble_eq_true rfl⟩) hP hD hK hS hA hE rfl [1] [0] [] rfl rfl (by decide) (by decide) (by decide) rfl 1 1 rfl rfl rfl rfl hl.1 (Nat.le_of_ble_eq_true rfl) dX9_isNoThing_6 ⟨Nat.le_of_ble_eq_true rfl, Nat.le_of_ble_eq_true rfl⟩ (fun r_1 u9 H locs hw hP hD hK hS => ?_)
  have hw : r_1 = 0 := hw
  subst hw
  have hP : va_P D vwCl [(mm, .inr (11, [.int 0, .ref mk9, .ref mt, .ref mb, .int 0, .int 0, .int 0, .int 0, .null, .int 0, .int 0, .double 0, .int 0, .int 0, .int 0])), (mt, .inr (1, [.int 0, .ref e0, .int 0]))] H := hP
  have hD : va_D A [(mm, .inr (11, [.int 0, .ref mk9, .ref mt, .ref mb, .int 0, .int 0, .int 0, .int 0, .null, .int 0, .int 0, .double 0, .int 0, .int 0, .int 0])), (mt, .inr (1, [.int 0, .ref e0, .int 0]))] := hD
  have hK : va_K D vwCl [] s := hK
  refine lv_iconst (v := 1) hx hb dX9_isNoThing_9 (by decide) ?_
  refine lv_isub hx hb dX9_isNoThing_10 ?_
  refine lv_topi (fun x_2 ex_2 => ?_)
  obtain rfl : x_2 = (-1) := ex_2.trans (by decide)
  refine kS_i (As := [.int p0, .int 0, .int (-1)]) (rest := []) (wr := [(mm, .inr (11, [.int 0, .ref mk9, .ref mt, .ref mb, .int 0, .int 0, .int 0, .int 0, .null, .int 0, .int 0, .double 0, .int 0, .int 0, .int 0])), (mt, .inr (1, [.int 0, .ref e0, .int 0]))]) ⟨hx, hb, hml, hown, hts⟩ (c_isIn l D e0 _ p0 0 (-1)) (va_cwS 3 hts gX9_isNoThing_X9_isIn rfl rfl rfl (by decide +kernel) ⟨Nat.le_of_ble_eq_true rfl, Nat.le_of_ble_eq_true rfl⟩) hP hD hK hS hA hE rfl [] [0, 1] [] rfl rfl (by decide) (by decide) (by decide) rfl rfl hl.1 (Nat.le_of_ble_eq_true rfl) dX9_isNoThing_11 ⟨Nat.le_of_ble_eq_true rfl, Nat.le_of_ble_eq_true rfl⟩ (fun r_3 u9 H locs hw hP hD hK hS => ?_)
  have hw : r_3 = 0 := hw.trans (isW_m1 _)
  subst hw
  have hP : va_P D vwCl [(mm, .inr (11, [.int 0, .ref mk9, .ref mt, .ref mb, .int 0, .int 0, .int 0, .int 0, .null, .int 0, .int 0, .double 0, .int 0, .int 0, .int 0])), (mt, .inr (1, [.int 0, .ref e0, .int 0]))] H := hP
  have hD : va_D A [(mm, .inr (11, [.int 0, .ref mk9, .ref mt, .ref mb, .int 0, .int 0, .int 0, .int 0, .null, .int 0, .int 0, .double 0, .int 0, .int 0, .int 0])), (mt, .inr (1, [.int 0, .ref e0, .int 0]))] := hD
  have hK : va_K D vwCl [] s := hK
  refine lv_if_ne (tgt := 21) hx hb dX9_isNoThing_14 (by decide) (fun h9 => absurd (by decide) h9) (fun _ => ?_)
  refine lv_iconst (v := 1) hx hb dX9_isNoThing_17 (by decide) ?_
  refine lv_goto (tgt := 22) hx hb dX9_isNoThing_18 (by decide) ?_
  exact end_i (v := 1) hx hb hr rfl hlocks hP hD hK hS () rfl [0, 1] [] rfl (by decide) rfl (Nat.le_of_ble_eq_true rfl) (Nat.le_of_ble_eq_true rfl) dX9_isNoThing_22
set_option maxHeartbeats 4000000 in
set_option maxRecDepth 100000 in
theorem c_noB (l : Launch) (D : va_G) (e0 sz : Nat) (mm mk9 mt mb : Nat) (p0 : Int32) : Ki (S := Unit) l yX9_isNoBox wsX9_isNoBox ({ frames := 1, cells := 0, slots := 0, locals := 22 } : Room) [.ref mm, .int p0] D [(mm, .inr (11, [.int 0, .ref mk9, .ref mt, .ref mb, .int 0, .int 0, .int 0, .int 0, .null, .int 0, .int 0, .double 0, .int 0, .int 0, .int 0])), (mb, .inr (1, [.int 0, .ref e0, .int 0]))] [] e0 sz (fun r _ => r = 1) (fun _ => [(mm, .inr (11, [.int 0, .ref mk9, .ref mt, .ref mb, .int 0, .int 0, .int 0, .int 0, .null, .int 0, .int 0, .double 0, .int 0, .int 0, .int 0])), (mb, .inr (1, [.int 0, .ref e0, .int 0]))]) (fun _ => []) 0 0 := by
  refine Met.ofW (cc := cX9_isNoBox) (maxL := 2) (ret := (some .boolean)) (by decide) rfl ?_
  intro p e s m args below meth c s₁ B hml hv
  obtain ⟨rfl, hsz, hP, hK, hD0, hE⟩ := hv
  have hx := B.exec
  have hb := B.bytes
  have hr := B.returns
  have hts := atoms_spec (ws := wsX9_isNoBox) B.pre
  have hown : s.vm.findClass RX9 = some m.cls := findClass_of_methodNamed B.named
  have hlocks := B.notSynchronized
  subst hsz
  have hD := hD0.self (sz := s.heap.size)
  generalize hAe : va_A [(mm, .inr (11, [.int 0, .ref mk9, .ref mt, .ref mb, .int 0, .int 0, .int 0, .int 0, .null, .int 0, .int 0, .double 0, .int 0, .int 0, .int 0])), (mb, .inr (1, [.int 0, .ref e0, .int 0]))] s.heap.size = A at hD hE ⊢
  have hA : ∀ q : Nat, s.heap.size ≤ q → A q := fun q h => by rw [← hAe]; exact Or.inr h
  have hS : va_S A s.heap s.heap [] := va_S.rf
  have hP : va_P D vwCl [(mm, .inr (11, [.int 0, .ref mk9, .ref mt, .ref mb, .int 0, .int 0, .int 0, .int 0, .null, .int 0, .int 0, .double 0, .int 0, .int 0, .int 0])), (mb, .inr (1, [.int 0, .ref e0, .int 0]))] s.heap := hP
  have hl := lv_entry ([.ref mm, .int p0]) (n := 2) (Nat.le_of_ble_eq_true rfl)
  rw [lg_entry_eq]
  generalize (lg_sl ([.ref mm, .int p0]) ++ List.replicate (2 - (lg_sl ([.ref mm, .int p0])).length) Slot.unset).toArray = ls at hl ⊢
  have hl : lv_has ls 2 [(0, .ref mm), (1, .int p0)] := hl
  refine lv_iload_n hx hb dX9_isNoBox_0 rfl (lv_at hl 1 rfl) ?_
  refine lv_iconst (v := 0) hx hb dX9_isNoBox_1 (by decide) ?_
  refine lv_aload_n hx hb dX9_isNoBox_2 rfl (lv_at hl 0 rfl) ?_
  refine va_get (D := D) (ci := 11) (v := .ref mb) (C := RX9) (T := TX9) (N := 15) hx hb hts (by decide +kernel) hown hK hP 0 rfl rfl 3 (by decide) (hts (.fieldLink RX9 19 "PickCellModel" "boxes" "Ljava/util/ArrayList;") (by decide +kernel)) (fun _ h9 => h9) rfl dX9_isNoBox_3 ?_
  refine kV_i (As := []) (rest := [.int 0, .int p0]) (wr := [(mm, .inr (11, [.int 0, .ref mk9, .ref mt, .ref mb, .int 0, .int 0, .int 0, .int 0, .null, .int 0, .int 0, .double 0, .int 0, .int 0, .int 0]))]) ⟨hx, hb, hml, hown, hts⟩ (c_size l D e0 _ mb 0 0 (.ref e0)) (cwV 0 hts gX9_isNoBox_Jx4a65c_size_8abf5 rfl rfl rfl (by decide +kernel) ⟨Nat.le_of_ble_eq_true rfl, Nat.le_of_ble_eq_true rfl⟩) hP hD hK hS hA hE rfl [1] [0] [] rfl rfl (by decide) (by decide) (by decide) rfl 1 1 rfl rfl rfl rfl hl.1 (Nat.le_of_ble_eq_true rfl) dX9_isNoBox_6 ⟨Nat.le_of_ble_eq_true rfl, Nat.le_of_ble_eq_true rfl⟩ (fun r_1 u9 H locs hw hP hD hK hS => ?_)
  have hw : r_1 = 0 := hw
  subst hw
  have hP : va_P D vwCl [(mm, .inr (11, [.int 0, .ref mk9, .ref mt, .ref mb, .int 0, .int 0, .int 0, .int 0, .null, .int 0, .int 0, .double 0, .int 0, .int 0, .int 0])), (mb, .inr (1, [.int 0, .ref e0, .int 0]))] H := hP
  have hD : va_D A [(mm, .inr (11, [.int 0, .ref mk9, .ref mt, .ref mb, .int 0, .int 0, .int 0, .int 0, .null, .int 0, .int 0, .double 0, .int 0, .int 0, .int 0])), (mb, .inr (1, [.int 0, .ref e0, .int 0]))] := hD
  have hK : va_K D vwCl [] s := hK
  refine lv_iconst (v := 1) hx hb dX9_isNoBox_9 (by decide) ?_
  refine lv_isub hx hb dX9_isNoBox_10 ?_
  refine lv_topi (fun x_2 ex_2 => ?_)
  obtain rfl : x_2 = (-1) := ex_2.trans (by decide)
  refine kS_i (As := [.int p0, .int 0, .int (-1)]) (rest := []) (wr := [(mm, .inr (11, [.int 0, .ref mk9, .ref mt, .ref mb, .int 0, .int 0, .int 0, .int 0, .null, .int 0, .int 0, .double 0, .int 0, .int 0, .int 0])), (mb, .inr (1, [.int 0, .ref e0, .int 0]))]) ⟨hx, hb, hml, hown, hts⟩ (c_isIn l D e0 _ p0 0 (-1)) (va_cwS 3 hts gX9_isNoBox_X9_isIn rfl rfl rfl (by decide +kernel) ⟨Nat.le_of_ble_eq_true rfl, Nat.le_of_ble_eq_true rfl⟩) hP hD hK hS hA hE rfl [] [0, 1] [] rfl rfl (by decide) (by decide) (by decide) rfl rfl hl.1 (Nat.le_of_ble_eq_true rfl) dX9_isNoBox_11 ⟨Nat.le_of_ble_eq_true rfl, Nat.le_of_ble_eq_true rfl⟩ (fun r_3 u9 H locs hw hP hD hK hS => ?_)
  have hw : r_3 = 0 := hw.trans (isW_m1 _)
  subst hw
  have hP : va_P D vwCl [(mm, .inr (11, [.int 0, .ref mk9, .ref mt, .ref mb, .int 0, .int 0, .int 0, .int 0, .null, .int 0, .int 0, .double 0, .int 0, .int 0, .int 0])), (mb, .inr (1, [.int 0, .ref e0, .int 0]))] H := hP
  have hD : va_D A [(mm, .inr (11, [.int 0, .ref mk9, .ref mt, .ref mb, .int 0, .int 0, .int 0, .int 0, .null, .int 0, .int 0, .double 0, .int 0, .int 0, .int 0])), (mb, .inr (1, [.int 0, .ref e0, .int 0]))] := hD
  have hK : va_K D vwCl [] s := hK
  refine lv_if_ne (tgt := 21) hx hb dX9_isNoBox_14 (by decide) (fun h9 => absurd (by decide) h9) (fun _ => ?_)
  refine lv_iconst (v := 1) hx hb dX9_isNoBox_17 (by decide) ?_
  refine lv_goto (tgt := 22) hx hb dX9_isNoBox_18 (by decide) ?_
  exact end_i (v := 1) hx hb hr rfl hlocks hP hD hK hS () rfl [0, 1] [] rfl (by decide) rfl (Nat.le_of_ble_eq_true rfl) (Nat.le_of_ble_eq_true rfl) dX9_isNoBox_22
set_option maxHeartbeats 4000000 in
set_option maxRecDepth 100000 in
/-- the reference: tangle on a new object is refused -/
theorem c_m_tangle (l : Launch) (D : va_G) (e0 sz : Nat) (mm mk9 mt mb : Nat) (p0 p1 : Int32) : Ki (S := Unit) l yX9_tangle wsX9_tangle ({ frames := 2, cells := 0, slots := 0, locals := 44 } : Room) [.ref mm, .int p0, .int p1] D [(mm, .inr (11, [.int 0, .ref mk9, .ref mt, .ref mb, .int 0, .int 0, .int 0, .int 0, .null, .int 0, .int 0, .double 0, .int 0, .int 0, .int 0])), (mt, .inr (1, [.int 0, .ref e0, .int 0]))] [] e0 sz (fun r _ => r = 0) (fun _ => [(mm, .inr (11, [.int 1, .ref mk9, .ref mt, .ref mb, .int 0, .int 0, .int 0, .int 0, .null, .int 0, .int 0, .double 0, .int 0, .int 0, .int 0]))]) (fun _ => []) 0 0 := by
  refine Met.ofW (cc := cX9_tangle) (maxL := 3) (ret := (some .int)) (by decide) rfl ?_
  intro p e s m args below meth c s₁ B hml hv
  obtain ⟨rfl, hsz, hP, hK, hD0, hE⟩ := hv
  have hx := B.exec
  have hb := B.bytes
  have hr := B.returns
  have hts := atoms_spec (ws := wsX9_tangle) B.pre
  have hown : s.vm.findClass RX9 = some m.cls := findClass_of_methodNamed B.named
  have hlocks := B.notSynchronized
  subst hsz
  have hD := hD0.self (sz := s.heap.size)
  generalize hAe : va_A [(mm, .inr (11, [.int 0, .ref mk9, .ref mt, .ref mb, .int 0, .int 0, .int 0, .int 0, .null, .int 0, .int 0, .double 0, .int 0, .int 0, .int 0])), (mt, .inr (1, [.int 0, .ref e0, .int 0]))] s.heap.size = A at hD hE ⊢
  have hA : ∀ q : Nat, s.heap.size ≤ q → A q := fun q h => by rw [← hAe]; exact Or.inr h
  have hS : va_S A s.heap s.heap [] := va_S.rf
  have hP : va_P D vwCl [(mm, .inr (11, [.int 0, .ref mk9, .ref mt, .ref mb, .int 0, .int 0, .int 0, .int 0, .null, .int 0, .int 0, .double 0, .int 0, .int 0, .int 0])), (mt, .inr (1, [.int 0, .ref e0, .int 0]))] s.heap := hP
  have hl := lv_entry ([.ref mm, .int p0, .int p1]) (n := 3) (Nat.le_of_ble_eq_true rfl)
  rw [lg_entry_eq]
  generalize (lg_sl ([.ref mm, .int p0, .int p1]) ++ List.replicate (3 - (lg_sl ([.ref mm, .int p0, .int p1])).length) Slot.unset).toArray = ls at hl ⊢
  have hl : lv_has ls 3 [(0, .ref mm), (1, .int p0), (2, .int p1)] := hl
  refine lv_aload_n hx hb dX9_tangle_0 rfl (lv_at hl 0 rfl) ?_
  refine lv_aload_n hx hb dX9_tangle_1 rfl (lv_at hl 0 rfl) ?_
  refine lv_iload_n hx hb dX9_tangle_2 rfl (lv_at hl 1 rfl) ?_
  refine kV_i (As := [.int p0]) (rest := [.ref mm]) (wr := []) ⟨hx, hb, hml, hown, hts⟩ (c_noT l D e0 _ mm mk9 mt mb p0) (cwV 1 hts gX9_tangle_X9_isNoThing rfl rfl rfl (by decide +kernel) ⟨Nat.le_of_ble_eq_true rfl, Nat.le_of_ble_eq_true rfl⟩) hP hD hK hS hA hE rfl [0, 1] [] [] rfl rfl (by decide) (by decide) (by decide) rfl 11 0 rfl rfl rfl rfl hl.1 (Nat.le_of_ble_eq_true rfl) dX9_tangle_3 ⟨Nat.le_of_ble_eq_true rfl, Nat.le_of_ble_eq_true rfl⟩ (fun r_1 u9 H locs hw hP hD hK hS => ?_)
  have hw : r_1 = 1 := hw
  subst hw
  have hP : va_P D vwCl [(mm, .inr (11, [.int 0, .ref mk9, .ref mt, .ref mb, .int 0, .int 0, .int 0, .int 0, .null, .int 0, .int 0, .double 0, .int 0, .int 0, .int 0])), (mt, .inr (1, [.int 0, .ref e0, .int 0]))] H := hP
  have hD : va_D A [(mm, .inr (11, [.int 0, .ref mk9, .ref mt, .ref mb, .int 0, .int 0, .int 0, .int 0, .null, .int 0, .int 0, .double 0, .int 0, .int 0, .int 0])), (mt, .inr (1, [.int 0, .ref e0, .int 0]))] := hD
  have hK : va_K D vwCl [] s := hK
  refine lv_if_ne (tgt := 17) hx hb dX9_tangle_6 (by decide) (fun _ => ?_) (fun h9 => absurd h9 (by decide))
  refine lv_iconst (v := 1) hx hb dX9_tangle_17 (by decide) ?_
  refine lv_goto (tgt := 22) hx hb dX9_tangle_18 (by decide) ?_
  refine lv_iconst (v := 1) hx hb dX9_tangle_22 (by decide) ?_
  refine kV_i (As := [.int 1, .int 1]) (rest := []) (wr := [(mt, .inr (1, [.int 0, .ref e0, .int 0]))]) ⟨hx, hb, hml, hown, hts⟩ (c_start1 l D e0 _ mm mk9 mt mb) (cwV 2 hts gX9_tangle_X9_start rfl rfl rfl (by decide +kernel) ⟨Nat.le_of_ble_eq_true rfl, Nat.le_of_ble_eq_true rfl⟩) hP hD hK hS hA hE rfl [0] [1] [] rfl rfl (by decide) (by decide) (by decide) rfl 11 0 rfl rfl rfl rfl hl.1 (Nat.le_of_ble_eq_true rfl) dX9_tangle_23 ⟨Nat.le_of_ble_eq_true rfl, Nat.le_of_ble_eq_true rfl⟩ (fun r_2 u9 H locs hw hP hD hK hS => ?_)
  have hw : r_2 = 1 := hw
  subst hw
  have hP : va_P D vwCl [(mt, .inr (1, [.int 0, .ref e0, .int 0])), (mm, .inr (11, [.int 1, .ref mk9, .ref mt, .ref mb, .int 0, .int 0, .int 0, .int 0, .null, .int 0, .int 0, .double 0, .int 0, .int 0, .int 0]))] H := hP
  have hD : va_D A [(mt, .inr (1, [.int 0, .ref e0, .int 0])), (mm, .inr (11, [.int 1, .ref mk9, .ref mt, .ref mb, .int 0, .int 0, .int 0, .int 0, .null, .int 0, .int 0, .double 0, .int 0, .int 0, .int 0]))] := hD
  have hK : va_K D vwCl [] s := hK
  refine lv_if_ne (tgt := 94) hx hb dX9_tangle_26 (by decide) (fun _ => ?_) (fun h9 => absurd h9 (by decide))
  refine lv_iconst (v := 0) hx hb dX9_tangle_94 (by decide) ?_
  exact end_i (v := 0) hx hb hr rfl hlocks hP hD hK hS () rfl [1] [] rfl (by decide) rfl (Nat.le_of_ble_eq_true rfl) (Nat.le_of_ble_eq_true rfl) dX9_tangle_95
set_option maxHeartbeats 4000000 in
set_option maxRecDepth 100000 in
/-- the reference: shake on a new object is refused -/
theorem c_m_shake (l : Launch) (D : va_G) (e0 sz : Nat) (mm mk9 mt mb : Nat) (p0 : Int32) : Ki (S := Unit) l yX9_shake wsX9_shake ({ frames := 2, cells := 0, slots := 0, locals := 44 } : Room) [.ref mm, .int p0] D [(mm, .inr (11, [.int 0, .ref mk9, .ref mt, .ref mb, .int 0, .int 0, .int 0, .int 0, .null, .int 0, .int 0, .double 0, .int 0, .int 0, .int 0])), (mt, .inr (1, [.int 0, .ref e0, .int 0]))] [] e0 sz (fun r _ => r = 0) (fun _ => [(mm, .inr (11, [.int 1, .ref mk9, .ref mt, .ref mb, .int 0, .int 0, .int 0, .int 0, .null, .int 0, .int 0, .double 0, .int 0, .int 0, .int 0]))]) (fun _ => []) 0 0 := by
  refine Met.ofW (cc := cX9_shake) (maxL := 3) (ret := (some .int)) (by decide) rfl ?_
  intro p e s m args below meth c s₁ B hml hv
  obtain ⟨rfl, hsz, hP, hK, hD0, hE⟩ := hv
  have hx := B.exec
  have hb := B.bytes
  have hr := B.returns
  have hts := atoms_spec (ws := wsX9_shake) B.pre
  have hown : s.vm.findClass RX9 = some m.cls := findClass_of_methodNamed B.named
  have hlocks := B.notSynchronized
  subst hsz
  have hD := hD0.self (sz := s.heap.size)
  generalize hAe : va_A [(mm, .inr (11, [.int 0, .ref mk9, .ref mt, .ref mb, .int 0, .int 0, .int 0, .int 0, .null, .int 0, .int 0, .double 0, .int 0, .int 0, .int 0])), (mt, .inr (1, [.int 0, .ref e0, .int 0]))] s.heap.size = A at hD hE ⊢
  have hA : ∀ q : Nat, s.heap.size ≤ q → A q := fun q h => by rw [← hAe]; exact Or.inr h
  have hS : va_S A s.heap s.heap [] := va_S.rf
  have hP : va_P D vwCl [(mm, .inr (11, [.int 0, .ref mk9, .ref mt, .ref mb, .int 0, .int 0, .int 0, .int 0, .null, .int 0, .int 0, .double 0, .int 0, .int 0, .int 0])), (mt, .inr (1, [.int 0, .ref e0, .int 0]))] s.heap := hP
  have hl := lv_entry ([.ref mm, .int p0]) (n := 3) (Nat.le_of_ble_eq_true rfl)
  rw [lg_entry_eq]
  generalize (lg_sl ([.ref mm, .int p0]) ++ List.replicate (3 - (lg_sl ([.ref mm, .int p0])).length) Slot.unset).toArray = ls at hl ⊢
  have hl : lv_has ls 3 [(0, .ref mm), (1, .int p0)] := hl
  refine lv_aload_n hx hb dX9_shake_0 rfl (lv_at hl 0 rfl) ?_
  refine lv_aload_n hx hb dX9_shake_1 rfl (lv_at hl 0 rfl) ?_
  refine lv_iload_n hx hb dX9_shake_2 rfl (lv_at hl 1 rfl) ?_
  refine kV_i (As := [.int p0]) (rest := [.ref mm]) (wr := []) ⟨hx, hb, hml, hown, hts⟩ (c_noT l D e0 _ mm mk9 mt mb p0) (cwV 1 hts gX9_shake_X9_isNoThing rfl rfl rfl (by decide +kernel) ⟨Nat.le_of_ble_eq_true rfl, Nat.le_of_ble_eq_true rfl⟩) hP hD hK hS hA hE rfl [0, 1] [] [] rfl rfl (by decide) (by decide) (by decide) rfl 11 0 rfl rfl rfl rfl hl.1 (Nat.le_of_ble_eq_true rfl) dX9_shake_3 ⟨Nat.le_of_ble_eq_true rfl, Nat.le_of_ble_eq_true rfl⟩ (fun r_1 u9 H locs hw hP hD hK hS => ?_)
  have hw : r_1 = 1 := hw
  subst hw
  have hP : va_P D vwCl [(mm, .inr (11, [.int 0, .ref mk9, .ref mt, .ref mb, .int 0, .int 0, .int 0, .int 0, .null, .int 0, .int 0, .double 0, .int 0, .int 0, .int 0])), (mt, .inr (1, [.int 0, .ref e0, .int 0]))] H := hP
  have hD : va_D A [(mm, .inr (11, [.int 0, .ref mk9, .ref mt, .ref mb, .int 0, .int 0, .int 0, .int 0, .null, .int 0, .int 0, .double 0, .int 0, .int 0, .int 0])), (mt, .inr (1, [.int 0, .ref e0, .int 0]))] := hD
  have hK : va_K D vwCl [] s := hK
  refine lv_iconst (v := 1) hx hb dX9_shake_6 (by decide) ?_
  refine kV_i (As := [.int 1, .int 1]) (rest := []) (wr := [(mt, .inr (1, [.int 0, .ref e0, .int 0]))]) ⟨hx, hb, hml, hown, hts⟩ (c_start1 l D e0 _ mm mk9 mt mb) (cwV 2 hts gX9_shake_X9_start rfl rfl rfl (by decide +kernel) ⟨Nat.le_of_ble_eq_true rfl, Nat.le_of_ble_eq_true rfl⟩) hP hD hK hS hA hE rfl [0] [1] [] rfl rfl (by decide) (by decide) (by decide) rfl 11 0 rfl rfl rfl rfl hl.1 (Nat.le_of_ble_eq_true rfl) dX9_shake_7 ⟨Nat.le_of_ble_eq_true rfl, Nat.le_of_ble_eq_true rfl⟩ (fun r_2 u9 H locs hw hP hD hK hS => ?_)
  have hw : r_2 = 1 := hw
  subst hw
  have hP : va_P D vwCl [(mt, .inr (1, [.int 0, .ref e0, .int 0])), (mm, .inr (11, [.int 1, .ref mk9, .ref mt, .ref mb, .int 0, .int 0, .int 0, .int 0, .null, .int 0, .int 0, .double 0, .int 0, .int 0, .int 0]))] H := hP
  have hD : va_D A [(mt, .inr (1, [.int 0, .ref e0, .int 0])), (mm, .inr (11, [.int 1, .ref mk9, .ref mt, .ref mb, .int 0, .int 0, .int 0, .int 0, .null, .int 0, .int 0, .double 0, .int 0, .int 0, .int 0]))] := hD
  have hK : va_K D vwCl [] s := hK
  refine lv_if_eq (tgt := 15) hx hb dX9_shake_10 (by decide) (fun h9 => absurd h9 (by decide)) (fun _ => ?_)
  refine lv_iconst (v := 0) hx hb dX9_shake_13 (by decide) ?_
  exact end_i (v := 0) hx hb hr rfl hlocks hP hD hK hS () rfl [1] [] rfl (by decide) rfl (Nat.le_of_ble_eq_true rfl) (Nat.le_of_ble_eq_true rfl) dX9_shake_14
set_option maxHeartbeats 4000000 in
set_option maxRecDepth 100000 in
/-- the reference: pick on a new object is refused -/
theorem c_m_pick (l : Launch) (D : va_G) (e0 sz : Nat) (mm mk9 mt mb : Nat) (p0 p1 : Int32) : Ki (S := Unit) l yX9_pick wsX9_pick ({ frames := 2, cells := 0, slots := 0, locals := 44 } : Room) [.ref mm, .int p0, .int p1] D [(mm, .inr (11, [.int 0, .ref mk9, .ref mt, .ref mb, .int 0, .int 0, .int 0, .int 0, .null, .int 0, .int 0, .double 0, .int 0, .int 0, .int 0])), (mt, .inr (1, [.int 0, .ref e0, .int 0]))] [] e0 sz (fun r _ => r = 0) (fun _ => [(mm, .inr (11, [.int 1, .ref mk9, .ref mt, .ref mb, .int 0, .int 0, .int 0, .int 0, .null, .int 0, .int 0, .double 0, .int 0, .int 0, .int 0]))]) (fun _ => []) 0 0 := by
  refine Met.ofW (cc := cX9_pick) (maxL := 8) (ret := (some .int)) (by decide) rfl ?_
  intro p e s m args below meth c s₁ B hml hv
  obtain ⟨rfl, hsz, hP, hK, hD0, hE⟩ := hv
  have hx := B.exec
  have hb := B.bytes
  have hr := B.returns
  have hts := atoms_spec (ws := wsX9_pick) B.pre
  have hown : s.vm.findClass RX9 = some m.cls := findClass_of_methodNamed B.named
  have hlocks := B.notSynchronized
  subst hsz
  have hD := hD0.self (sz := s.heap.size)
  generalize hAe : va_A [(mm, .inr (11, [.int 0, .ref mk9, .ref mt, .ref mb, .int 0, .int 0, .int 0, .int 0, .null, .int 0, .int 0, .double 0, .int 0, .int 0, .int 0])), (mt, .inr (1, [.int 0, .ref e0, .int 0]))] s.heap.size = A at hD hE ⊢
  have hA : ∀ q : Nat, s.heap.size ≤ q → A q := fun q h => by rw [← hAe]; exact Or.inr h
  have hS : va_S A s.heap s.heap [] := va_S.rf
  have hP : va_P D vwCl [(mm, .inr (11, [.int 0, .ref mk9, .ref mt, .ref mb, .int 0, .int 0, .int 0, .int 0, .null, .int 0, .int 0, .double 0, .int 0, .int 0, .int 0])), (mt, .inr (1, [.int 0, .ref e0, .int 0]))] s.heap := hP
  have hl := lv_entry ([.ref mm, .int p0, .int p1]) (n := 8) (Nat.le_of_ble_eq_true rfl)
  rw [lg_entry_eq]
  generalize (lg_sl ([.ref mm, .int p0, .int p1]) ++ List.replicate (8 - (lg_sl ([.ref mm, .int p0, .int p1])).length) Slot.unset).toArray = ls at hl ⊢
  have hl : lv_has ls 8 [(0, .ref mm), (1, .int p0), (2, .int p1)] := hl
  refine lv_aload_n hx hb dX9_pick_0 rfl (lv_at hl 0 rfl) ?_
  refine lv_aload_n hx hb dX9_pick_1 rfl (lv_at hl 0 rfl) ?_
  refine lv_iload_n hx hb dX9_pick_2 rfl (lv_at hl 1 rfl) ?_
  refine kV_i (As := [.int p0]) (rest := [.ref mm]) (wr := []) ⟨hx, hb, hml, hown, hts⟩ (c_noT l D e0 _ mm mk9 mt mb p0) (cwV 1 hts gX9_pick_X9_isNoThing rfl rfl rfl (by decide +kernel) ⟨Nat.le_of_ble_eq_true rfl, Nat.le_of_ble_eq_true rfl⟩) hP hD hK hS hA hE rfl [0, 1] [] [] rfl rfl (by decide) (by decide) (by decide) rfl 11 0 rfl rfl rfl rfl hl.1 (Nat.le_of_ble_eq_true rfl) dX9_pick_3 ⟨Nat.le_of_ble_eq_true rfl, Nat.le_of_ble_eq_true rfl⟩ (fun r_1 u9 H locs hw hP hD hK hS => ?_)
  have hw : r_1 = 1 := hw
  subst hw
  have hP : va_P D vwCl [(mm, .inr (11, [.int 0, .ref mk9, .ref mt, .ref mb, .int 0, .int 0, .int 0, .int 0, .null, .int 0, .int 0, .double 0, .int 0, .int 0, .int 0])), (mt, .inr (1, [.int 0, .ref e0, .int 0]))] H := hP
  have hD : va_D A [(mm, .inr (11, [.int 0, .ref mk9, .ref mt, .ref mb, .int 0, .int 0, .int 0, .int 0, .null, .int 0, .int 0, .double 0, .int 0, .int 0, .int 0])), (mt, .inr (1, [.int 0, .ref e0, .int 0]))] := hD
  have hK : va_K D vwCl [] s := hK
  refine lv_iconst (v := 1) hx hb dX9_pick_6 (by decide) ?_
  refine kV_i (As := [.int 1, .int 1]) (rest := []) (wr := [(mt, .inr (1, [.int 0, .ref e0, .int 0]))]) ⟨hx, hb, hml, hown, hts⟩ (c_start1 l D e0 _ mm mk9 mt mb) (cwV 2 hts gX9_pick_X9_start rfl rfl rfl (by decide +kernel) ⟨Nat.le_of_ble_eq_true rfl, Nat.le_of_ble_eq_true rfl⟩) hP hD hK hS hA hE rfl [0] [1] [] rfl rfl (by decide) (by decide) (by decide) rfl 11 0 rfl rfl rfl rfl hl.1 (Nat.le_of_ble_eq_true rfl) dX9_pick_7 ⟨Nat.le_of_ble_eq_true rfl, Nat.le_of_ble_eq_true rfl⟩ (fun r_2 u9 H locs hw hP hD hK hS => ?_)
  have hw : r_2 = 1 := hw
  subst hw
  have hP : va_P D vwCl [(mt, .inr (1, [.int 0, .ref e0, .int 0])), (mm, .inr (11, [.int 1, .ref mk9, .ref mt, .ref mb, .int 0, .int 0, .int 0, .int 0, .null, .int 0, .int 0, .double 0, .int 0, .int 0, .int 0]))] H := hP
  have hD : va_D A [(mt, .inr (1, [.int 0, .ref e0, .int 0])), (mm, .inr (11, [.int 1, .ref mk9, .ref mt, .ref mb, .int 0, .int 0, .int 0, .int 0, .null, .int 0, .int 0, .double 0, .int 0, .int 0, .int 0]))] := hD
  have hK : va_K D vwCl [] s := hK
  refine lv_if_ne (tgt := 62) hx hb dX9_pick_10 (by decide) (fun _ => ?_) (fun h9 => absurd h9 (by decide))
  refine lv_iconst (v := 0) hx hb dX9_pick_62 (by decide) ?_
  exact end_i (v := 0) hx hb hr rfl hlocks hP hD hK hS () rfl [1] [] rfl (by decide) rfl (Nat.le_of_ble_eq_true rfl) (Nat.le_of_ble_eq_true rfl) dX9_pick_63
set_option maxHeartbeats 4000000 in
set_option maxRecDepth 100000 in
/-- the reference: put on a new object is refused -/
theorem c_m_put (l : Launch) (D : va_G) (e0 sz : Nat) (mm mk9 mt mb : Nat) (p0 : Int32) : Ki (S := Unit) l yX9_put wsX9_put ({ frames := 2, cells := 0, slots := 0, locals := 44 } : Room) [.ref mm, .int p0] D [(mm, .inr (11, [.int 0, .ref mk9, .ref mt, .ref mb, .int 0, .int 0, .int 0, .int 0, .null, .int 0, .int 0, .double 0, .int 0, .int 0, .int 0])), (mb, .inr (1, [.int 0, .ref e0, .int 0]))] [] e0 sz (fun r _ => r = 0) (fun _ => [(mm, .inr (11, [.int 1, .ref mk9, .ref mt, .ref mb, .int 0, .int 0, .int 0, .int 0, .null, .int 0, .int 0, .double 0, .int 0, .int 0, .int 0]))]) (fun _ => []) 0 0 := by
  refine Met.ofW (cc := cX9_put) (maxL := 4) (ret := (some .int)) (by decide) rfl ?_
  intro p e s m args below meth c s₁ B hml hv
  obtain ⟨rfl, hsz, hP, hK, hD0, hE⟩ := hv
  have hx := B.exec
  have hb := B.bytes
  have hr := B.returns
  have hts := atoms_spec (ws := wsX9_put) B.pre
  have hown : s.vm.findClass RX9 = some m.cls := findClass_of_methodNamed B.named
  have hlocks := B.notSynchronized
  subst hsz
  have hD := hD0.self (sz := s.heap.size)
  generalize hAe : va_A [(mm, .inr (11, [.int 0, .ref mk9, .ref mt, .ref mb, .int 0, .int 0, .int 0, .int 0, .null, .int 0, .int 0, .double 0, .int 0, .int 0, .int 0])), (mb, .inr (1, [.int 0, .ref e0, .int 0]))] s.heap.size = A at hD hE ⊢
  have hA : ∀ q : Nat, s.heap.size ≤ q → A q := fun q h => by rw [← hAe]; exact Or.inr h
  have hS : va_S A s.heap s.heap [] := va_S.rf
  have hP : va_P D vwCl [(mm, .inr (11, [.int 0, .ref mk9, .ref mt, .ref mb, .int 0, .int 0, .int 0, .int 0, .null, .int 0, .int 0, .double 0, .int 0, .int 0, .int 0])), (mb, .inr (1, [.int 0, .ref e0, .int 0]))] s.heap := hP
  have hl := lv_entry ([.ref mm, .int p0]) (n := 4) (Nat.le_of_ble_eq_true rfl)
  rw [lg_entry_eq]
  generalize (lg_sl ([.ref mm, .int p0]) ++ List.replicate (4 - (lg_sl ([.ref mm, .int p0])).length) Slot.unset).toArray = ls at hl ⊢
  have hl : lv_has ls 4 [(0, .ref mm), (1, .int p0)] := hl
  refine lv_aload_n hx hb dX9_put_0 rfl (lv_at hl 0 rfl) ?_
  refine lv_aload_n hx hb dX9_put_1 rfl (lv_at hl 0 rfl) ?_
  refine lv_iload_n hx hb dX9_put_2 rfl (lv_at hl 1 rfl) ?_
  refine kV_i (As := [.int p0]) (rest := [.ref mm]) (wr := []) ⟨hx, hb, hml, hown, hts⟩ (c_noB l D e0 _ mm mk9 mt mb p0) (cwV 1 hts gX9_put_X9_isNoBox rfl rfl rfl (by decide +kernel) ⟨Nat.le_of_ble_eq_true rfl, Nat.le_of_ble_eq_true rfl⟩) hP hD hK hS hA hE rfl [0, 1] [] [] rfl rfl (by decide) (by decide) (by decide) rfl 11 0 rfl rfl rfl rfl hl.1 (Nat.le_of_ble_eq_true rfl) dX9_put_3 ⟨Nat.le_of_ble_eq_true rfl, Nat.le_of_ble_eq_true rfl⟩ (fun r_1 u9 H locs hw hP hD hK hS => ?_)
  have hw : r_1 = 1 := hw
  subst hw
  have hP : va_P D vwCl [(mm, .inr (11, [.int 0, .ref mk9, .ref mt, .ref mb, .int 0, .int 0, .int 0, .int 0, .null, .int 0, .int 0, .double 0, .int 0, .int 0, .int 0])), (mb, .inr (1, [.int 0, .ref e0, .int 0]))] H := hP
  have hD : va_D A [(mm, .inr (11, [.int 0, .ref mk9, .ref mt, .ref mb, .int 0, .int 0, .int 0, .int 0, .null, .int 0, .int 0, .double 0, .int 0, .int 0, .int 0])), (mb, .inr (1, [.int 0, .ref e0, .int 0]))] := hD
  have hK : va_K D vwCl [] s := hK
  refine lv_iconst (v := 1) hx hb dX9_put_6 (by decide) ?_
  refine kV_i (As := [.int 1, .int 1]) (rest := []) (wr := [(mb, .inr (1, [.int 0, .ref e0, .int 0]))]) ⟨hx, hb, hml, hown, hts⟩ (c_start1 l D e0 _ mm mk9 mt mb) (cwV 2 hts gX9_put_X9_start rfl rfl rfl (by decide +kernel) ⟨Nat.le_of_ble_eq_true rfl, Nat.le_of_ble_eq_true rfl⟩) hP hD hK hS hA hE rfl [0] [1] [] rfl rfl (by decide) (by decide) (by decide) rfl 11 0 rfl rfl rfl rfl hl.1 (Nat.le_of_ble_eq_true rfl) dX9_put_7 ⟨Nat.le_of_ble_eq_true rfl, Nat.le_of_ble_eq_true rfl⟩ (fun r_2 u9 H locs hw hP hD hK hS => ?_)
  have hw : r_2 = 1 := hw
  subst hw
  have hP : va_P D vwCl [(mb, .inr (1, [.int 0, .ref e0, .int 0])), (mm, .inr (11, [.int 1, .ref mk9, .ref mt, .ref mb, .int 0, .int 0, .int 0, .int 0, .null, .int 0, .int 0, .double 0, .int 0, .int 0, .int 0]))] H := hP
  have hD : va_D A [(mb, .inr (1, [.int 0, .ref e0, .int 0])), (mm, .inr (11, [.int 1, .ref mk9, .ref mt, .ref mb, .int 0, .int 0, .int 0, .int 0, .null, .int 0, .int 0, .double 0, .int 0, .int 0, .int 0]))] := hD
  have hK : va_K D vwCl [] s := hK
  refine lv_if_ne (tgt := 50) hx hb dX9_put_10 (by decide) (fun _ => ?_) (fun h9 => absurd h9 (by decide))
  refine lv_iconst (v := 0) hx hb dX9_put_50 (by decide) ?_
  exact end_i (v := 0) hx hb hr rfl hlocks hP hD hK hS () rfl [1] [] rfl (by decide) rfl (Nat.le_of_ble_eq_true rfl) (Nat.le_of_ble_eq_true rfl) dX9_put_51
set_option maxHeartbeats 4000000 in
set_option maxRecDepth 100000 in
/-- the reference: close on a new object is refused -/
theorem c_m_close (l : Launch) (D : va_G) (e0 sz : Nat) (mm mk9 mt mb : Nat) (p0 : Int32) : Ki (S := Unit) l yX9_close wsX9_close ({ frames := 2, cells := 0, slots := 0, locals := 44 } : Room) [.ref mm, .int p0] D [(mm, .inr (11, [.int 0, .ref mk9, .ref mt, .ref mb, .int 0, .int 0, .int 0, .int 0, .null, .int 0, .int 0, .double 0, .int 0, .int 0, .int 0])), (mb, .inr (1, [.int 0, .ref e0, .int 0]))] [] e0 sz (fun r _ => r = 0) (fun _ => [(mm, .inr (11, [.int 1, .ref mk9, .ref mt, .ref mb, .int 0, .int 0, .int 0, .int 0, .null, .int 0, .int 0, .double 0, .int 0, .int 0, .int 0]))]) (fun _ => []) 0 0 := by
  refine Met.ofW (cc := cX9_close) (maxL := 2) (ret := (some .int)) (by decide) rfl ?_
  intro p e s m args below meth c s₁ B hml hv
  obtain ⟨rfl, hsz, hP, hK, hD0, hE⟩ := hv
  have hx := B.exec
  have hb := B.bytes
  have hr := B.returns
  have hts := atoms_spec (ws := wsX9_close) B.pre
  have hown : s.vm.findClass RX9 = some m.cls := findClass_of_methodNamed B.named
  have hlocks := B.notSynchronized
  subst hsz
  have hD := hD0.self (sz := s.heap.size)
  generalize hAe : va_A [(mm, .inr (11, [.int 0, .ref mk9, .ref mt, .ref mb, .int 0, .int 0, .int 0, .int 0, .null, .int 0, .int 0, .double 0, .int 0, .int 0, .int 0])), (mb, .inr (1, [.int 0, .ref e0, .int 0]))] s.heap.size = A at hD hE ⊢
  have hA : ∀ q : Nat, s.heap.size ≤ q → A q := fun q h => by rw [← hAe]; exact Or.inr h
  have hS : va_S A s.heap s.heap [] := va_S.rf
  have hP : va_P D vwCl [(mm, .inr (11, [.int 0, .ref mk9, .ref mt, .ref mb, .int 0, .int 0, .int 0, .int 0, .null, .int 0, .int 0, .double 0, .int 0, .int 0, .int 0])), (mb, .inr (1, [.int 0, .ref e0, .int 0]))] s.heap := hP
  have hl := lv_entry ([.ref mm, .int p0]) (n := 2) (Nat.le_of_ble_eq_true rfl)
  rw [lg_entry_eq]
  generalize (lg_sl ([.ref mm, .int p0]) ++ List.replicate (2 - (lg_sl ([.ref mm, .int p0])).length) Slot.unset).toArray = ls at hl ⊢
  have hl : lv_has ls 2 [(0, .ref mm), (1, .int p0)] := hl
  refine lv_aload_n hx hb dX9_close_0 rfl (lv_at hl 0 rfl) ?_
  refine lv_aload_n hx hb dX9_close_1 rfl (lv_at hl 0 rfl) ?_
  refine lv_iload_n hx hb dX9_close_2 rfl (lv_at hl 1 rfl) ?_
  refine kV_i (As := [.int p0]) (rest := [.ref mm]) (wr := []) ⟨hx, hb, hml, hown, hts⟩ (c_noB l D e0 _ mm mk9 mt mb p0) (cwV 1 hts gX9_close_X9_isNoBox rfl rfl rfl (by decide +kernel) ⟨Nat.le_of_ble_eq_true rfl, Nat.le_of_ble_eq_true rfl⟩) hP hD hK hS hA hE rfl [0, 1] [] [] rfl rfl (by decide) (by decide) (by decide) rfl 11 0 rfl rfl rfl rfl hl.1 (Nat.le_of_ble_eq_true rfl) dX9_close_3 ⟨Nat.le_of_ble_eq_true rfl, Nat.le_of_ble_eq_true rfl⟩ (fun r_1 u9 H locs hw hP hD hK hS => ?_)
  have hw : r_1 = 1 := hw
  subst hw
  have hP : va_P D vwCl [(mm, .inr (11, [.int 0, .ref mk9, .ref mt, .ref mb, .int 0, .int 0, .int 0, .int 0, .null, .int 0, .int 0, .double 0, .int 0, .int 0, .int 0])), (mb, .inr (1, [.int 0, .ref e0, .int 0]))] H := hP
  have hD : va_D A [(mm, .inr (11, [.int 0, .ref mk9, .ref mt, .ref mb, .int 0, .int 0, .int 0, .int 0, .null, .int 0, .int 0, .double 0, .int 0, .int 0, .int 0])), (mb, .inr (1, [.int 0, .ref e0, .int 0]))] := hD
  have hK : va_K D vwCl [] s := hK
  refine lv_iconst (v := 1) hx hb dX9_close_6 (by decide) ?_
  refine kV_i (As := [.int 1, .int 1]) (rest := []) (wr := [(mb, .inr (1, [.int 0, .ref e0, .int 0]))]) ⟨hx, hb, hml, hown, hts⟩ (c_start1 l D e0 _ mm mk9 mt mb) (cwV 2 hts gX9_close_X9_start rfl rfl rfl (by decide +kernel) ⟨Nat.le_of_ble_eq_true rfl, Nat.le_of_ble_eq_true rfl⟩) hP hD hK hS hA hE rfl [0] [1] [] rfl rfl (by decide) (by decide) (by decide) rfl 11 0 rfl rfl rfl rfl hl.1 (Nat.le_of_ble_eq_true rfl) dX9_close_7 ⟨Nat.le_of_ble_eq_true rfl, Nat.le_of_ble_eq_true rfl⟩ (fun r_2 u9 H locs hw hP hD hK hS => ?_)
  have hw : r_2 = 1 := hw
  subst hw
  have hP : va_P D vwCl [(mb, .inr (1, [.int 0, .ref e0, .int 0])), (mm, .inr (11, [.int 1, .ref mk9, .ref mt, .ref mb, .int 0, .int 0, .int 0, .int 0, .null, .int 0, .int 0, .double 0, .int 0, .int 0, .int 0]))] H := hP
  have hD : va_D A [(mb, .inr (1, [.int 0, .ref e0, .int 0])), (mm, .inr (11, [.int 1, .ref mk9, .ref mt, .ref mb, .int 0, .int 0, .int 0, .int 0, .null, .int 0, .int 0, .double 0, .int 0, .int 0, .int 0]))] := hD
  have hK : va_K D vwCl [] s := hK
  refine lv_if_ne (tgt := 43) hx hb dX9_close_10 (by decide) (fun _ => ?_) (fun h9 => absurd h9 (by decide))
  refine lv_iconst (v := 0) hx hb dX9_close_43 (by decide) ?_
  exact end_i (v := 0) hx hb hr rfl hlocks hP hD hK hS () rfl [1] [] rfl (by decide) rfl (Nat.le_of_ble_eq_true rfl) (Nat.le_of_ble_eq_true rfl) dX9_close_44
set_option maxHeartbeats 4000000 in
set_option maxRecDepth 100000 in
/-- the reference: ofKind on a new object is refused -/
theorem c_m_ofKind (l : Launch) (D : va_G) (e0 sz : Nat) (mm mk9 mt mb : Nat) (p0 p1 : Int32) : Ki (S := Unit) l yX9_ofKind wsX9_ofKind ({ frames := 2, cells := 0, slots := 0, locals := 44 } : Room) [.ref mm, .int p0, .int p1] D [(mm, .inr (11, [.int 0, .ref mk9, .ref mt, .ref mb, .int 0, .int 0, .int 0, .int 0, .null, .int 0, .int 0, .double 0, .int 0, .int 0, .int 0])), (mk9, .inr (1, [.int 0, .ref e0, .int 0]))] [] e0 sz (fun r _ => r = 0) (fun _ => [(mm, .inr (11, [.int 1, .ref mk9, .ref mt, .ref mb, .int 0, .int 0, .int 0, .int 0, .null, .int 0, .int 0, .double 0, .int 0, .int 0, .int 0]))]) (fun _ => []) 0 0 := by
  refine Met.ofW (cc := cX9_ofKind) (maxL := 3) (ret := (some .int)) (by decide) rfl ?_
  intro p e s m args below meth c s₁ B hml hv
  obtain ⟨rfl, hsz, hP, hK, hD0, hE⟩ := hv
  have hx := B.exec
  have hb := B.bytes
  have hr := B.returns
  have hts := atoms_spec (ws := wsX9_ofKind) B.pre
  have hown : s.vm.findClass RX9 = some m.cls := findClass_of_methodNamed B.named
  have hlocks := B.notSynchronized
  subst hsz
  have hD := hD0.self (sz := s.heap.size)
  generalize hAe : va_A [(mm, .inr (11, [.int 0, .ref mk9, .ref mt, .ref mb, .int 0, .int 0, .int 0, .int 0, .null, .int 0, .int 0, .double 0, .int 0, .int 0, .int 0])), (mk9, .inr (1, [.int 0, .ref e0, .int 0]))] s.heap.size = A at hD hE ⊢
  have hA : ∀ q : Nat, s.heap.size ≤ q → A q := fun q h => by rw [← hAe]; exact Or.inr h
  have hS : va_S A s.heap s.heap [] := va_S.rf
  have hP : va_P D vwCl [(mm, .inr (11, [.int 0, .ref mk9, .ref mt, .ref mb, .int 0, .int 0, .int 0, .int 0, .null, .int 0, .int 0, .double 0, .int 0, .int 0, .int 0])), (mk9, .inr (1, [.int 0, .ref e0, .int 0]))] s.heap := hP
  have hl := lv_entry ([.ref mm, .int p0, .int p1]) (n := 3) (Nat.le_of_ble_eq_true rfl)
  rw [lg_entry_eq]
  generalize (lg_sl ([.ref mm, .int p0, .int p1]) ++ List.replicate (3 - (lg_sl ([.ref mm, .int p0, .int p1])).length) Slot.unset).toArray = ls at hl ⊢
  have hl : lv_has ls 3 [(0, .ref mm), (1, .int p0), (2, .int p1)] := hl
  refine lv_aload_n hx hb dX9_ofKind_0 rfl (lv_at hl 0 rfl) ?_
  refine lv_aload_n hx hb dX9_ofKind_1 rfl (lv_at hl 0 rfl) ?_
  refine lv_iload_n hx hb dX9_ofKind_2 rfl (lv_at hl 1 rfl) ?_
  refine kV_i (As := [.int p0]) (rest := [.ref mm]) (wr := []) ⟨hx, hb, hml, hown, hts⟩ (c_noK l D e0 _ mm mk9 mt mb p0) (cwV 1 hts gX9_ofKind_X9_isNoKind rfl rfl rfl (by decide +kernel) ⟨Nat.le_of_ble_eq_true rfl, Nat.le_of_ble_eq_true rfl⟩) hP hD hK hS hA hE rfl [0, 1] [] [] rfl rfl (by decide) (by decide) (by decide) rfl 11 0 rfl rfl rfl rfl hl.1 (Nat.le_of_ble_eq_true rfl) dX9_ofKind_3 ⟨Nat.le_of_ble_eq_true rfl, Nat.le_of_ble_eq_true rfl⟩ (fun r_1 u9 H locs hw hP hD hK hS => ?_)
  have hw : r_1 = 1 := hw
  subst hw
  have hP : va_P D vwCl [(mm, .inr (11, [.int 0, .ref mk9, .ref mt, .ref mb, .int 0, .int 0, .int 0, .int 0, .null, .int 0, .int 0, .double 0, .int 0, .int 0, .int 0])), (mk9, .inr (1, [.int 0, .ref e0, .int 0]))] H := hP
  have hD : va_D A [(mm, .inr (11, [.int 0, .ref mk9, .ref mt, .ref mb, .int 0, .int 0, .int 0, .int 0, .null, .int 0, .int 0, .double 0, .int 0, .int 0, .int 0])), (mk9, .inr (1, [.int 0, .ref e0, .int 0]))] := hD
  have hK : va_K D vwCl [] s := hK
  refine lv_iconst (v := 1) hx hb dX9_ofKind_6 (by decide) ?_
  refine kV_i (As := [.int 1, .int 1]) (rest := []) (wr := [(mk9, .inr (1, [.int 0, .ref e0, .int 0]))]) ⟨hx, hb, hml, hown, hts⟩ (c_start1 l D e0 _ mm mk9 mt mb) (cwV 2 hts gX9_ofKind_X9_start rfl rfl rfl (by decide +kernel) ⟨Nat.le_of_ble_eq_true rfl, Nat.le_of_ble_eq_true rfl⟩) hP hD hK hS hA hE rfl [0] [1] [] rfl rfl (by decide) (by decide) (by decide) rfl 11 0 rfl rfl rfl rfl hl.1 (Nat.le_of_ble_eq_true rfl) dX9_ofKind_7 ⟨Nat.le_of_ble_eq_true rfl, Nat.le_of_ble_eq_true rfl⟩ (fun r_2 u9 H locs hw hP hD hK hS => ?_)
  have hw : r_2 = 1 := hw
  subst hw
  have hP : va_P D vwCl [(mk9, .inr (1, [.int 0, .ref e0, .int 0])), (mm, .inr (11, [.int 1, .ref mk9, .ref mt, .ref mb, .int 0, .int 0, .int 0, .int 0, .null, .int 0, .int 0, .double 0, .int 0, .int 0, .int 0]))] H := hP
  have hD : va_D A [(mk9, .inr (1, [.int 0, .ref e0, .int 0])), (mm, .inr (11, [.int 1, .ref mk9, .ref mt, .ref mb, .int 0, .int 0, .int 0, .int 0, .null, .int 0, .int 0, .double 0, .int 0, .int 0, .int 0]))] := hD
  have hK : va_K D vwCl [] s := hK
  refine lv_if_ne (tgt := 36) hx hb dX9_ofKind_10 (by decide) (fun _ => ?_) (fun h9 => absurd h9 (by decide))
  refine lv_iconst (v := 0) hx hb dX9_ofKind_36 (by decide) ?_
  refine lv_goto (tgt := 46) hx hb dX9_ofKind_37 (by decide) ?_
  exact end_i (v := 0) hx hb hr rfl hlocks hP hD hK hS () rfl [1] [] rfl (by decide) rfl (Nat.le_of_ble_eq_true rfl) (Nat.le_of_ble_eq_true rfl) dX9_ofKind_46
set_option maxHeartbeats 4000000 in
set_option maxRecDepth 100000 in
/-- the reference: ofThing on a new object is refused -/
theorem c_m_ofThing (l : Launch) (D : va_G) (e0 sz : Nat) (mm mk9 mt mb : Nat) (p0 p1 : Int32) : Ki (S := Unit) l yX9_ofThing wsX9_ofThing ({ frames := 2, cells := 0, slots := 0, locals := 44 } : Room) [.ref mm, .int p0, .int p1] D [(mm, .inr (11, [.int 0, .ref mk9, .ref mt, .ref mb, .int 0, .int 0, .int 0, .int 0, .null, .int 0, .int 0, .double 0, .int 0, .int 0, .int 0])), (mt, .inr (1, [.int 0, .ref e0, .int 0]))] [] e0 sz (fun r _ => r = 0) (fun _ => [(mm, .inr (11, [.int 1, .ref mk9, .ref mt, .ref mb, .int 0, .int 0, .int 0, .int 0, .null, .int 0, .int 0, .double 0, .int 0, .int 0, .int 0]))]) (fun _ => []) 0 0 := by
  refine Met.ofW (cc := cX9_ofThing) (maxL := 3) (ret := (some .int)) (by decide) rfl ?_
  intro p e s m args below meth c s₁ B hml hv
  obtain ⟨rfl, hsz, hP, hK, hD0, hE⟩ := hv
  have hx := B.exec
  have hb := B.bytes
  have hr := B.returns
  have hts := atoms_spec (ws := wsX9_ofThing) B.pre
  have hown : s.vm.findClass RX9 = some m.cls := findClass_of_methodNamed B.named
  have hlocks := B.notSynchronized
  subst hsz
  have hD := hD0.self (sz := s.heap.size)
  generalize hAe : va_A [(mm, .inr (11, [.int 0, .ref mk9, .ref mt, .ref mb, .int 0, .int 0, .int 0, .int 0, .null, .int 0, .int 0, .double 0, .int 0, .int 0, .int 0])), (mt, .inr (1, [.int 0, .ref e0, .int 0]))] s.heap.size = A at hD hE ⊢
  have hA : ∀ q : Nat, s.heap.size ≤ q → A q := fun q h => by rw [← hAe]; exact Or.inr h
  have hS : va_S A s.heap s.heap [] := va_S.rf
  have hP : va_P D vwCl [(mm, .inr (11, [.int 0, .ref mk9, .ref mt, .ref mb, .int 0, .int 0, .int 0, .int 0, .null, .int 0, .int 0, .double 0, .int 0, .int 0, .int 0])), (mt, .inr (1, [.int 0, .ref e0, .int 0]))] s.heap := hP
  have hl := lv_entry ([.ref mm, .int p0, .int p1]) (n := 3) (Nat.le_of_ble_eq_true rfl)
  rw [lg_entry_eq]
  generalize (lg_sl ([.ref mm, .int p0, .int p1]) ++ List.replicate (3 - (lg_sl ([.ref mm, .int p0, .int p1])).length) Slot.unset).toArray = ls at hl ⊢
  have hl : lv_has ls 3 [(0, .ref mm), (1, .int p0), (2, .int p1)] := hl
  refine lv_aload_n hx hb dX9_ofThing_0 rfl (lv_at hl 0 rfl) ?_
  refine lv_aload_n hx hb dX9_ofThing_1 rfl (lv_at hl 0 rfl) ?_
  refine lv_iload_n hx hb dX9_ofThing_2 rfl (lv_at hl 1 rfl) ?_
  refine kV_i (As := [.int p0]) (rest := [.ref mm]) (wr := []) ⟨hx, hb, hml, hown, hts⟩ (c_noT l D e0 _ mm mk9 mt mb p0) (cwV 1 hts gX9_ofThing_X9_isNoThing rfl rfl rfl (by decide +kernel) ⟨Nat.le_of_ble_eq_true rfl, Nat.le_of_ble_eq_true rfl⟩) hP hD hK hS hA hE rfl [0, 1] [] [] rfl rfl (by decide) (by decide) (by decide) rfl 11 0 rfl rfl rfl rfl hl.1 (Nat.le_of_ble_eq_true rfl) dX9_ofThing_3 ⟨Nat.le_of_ble_eq_true rfl, Nat.le_of_ble_eq_true rfl⟩ (fun r_1 u9 H locs hw hP hD hK hS => ?_)
  have hw : r_1 = 1 := hw
  subst hw
  have hP : va_P D vwCl [(mm, .inr (11, [.int 0, .ref mk9, .ref mt, .ref mb, .int 0, .int 0, .int 0, .int 0, .null, .int 0, .int 0, .double 0, .int 0, .int 0, .int 0])), (mt, .inr (1, [.int 0, .ref e0, .int 0]))] H := hP
  have hD : va_D A [(mm, .inr (11, [.int 0, .ref mk9, .ref mt, .ref mb, .int 0, .int 0, .int 0, .int 0, .null, .int 0, .int 0, .double 0, .int 0, .int 0, .int 0])), (mt, .inr (1, [.int 0, .ref e0, .int 0]))] := hD
  have hK : va_K D vwCl [] s := hK
  refine lv_iconst (v := 1) hx hb dX9_ofThing_6 (by decide) ?_
  refine kV_i (As := [.int 1, .int 1]) (rest := []) (wr := [(mt, .inr (1, [.int 0, .ref e0, .int 0]))]) ⟨hx, hb, hml, hown, hts⟩ (c_start1 l D e0 _ mm mk9 mt mb) (cwV 2 hts gX9_ofThing_X9_start rfl rfl rfl (by decide +kernel) ⟨Nat.le_of_ble_eq_true rfl, Nat.le_of_ble_eq_true rfl⟩) hP hD hK hS hA hE rfl [0] [1] [] rfl rfl (by decide) (by decide) (by decide) rfl 11 0 rfl rfl rfl rfl hl.1 (Nat.le_of_ble_eq_true rfl) dX9_ofThing_7 ⟨Nat.le_of_ble_eq_true rfl, Nat.le_of_ble_eq_true rfl⟩ (fun r_2 u9 H locs hw hP hD hK hS => ?_)
  have hw : r_2 = 1 := hw
  subst hw
  have hP : va_P D vwCl [(mt, .inr (1, [.int 0, .ref e0, .int 0])), (mm, .inr (11, [.int 1, .ref mk9, .ref mt, .ref mb, .int 0, .int 0, .int 0, .int 0, .null, .int 0, .int 0, .double 0, .int 0, .int 0, .int 0]))] H := hP
  have hD : va_D A [(mt, .inr (1, [.int 0, .ref e0, .int 0])), (mm, .inr (11, [.int 1, .ref mk9, .ref mt, .ref mb, .int 0, .int 0, .int 0, .int 0, .null, .int 0, .int 0, .double 0, .int 0, .int 0, .int 0]))] := hD
  have hK : va_K D vwCl [] s := hK
  refine lv_if_ne (tgt := 36) hx hb dX9_ofThing_10 (by decide) (fun _ => ?_) (fun h9 => absurd h9 (by decide))
  refine lv_iconst (v := 0) hx hb dX9_ofThing_36 (by decide) ?_
  refine lv_goto (tgt := 56) hx hb dX9_ofThing_37 (by decide) ?_
  exact end_i (v := 0) hx hb hr rfl hlocks hP hD hK hS () rfl [1] [] rfl (by decide) rfl (Nat.le_of_ble_eq_true rfl) (Nat.le_of_ble_eq_true rfl) dX9_ofThing_56
set_option maxHeartbeats 4000000 in
set_option maxRecDepth 100000 in
/-- the reference: hinders on a new object is refused -/
theorem c_m_hinders (l : Launch) (D : va_G) (e0 sz : Nat) (mm mk9 mt mb : Nat) (p0 p1 : Int32) : Ki (S := Unit) l yX9_hinders wsX9_hinders ({ frames := 2, cells := 0, slots := 0, locals := 44 } : Room) [.ref mm, .int p0, .int p1] D [(mm, .inr (11, [.int 0, .ref mk9, .ref mt, .ref mb, .int 0, .int 0, .int 0, .int 0, .null, .int 0, .int 0, .double 0, .int 0, .int 0, .int 0])), (mt, .inr (1, [.int 0, .ref e0, .int 0]))] [] e0 sz (fun r _ => r = 0) (fun _ => [(mm, .inr (11, [.int 1, .ref mk9, .ref mt, .ref mb, .int 0, .int 0, .int 0, .int 0, .null, .int 0, .int 0, .double 0, .int 0, .int 0, .int 0]))]) (fun _ => []) 0 0 := by
  refine Met.ofW (cc := cX9_hinders) (maxL := 3) (ret := (some .int)) (by decide) rfl ?_
  intro p e s m args below meth c s₁ B hml hv
  obtain ⟨rfl, hsz, hP, hK, hD0, hE⟩ := hv
  have hx := B.exec
  have hb := B.bytes
  have hr := B.returns
  have hts := atoms_spec (ws := wsX9_hinders) B.pre
  have hown : s.vm.findClass RX9 = some m.cls := findClass_of_methodNamed B.named
  have hlocks := B.notSynchronized
  subst hsz
  have hD := hD0.self (sz := s.heap.size)
  generalize hAe : va_A [(mm, .inr (11, [.int 0, .ref mk9, .ref mt, .ref mb, .int 0, .int 0, .int 0, .int 0, .null, .int 0, .int 0, .double 0, .int 0, .int 0, .int 0])), (mt, .inr (1, [.int 0, .ref e0, .int 0]))] s.heap.size = A at hD hE ⊢
  have hA : ∀ q : Nat, s.heap.size ≤ q → A q := fun q h => by rw [← hAe]; exact Or.inr h
  have hS : va_S A s.heap s.heap [] := va_S.rf
  have hP : va_P D vwCl [(mm, .inr (11, [.int 0, .ref mk9, .ref mt, .ref mb, .int 0, .int 0, .int 0, .int 0, .null, .int 0, .int 0, .double 0, .int 0, .int 0, .int 0])), (mt, .inr (1, [.int 0, .ref e0, .int 0]))] s.heap := hP
  have hl := lv_entry ([.ref mm, .int p0, .int p1]) (n := 3) (Nat.le_of_ble_eq_true rfl)
  rw [lg_entry_eq]
  generalize (lg_sl ([.ref mm, .int p0, .int p1]) ++ List.replicate (3 - (lg_sl ([.ref mm, .int p0, .int p1])).length) Slot.unset).toArray = ls at hl ⊢
  have hl : lv_has ls 3 [(0, .ref mm), (1, .int p0), (2, .int p1)] := hl
  refine lv_aload_n hx hb dX9_hinders_0 rfl (lv_at hl 0 rfl) ?_
  refine lv_aload_n hx hb dX9_hinders_1 rfl (lv_at hl 0 rfl) ?_
  refine lv_iload_n hx hb dX9_hinders_2 rfl (lv_at hl 1 rfl) ?_
  refine kV_i (As := [.int p0]) (rest := [.ref mm]) (wr := []) ⟨hx, hb, hml, hown, hts⟩ (c_noT l D e0 _ mm mk9 mt mb p0) (cwV 1 hts gX9_hinders_X9_isNoThing rfl rfl rfl (by decide +kernel) ⟨Nat.le_of_ble_eq_true rfl, Nat.le_of_ble_eq_true rfl⟩) hP hD hK hS hA hE rfl [0, 1] [] [] rfl rfl (by decide) (by decide) (by decide) rfl 11 0 rfl rfl rfl rfl hl.1 (Nat.le_of_ble_eq_true rfl) dX9_hinders_3 ⟨Nat.le_of_ble_eq_true rfl, Nat.le_of_ble_eq_true rfl⟩ (fun r_1 u9 H locs hw hP hD hK hS => ?_)
  have hw : r_1 = 1 := hw
  subst hw
  have hP : va_P D vwCl [(mm, .inr (11, [.int 0, .ref mk9, .ref mt, .ref mb, .int 0, .int 0, .int 0, .int 0, .null, .int 0, .int 0, .double 0, .int 0, .int 0, .int 0])), (mt, .inr (1, [.int 0, .ref e0, .int 0]))] H := hP
  have hD : va_D A [(mm, .inr (11, [.int 0, .ref mk9, .ref mt, .ref mb, .int 0, .int 0, .int 0, .int 0, .null, .int 0, .int 0, .double 0, .int 0, .int 0, .int 0])), (mt, .inr (1, [.int 0, .ref e0, .int 0]))] := hD
  have hK : va_K D vwCl [] s := hK
  refine lv_iconst (v := 1) hx hb dX9_hinders_6 (by decide) ?_
  refine kV_i (As := [.int 1, .int 1]) (rest := []) (wr := [(mt, .inr (1, [.int 0, .ref e0, .int 0]))]) ⟨hx, hb, hml, hown, hts⟩ (c_start1 l D e0 _ mm mk9 mt mb) (cwV 2 hts gX9_hinders_X9_start rfl rfl rfl (by decide +kernel) ⟨Nat.le_of_ble_eq_true rfl, Nat.le_of_ble_eq_true rfl⟩) hP hD hK hS hA hE rfl [0] [1] [] rfl rfl (by decide) (by decide) (by decide) rfl 11 0 rfl rfl rfl rfl hl.1 (Nat.le_of_ble_eq_true rfl) dX9_hinders_7 ⟨Nat.le_of_ble_eq_true rfl, Nat.le_of_ble_eq_true rfl⟩ (fun r_2 u9 H locs hw hP hD hK hS => ?_)
  have hw : r_2 = 1 := hw
  subst hw
  have hP : va_P D vwCl [(mt, .inr (1, [.int 0, .ref e0, .int 0])), (mm, .inr (11, [.int 1, .ref mk9, .ref mt, .ref mb, .int 0, .int 0, .int 0, .int 0, .null, .int 0, .int 0, .double 0, .int 0, .int 0, .int 0]))] H := hP
  have hD : va_D A [(mt, .inr (1, [.int 0, .ref e0, .int 0])), (mm, .inr (11, [.int 1, .ref mk9, .ref mt, .ref mb, .int 0, .int 0, .int 0, .int 0, .null, .int 0, .int 0, .double 0, .int 0, .int 0, .int 0]))] := hD
  have hK : va_K D vwCl [] s := hK
  refine lv_if_ne (tgt := 25) hx hb dX9_hinders_10 (by decide) (fun _ => ?_) (fun h9 => absurd h9 (by decide))
  refine lv_iconst (v := 0) hx hb dX9_hinders_25 (by decide) ?_
  refine lv_goto (tgt := 45) hx hb dX9_hinders_26 (by decide) ?_
  exact end_i (v := 0) hx hb hr rfl hlocks hP hD hK hS () rfl [1] [] rfl (by decide) rfl (Nat.le_of_ble_eq_true rfl) (Nat.le_of_ble_eq_true rfl) dX9_hinders_45
set_option maxHeartbeats 4000000 in
set_option maxRecDepth 100000 in
/-- the reference: ofBox on a new object is refused -/
theorem c_m_ofBox (l : Launch) (D : va_G) (e0 sz : Nat) (mm mk9 mt mb : Nat) (p0 p1 : Int32) : Ki (S := Unit) l yX9_ofBox wsX9_ofBox ({ frames := 2, cells := 0, slots := 0, locals := 44 } : Room) [.ref mm, .int p0, .int p1] D [(mm, .inr (11, [.int 0, .ref mk9, .ref mt, .ref mb, .int 0, .int 0, .int 0, .int 0, .null, .int 0, .int 0, .double 0, .int 0, .int 0, .int 0])), (mb, .inr (1, [.int 0, .ref e0, .int 0]))] [] e0 sz (fun r _ => r = 0) (fun _ => [(mm, .inr (11, [.int 1, .ref mk9, .ref mt, .ref mb, .int 0, .int 0, .int 0, .int 0, .null, .int 0, .int 0, .double 0, .int 0, .int 0, .int 0]))]) (fun _ => []) 0 0 := by
  refine Met.ofW (cc := cX9_ofBox) (maxL := 3) (ret := (some .int)) (by decide) rfl ?_
  intro p e s m args below meth c s₁ B hml hv
  obtain ⟨rfl, hsz, hP, hK, hD0, hE⟩ := hv
  have hx := B.exec
  have hb := B.bytes
  have hr := B.returns
  have hts := atoms_spec (ws := wsX9_ofBox) B.pre
  have hown : s.vm.findClass RX9 = some m.cls := findClass_of_methodNamed B.named
  have hlocks := B.notSynchronized
  subst hsz
  have hD := hD0.self (sz := s.heap.size)
  generalize hAe : va_A [(mm, .inr (11, [.int 0, .ref mk9, .ref mt, .ref mb, .int 0, .int 0, .int 0, .int 0, .null, .int 0, .int 0, .double 0, .int 0, .int 0, .int 0])), (mb, .inr (1, [.int 0, .ref e0, .int 0]))] s.heap.size = A at hD hE ⊢
  have hA : ∀ q : Nat, s.heap.size ≤ q → A q := fun q h => by rw [← hAe]; exact Or.inr h
  have hS : va_S A s.heap s.heap [] := va_S.rf
  have hP : va_P D vwCl [(mm, .inr (11, [.int 0, .ref mk9, .ref mt, .ref mb, .int 0, .int 0, .int 0, .int 0, .null, .int 0, .int 0, .double 0, .int 0, .int 0, .int 0])), (mb, .inr (1, [.int 0, .ref e0, .int 0]))] s.heap := hP
  have hl := lv_entry ([.ref mm, .int p0, .int p1]) (n := 3) (Nat.le_of_ble_eq_true rfl)
  rw [lg_entry_eq]
  generalize (lg_sl ([.ref mm, .int p0, .int p1]) ++ List.replicate (3 - (lg_sl ([.ref mm, .int p0, .int p1])).length) Slot.unset).toArray = ls at hl ⊢
  have hl : lv_has ls 3 [(0, .ref mm), (1, .int p0), (2, .int p1)] := hl
  refine lv_aload_n hx hb dX9_ofBox_0 rfl (lv_at hl 0 rfl) ?_
  refine lv_aload_n hx hb dX9_ofBox_1 rfl (lv_at hl 0 rfl) ?_
  refine lv_iload_n hx hb dX9_ofBox_2 rfl (lv_at hl 1 rfl) ?_
  refine kV_i (As := [.int p0]) (rest := [.ref mm]) (wr := []) ⟨hx, hb, hml, hown, hts⟩ (c_noB l D e0 _ mm mk9 mt mb p0) (cwV 1 hts gX9_ofBox_X9_isNoBox rfl rfl rfl (by decide +kernel) ⟨Nat.le_of_ble_eq_true rfl, Nat.le_of_ble_eq_true rfl⟩) hP hD hK hS hA hE rfl [0, 1] [] [] rfl rfl (by decide) (by decide) (by decide) rfl 11 0 rfl rfl rfl rfl hl.1 (Nat.le_of_ble_eq_true rfl) dX9_ofBox_3 ⟨Nat.le_of_ble_eq_true rfl, Nat.le_of_ble_eq_true rfl⟩ (fun r_1 u9 H locs hw hP hD hK hS => ?_)
  have hw : r_1 = 1 := hw
  subst hw
  have hP : va_P D vwCl [(mm, .inr (11, [.int 0, .ref mk9, .ref mt, .ref mb, .int 0, .int 0, .int 0, .int 0, .null, .int 0, .int 0, .double 0, .int 0, .int 0, .int 0])), (mb, .inr (1, [.int 0, .ref e0, .int 0]))] H := hP
  have hD : va_D A [(mm, .inr (11, [.int 0, .ref mk9, .ref mt, .ref mb, .int 0, .int 0, .int 0, .int 0, .null, .int 0, .int 0, .double 0, .int 0, .int 0, .int 0])), (mb, .inr (1, [.int 0, .ref e0, .int 0]))] := hD
  have hK : va_K D vwCl [] s := hK
  refine lv_iconst (v := 1) hx hb dX9_ofBox_6 (by decide) ?_
  refine kV_i (As := [.int 1, .int 1]) (rest := []) (wr := [(mb, .inr (1, [.int 0, .ref e0, .int 0]))]) ⟨hx, hb, hml, hown, hts⟩ (c_start1 l D e0 _ mm mk9 mt mb) (cwV 2 hts gX9_ofBox_X9_start rfl rfl rfl (by decide +kernel) ⟨Nat.le_of_ble_eq_true rfl, Nat.le_of_ble_eq_true rfl⟩) hP hD hK hS hA hE rfl [0] [1] [] rfl rfl (by decide) (by decide) (by decide) rfl 11 0 rfl rfl rfl rfl hl.1 (Nat.le_of_ble_eq_true rfl) dX9_ofBox_7 ⟨Nat.le_of_ble_eq_true rfl, Nat.le_of_ble_eq_true rfl⟩ (fun r_2 u9 H locs hw hP hD hK hS => ?_)
  have hw : r_2 = 1 := hw
  subst hw
  have hP : va_P D vwCl [(mb, .inr (1, [.int 0, .ref e0, .int 0])), (mm, .inr (11, [.int 1, .ref mk9, .ref mt, .ref mb, .int 0, .int 0, .int 0, .int 0, .null, .int 0, .int 0, .double 0, .int 0, .int 0, .int 0]))] H := hP
  have hD : va_D A [(mb, .inr (1, [.int 0, .ref e0, .int 0])), (mm, .inr (11, [.int 1, .ref mk9, .ref mt, .ref mb, .int 0, .int 0, .int 0, .int 0, .null, .int 0, .int 0, .double 0, .int 0, .int 0, .int 0]))] := hD
  have hK : va_K D vwCl [] s := hK
  refine lv_if_ne (tgt := 35) hx hb dX9_ofBox_10 (by decide) (fun _ => ?_) (fun h9 => absurd h9 (by decide))
  refine lv_iconst (v := 0) hx hb dX9_ofBox_35 (by decide) ?_
  refine lv_goto (tgt := 55) hx hb dX9_ofBox_36 (by decide) ?_
  exact end_i (v := 0) hx hb hr rfl hlocks hP hD hK hS () rfl [1] [] rfl (by decide) rfl (Nat.le_of_ble_eq_true rfl) (Nat.le_of_ble_eq_true rfl) dX9_ofBox_55
set_option maxHeartbeats 4000000 in
set_option maxRecDepth 100000 in
/-- the reference: ahead on a new object is refused -/
theorem c_m_ahead (l : Launch) (D : va_G) (e0 sz : Nat) (mm mk9 mt mb : Nat) (p0 : Int32) : Ki (S := Unit) l yX9_ahead wsX9_ahead ({ frames := 2, cells := 0, slots := 0, locals := 44 } : Room) [.ref mm, .int p0] D [(mm, .inr (11, [.int 0, .ref mk9, .ref mt, .ref mb, .int 0, .int 0, .int 0, .int 0, .null, .int 0, .int 0, .double 0, .int 0, .int 0, .int 0])), (mt, .inr (1, [.int 0, .ref e0, .int 0]))] [] e0 sz (fun r _ => r = 0) (fun _ => [(mm, .inr (11, [.int 1, .ref mk9, .ref mt, .ref mb, .int 0, .int 0, .int 0, .int 0, .null, .int 0, .int 0, .double 0, .int 0, .int 0, .int 0]))]) (fun _ => []) 0 0 := by
  refine Met.ofW (cc := cX9_ahead) (maxL := 2) (ret := (some .int)) (by decide) rfl ?_
  intro p e s m args below meth c s₁ B hml hv
  obtain ⟨rfl, hsz, hP, hK, hD0, hE⟩ := hv
  have hx := B.exec
  have hb := B.bytes
  have hr := B.returns
  have hts := atoms_spec (ws := wsX9_ahead) B.pre
  have hown : s.vm.findClass RX9 = some m.cls := findClass_of_methodNamed B.named
  have hlocks := B.notSynchronized
  subst hsz
  have hD := hD0.self (sz := s.heap.size)
  generalize hAe : va_A [(mm, .inr (11, [.int 0, .ref mk9, .ref mt, .ref mb, .int 0, .int 0, .int 0, .int 0, .null, .int 0, .int 0, .double 0, .int 0, .int 0, .int 0])), (mt, .inr (1, [.int 0, .ref e0, .int 0]))] s.heap.size = A at hD hE ⊢
  have hA : ∀ q : Nat, s.heap.size ≤ q → A q := fun q h => by rw [← hAe]; exact Or.inr h
  have hS : va_S A s.heap s.heap [] := va_S.rf
  have hP : va_P D vwCl [(mm, .inr (11, [.int 0, .ref mk9, .ref mt, .ref mb, .int 0, .int 0, .int 0, .int 0, .null, .int 0, .int 0, .double 0, .int 0, .int 0, .int 0])), (mt, .inr (1, [.int 0, .ref e0, .int 0]))] s.heap := hP
  have hl := lv_entry ([.ref mm, .int p0]) (n := 2) (Nat.le_of_ble_eq_true rfl)
  rw [lg_entry_eq]
  generalize (lg_sl ([.ref mm, .int p0]) ++ List.replicate (2 - (lg_sl ([.ref mm, .int p0])).length) Slot.unset).toArray = ls at hl ⊢
  have hl : lv_has ls 2 [(0, .ref mm), (1, .int p0)] := hl
  refine lv_aload_n hx hb dX9_ahead_0 rfl (lv_at hl 0 rfl) ?_
  refine lv_aload_n hx hb dX9_ahead_1 rfl (lv_at hl 0 rfl) ?_
  refine lv_iload_n hx hb dX9_ahead_2 rfl (lv_at hl 1 rfl) ?_
  refine kV_i (As := [.int p0]) (rest := [.ref mm]) (wr := []) ⟨hx, hb, hml, hown, hts⟩ (c_noT l D e0 _ mm mk9 mt mb p0) (cwV 1 hts gX9_ahead_X9_isNoThing rfl rfl rfl (by decide +kernel) ⟨Nat.le_of_ble_eq_true rfl, Nat.le_of_ble_eq_true rfl⟩) hP hD hK hS hA hE rfl [0, 1] [] [] rfl rfl (by decide) (by decide) (by decide) rfl 11 0 rfl rfl rfl rfl hl.1 (Nat.le_of_ble_eq_true rfl) dX9_ahead_3 ⟨Nat.le_of_ble_eq_true rfl, Nat.le_of_ble_eq_true rfl⟩ (fun r_1 u9 H locs hw hP hD hK hS => ?_)
  have hw : r_1 = 1 := hw
  subst hw
  have hP : va_P D vwCl [(mm, .inr (11, [.int 0, .ref mk9, .ref mt, .ref mb, .int 0, .int 0, .int 0, .int 0, .null, .int 0, .int 0, .double 0, .int 0, .int 0, .int 0])), (mt, .inr (1, [.int 0, .ref e0, .int 0]))] H := hP
  have hD : va_D A [(mm, .inr (11, [.int 0, .ref mk9, .ref mt, .ref mb, .int 0, .int 0, .int 0, .int 0, .null, .int 0, .int 0, .double 0, .int 0, .int 0, .int 0])), (mt, .inr (1, [.int 0, .ref e0, .int 0]))] := hD
  have hK : va_K D vwCl [] s := hK
  refine lv_iconst (v := 1) hx hb dX9_ahead_6 (by decide) ?_
  refine kV_i (As := [.int 1, .int 1]) (rest := []) (wr := [(mt, .inr (1, [.int 0, .ref e0, .int 0]))]) ⟨hx, hb, hml, hown, hts⟩ (c_start1 l D e0 _ mm mk9 mt mb) (cwV 2 hts gX9_ahead_X9_start rfl rfl rfl (by decide +kernel) ⟨Nat.le_of_ble_eq_true rfl, Nat.le_of_ble_eq_true rfl⟩) hP hD hK hS hA hE rfl [0] [1] [] rfl rfl (by decide) (by decide) (by decide) rfl 11 0 rfl rfl rfl rfl hl.1 (Nat.le_of_ble_eq_true rfl) dX9_ahead_7 ⟨Nat.le_of_ble_eq_true rfl, Nat.le_of_ble_eq_true rfl⟩ (fun r_2 u9 H locs hw hP hD hK hS => ?_)
  have hw : r_2 = 1 := hw
  subst hw
  have hP : va_P D vwCl [(mt, .inr (1, [.int 0, .ref e0, .int 0])), (mm, .inr (11, [.int 1, .ref mk9, .ref mt, .ref mb, .int 0, .int 0, .int 0, .int 0, .null, .int 0, .int 0, .double 0, .int 0, .int 0, .int 0]))] H := hP
  have hD : va_D A [(mt, .inr (1, [.int 0, .ref e0, .int 0])), (mm, .inr (11, [.int 1, .ref mk9, .ref mt, .ref mb, .int 0, .int 0, .int 0, .int 0, .null, .int 0, .int 0, .double 0, .int 0, .int 0, .int 0]))] := hD
  have hK : va_K D vwCl [] s := hK
  refine lv_if_eq (tgt := 17) hx hb dX9_ahead_10 (by decide) (fun h9 => absurd h9 (by decide)) (fun _ => ?_)
  refine lv_iconst (v := 0) hx hb dX9_ahead_13 (by decide) ?_
  refine lv_goto (tgt := 32) hx hb dX9_ahead_14 (by decide) ?_
  exact end_i (v := 0) hx hb hr rfl hlocks hP hD hK hS () rfl [1] [] rfl (by decide) rfl (Nat.le_of_ble_eq_true rfl) (Nat.le_of_ble_eq_true rfl) dX9_ahead_32
set_option maxHeartbeats 4000000 in
set_option maxRecDepth 100000 in
/-- the reference: next on a new object is refused -/
theorem c_m_next (l : Launch) (D : va_G) (e0 sz : Nat) (mm mk9 mt mb : Nat) (p0 : Int32) : Ki (S := Unit) l yX9_next wsX9_next ({ frames := 2, cells := 0, slots := 0, locals := 44 } : Room) [.ref mm, .int p0] D [(mm, .inr (11, [.int 0, .ref mk9, .ref mt, .ref mb, .int 0, .int 0, .int 0, .int 0, .null, .int 0, .int 0, .double 0, .int 0, .int 0, .int 0])), (mk9, .inr (1, [.int 0, .ref e0, .int 0]))] [] e0 sz (fun r _ => r = 0) (fun _ => [(mm, .inr (11, [.int 1, .ref mk9, .ref mt, .ref mb, .int 0, .int 0, .int 0, .int 0, .null, .int 0, .int 0, .double 0, .int 0, .int 0, .int 0]))]) (fun _ => []) 0 0 := by
  refine Met.ofW (cc := cX9_next) (maxL := 2) (ret := (some .int)) (by decide) rfl ?_
  intro p e s m args below meth c s₁ B hml hv
  obtain ⟨rfl, hsz, hP, hK, hD0, hE⟩ := hv
  have hx := B.exec
  have hb := B.bytes
  have hr := B.returns
  have hts := atoms_spec (ws := wsX9_next) B.pre
  have hown : s.vm.findClass RX9 = some m.cls := findClass_of_methodNamed B.named
  have hlocks := B.notSynchronized
  subst hsz
  have hD := hD0.self (sz := s.heap.size)
  generalize hAe : va_A [(mm, .inr (11, [.int 0, .ref mk9, .ref mt, .ref mb, .int 0, .int 0, .int 0, .int 0, .null, .int 0, .int 0, .double 0, .int 0, .int 0, .int 0])), (mk9, .inr (1, [.int 0, .ref e0, .int 0]))] s.heap.size = A at hD hE ⊢
  have hA : ∀ q : Nat, s.heap.size ≤ q → A q := fun q h => by rw [← hAe]; exact Or.inr h
  have hS : va_S A s.heap s.heap [] := va_S.rf
  have hP : va_P D vwCl [(mm, .inr (11, [.int 0, .ref mk9, .ref mt, .ref mb, .int 0, .int 0, .int 0, .int 0, .null, .int 0, .int 0, .double 0, .int 0, .int 0, .int 0])), (mk9, .inr (1, [.int 0, .ref e0, .int 0]))] s.heap := hP
  have hl := lv_entry ([.ref mm, .int p0]) (n := 2) (Nat.le_of_ble_eq_true rfl)
  rw [lg_entry_eq]
  generalize (lg_sl ([.ref mm, .int p0]) ++ List.replicate (2 - (lg_sl ([.ref mm, .int p0])).length) Slot.unset).toArray = ls at hl ⊢
  have hl : lv_has ls 2 [(0, .ref mm), (1, .int p0)] := hl
  refine lv_aload_n hx hb dX9_next_0 rfl (lv_at hl 0 rfl) ?_
  refine lv_aload_n hx hb dX9_next_1 rfl (lv_at hl 0 rfl) ?_
  refine lv_iload_n hx hb dX9_next_2 rfl (lv_at hl 1 rfl) ?_
  refine kV_i (As := [.int p0]) (rest := [.ref mm]) (wr := []) ⟨hx, hb, hml, hown, hts⟩ (c_noK l D e0 _ mm mk9 mt mb p0) (cwV 1 hts gX9_next_X9_isNoKind rfl rfl rfl (by decide +kernel) ⟨Nat.le_of_ble_eq_true rfl, Nat.le_of_ble_eq_true rfl⟩) hP hD hK hS hA hE rfl [0, 1] [] [] rfl rfl (by decide) (by decide) (by decide) rfl 11 0 rfl rfl rfl rfl hl.1 (Nat.le_of_ble_eq_true rfl) dX9_next_3 ⟨Nat.le_of_ble_eq_true rfl, Nat.le_of_ble_eq_true rfl⟩ (fun r_1 u9 H locs hw hP hD hK hS => ?_)
  have hw : r_1 = 1 := hw
  subst hw
  have hP : va_P D vwCl [(mm, .inr (11, [.int 0, .ref mk9, .ref mt, .ref mb, .int 0, .int 0, .int 0, .int 0, .null, .int 0, .int 0, .double 0, .int 0, .int 0, .int 0])), (mk9, .inr (1, [.int 0, .ref e0, .int 0]))] H := hP
  have hD : va_D A [(mm, .inr (11, [.int 0, .ref mk9, .ref mt, .ref mb, .int 0, .int 0, .int 0, .int 0, .null, .int 0, .int 0, .double 0, .int 0, .int 0, .int 0])), (mk9, .inr (1, [.int 0, .ref e0, .int 0]))] := hD
  have hK : va_K D vwCl [] s := hK
  refine lv_iconst (v := 1) hx hb dX9_next_6 (by decide) ?_
  refine kV_i (As := [.int 1, .int 1]) (rest := []) (wr := [(mk9, .inr (1, [.int 0, .ref e0, .int 0]))]) ⟨hx, hb, hml, hown, hts⟩ (c_start1 l D e0 _ mm mk9 mt mb) (cwV 2 hts gX9_next_X9_start rfl rfl rfl (by decide +kernel) ⟨Nat.le_of_ble_eq_true rfl, Nat.le_of_ble_eq_true rfl⟩) hP hD hK hS hA hE rfl [0] [1] [] rfl rfl (by decide) (by decide) (by decide) rfl 11 0 rfl rfl rfl rfl hl.1 (Nat.le_of_ble_eq_true rfl) dX9_next_7 ⟨Nat.le_of_ble_eq_true rfl, Nat.le_of_ble_eq_true rfl⟩ (fun r_2 u9 H locs hw hP hD hK hS => ?_)
  have hw : r_2 = 1 := hw
  subst hw
  have hP : va_P D vwCl [(mk9, .inr (1, [.int 0, .ref e0, .int 0])), (mm, .inr (11, [.int 1, .ref mk9, .ref mt, .ref mb, .int 0, .int 0, .int 0, .int 0, .null, .int 0, .int 0, .double 0, .int 0, .int 0, .int 0]))] H := hP
  have hD : va_D A [(mk9, .inr (1, [.int 0, .ref e0, .int 0])), (mm, .inr (11, [.int 1, .ref mk9, .ref mt, .ref mb, .int 0, .int 0, .int 0, .int 0, .null, .int 0, .int 0, .double 0, .int 0, .int 0, .int 0]))] := hD
  have hK : va_K D vwCl [] s := hK
  refine lv_if_eq (tgt := 17) hx hb dX9_next_10 (by decide) (fun h9 => absurd h9 (by decide)) (fun _ => ?_)
  refine lv_iconst (v := 0) hx hb dX9_next_13 (by decide) ?_
  refine lv_goto (tgt := 22) hx hb dX9_next_14 (by decide) ?_
  exact end_i (v := 0) hx hb hr rfl hlocks hP hD hK hS () rfl [1] [] rfl (by decide) rfl (Nat.le_of_ble_eq_true rfl) (Nat.le_of_ble_eq_true rfl) dX9_next_22
set_option maxHeartbeats 4000000 in
set_option maxRecDepth 100000 in
/-- the reference: wouldFit on a new object is refused -/
theorem c_m_wouldFit (l : Launch) (D : va_G) (e0 sz : Nat) (mm mk9 mt mb : Nat) (p0 p1 : Int32) : Ki (S := Unit) l yX9_wouldFit wsX9_wouldFit ({ frames := 2, cells := 0, slots := 0, locals := 44 } : Room) [.ref mm, .int p0, .int p1] D [(mm, .inr (11, [.int 0, .ref mk9, .ref mt, .ref mb, .int 0, .int 0, .int 0, .int 0, .null, .int 0, .int 0, .double 0, .int 0, .int 0, .int 0])), (mt, .inr (1, [.int 0, .ref e0, .int 0]))] [] e0 sz (fun r _ => r = 0) (fun _ => [(mm, .inr (11, [.int 1, .ref mk9, .ref mt, .ref mb, .int 0, .int 0, .int 0, .int 0, .null, .int 0, .int 0, .double 0, .int 0, .int 0, .int 0]))]) (fun _ => []) 0 0 := by
  refine Met.ofW (cc := cX9_wouldFit) (maxL := 3) (ret := (some .int)) (by decide) rfl ?_
  intro p e s m args below meth c s₁ B hml hv
  obtain ⟨rfl, hsz, hP, hK, hD0, hE⟩ := hv
  have hx := B.exec
  have hb := B.bytes
  have hr := B.returns
  have hts := atoms_spec (ws := wsX9_wouldFit) B.pre
  have hown : s.vm.findClass RX9 = some m.cls := findClass_of_methodNamed B.named
  have hlocks := B.notSynchronized
  subst hsz
  have hD := hD0.self (sz := s.heap.size)
  generalize hAe : va_A [(mm, .inr (11, [.int 0, .ref mk9, .ref mt, .ref mb, .int 0, .int 0, .int 0, .int 0, .null, .int 0, .int 0, .double 0, .int 0, .int 0, .int 0])), (mt, .inr (1, [.int 0, .ref e0, .int 0]))] s.heap.size = A at hD hE ⊢
  have hA : ∀ q : Nat, s.heap.size ≤ q → A q := fun q h => by rw [← hAe]; exact Or.inr h
  have hS : va_S A s.heap s.heap [] := va_S.rf
  have hP : va_P D vwCl [(mm, .inr (11, [.int 0, .ref mk9, .ref mt, .ref mb, .int 0, .int 0, .int 0, .int 0, .null, .int 0, .int 0, .double 0, .int 0, .int 0, .int 0])), (mt, .inr (1, [.int 0, .ref e0, .int 0]))] s.heap := hP
  have hl := lv_entry ([.ref mm, .int p0, .int p1]) (n := 3) (Nat.le_of_ble_eq_true rfl)
  rw [lg_entry_eq]
  generalize (lg_sl ([.ref mm, .int p0, .int p1]) ++ List.replicate (3 - (lg_sl ([.ref mm, .int p0, .int p1])).length) Slot.unset).toArray = ls at hl ⊢
  have hl : lv_has ls 3 [(0, .ref mm), (1, .int p0), (2, .int p1)] := hl
  refine lv_aload_n hx hb dX9_wouldFit_0 rfl (lv_at hl 0 rfl) ?_
  refine lv_aload_n hx hb dX9_wouldFit_1 rfl (lv_at hl 0 rfl) ?_
  refine lv_iload_n hx hb dX9_wouldFit_2 rfl (lv_at hl 1 rfl) ?_
  refine kV_i (As := [.int p0]) (rest := [.ref mm]) (wr := []) ⟨hx, hb, hml, hown, hts⟩ (c_noT l D e0 _ mm mk9 mt mb p0) (cwV 1 hts gX9_wouldFit_X9_isNoThing rfl rfl rfl (by decide +kernel) ⟨Nat.le_of_ble_eq_true rfl, Nat.le_of_ble_eq_true rfl⟩) hP hD hK hS hA hE rfl [0, 1] [] [] rfl rfl (by decide) (by decide) (by decide) rfl 11 0 rfl rfl rfl rfl hl.1 (Nat.le_of_ble_eq_true rfl) dX9_wouldFit_3 ⟨Nat.le_of_ble_eq_true rfl, Nat.le_of_ble_eq_true rfl⟩ (fun r_1 u9 H locs hw hP hD hK hS => ?_)
  have hw : r_1 = 1 := hw
  subst hw
  have hP : va_P D vwCl [(mm, .inr (11, [.int 0, .ref mk9, .ref mt, .ref mb, .int 0, .int 0, .int 0, .int 0, .null, .int 0, .int 0, .double 0, .int 0, .int 0, .int 0])), (mt, .inr (1, [.int 0, .ref e0, .int 0]))] H := hP
  have hD : va_D A [(mm, .inr (11, [.int 0, .ref mk9, .ref mt, .ref mb, .int 0, .int 0, .int 0, .int 0, .null, .int 0, .int 0, .double 0, .int 0, .int 0, .int 0])), (mt, .inr (1, [.int 0, .ref e0, .int 0]))] := hD
  have hK : va_K D vwCl [] s := hK
  refine lv_if_ne (tgt := 17) hx hb dX9_wouldFit_6 (by decide) (fun _ => ?_) (fun h9 => absurd h9 (by decide))
  refine lv_iconst (v := 1) hx hb dX9_wouldFit_17 (by decide) ?_
  refine lv_goto (tgt := 22) hx hb dX9_wouldFit_18 (by decide) ?_
  refine lv_iconst (v := 1) hx hb dX9_wouldFit_22 (by decide) ?_
  refine kV_i (As := [.int 1, .int 1]) (rest := []) (wr := [(mt, .inr (1, [.int 0, .ref e0, .int 0]))]) ⟨hx, hb, hml, hown, hts⟩ (c_start1 l D e0 _ mm mk9 mt mb) (cwV 2 hts gX9_wouldFit_X9_start rfl rfl rfl (by decide +kernel) ⟨Nat.le_of_ble_eq_true rfl, Nat.le_of_ble_eq_true rfl⟩) hP hD hK hS hA hE rfl [0] [1] [] rfl rfl (by decide) (by decide) (by decide) rfl 11 0 rfl rfl rfl rfl hl.1 (Nat.le_of_ble_eq_true rfl) dX9_wouldFit_23 ⟨Nat.le_of_ble_eq_true rfl, Nat.le_of_ble_eq_true rfl⟩ (fun r_2 u9 H locs hw hP hD hK hS => ?_)
  have hw : r_2 = 1 := hw
  subst hw
  have hP : va_P D vwCl [(mt, .inr (1, [.int 0, .ref e0, .int 0])), (mm, .inr (11, [.int 1, .ref mk9, .ref mt, .ref mb, .int 0, .int 0, .int 0, .int 0, .null, .int 0, .int 0, .double 0, .int 0, .int 0, .int 0]))] H := hP
  have hD : va_D A [(mt, .inr (1, [.int 0, .ref e0, .int 0])), (mm, .inr (11, [.int 1, .ref mk9, .ref mt, .ref mb, .int 0, .int 0, .int 0, .int 0, .null, .int 0, .int 0, .double 0, .int 0, .int 0, .int 0]))] := hD
  have hK : va_K D vwCl [] s := hK
  refine lv_if_eq (tgt := 33) hx hb dX9_wouldFit_26 (by decide) (fun h9 => absurd h9 (by decide)) (fun _ => ?_)
  refine lv_iconst (v := 0) hx hb dX9_wouldFit_29 (by decide) ?_
  refine lv_goto (tgt := 59) hx hb dX9_wouldFit_30 (by decide) ?_
  exact end_i (v := 0) hx hb hr rfl hlocks hP hD hK hS () rfl [1] [] rfl (by decide) rfl (Nat.le_of_ble_eq_true rfl) (Nat.le_of_ble_eq_true rfl) dX9_wouldFit_59
set_option maxHeartbeats 4000000 in
set_option maxRecDepth 100000 in
/-- the reference: fall on a new object is refused -/
theorem c_m_fall (l : Launch) (D : va_G) (e0 sz : Nat) (mm mk9 mt mb : Nat) (p0 p1 p2 : Int32) : Ki (S := Unit) l yX9_fall_ wsX9_fall_ ({ frames := 2, cells := 0, slots := 0, locals := 44 } : Room) [.ref mm, .int p0, .int p1, .int p2] D [(mm, .inr (11, [.int 0, .ref mk9, .ref mt, .ref mb, .int 0, .int 0, .int 0, .int 0, .null, .int 0, .int 0, .double 0, .int 0, .int 0, .int 0])), (mk9, .inr (1, [.int 0, .ref e0, .int 0]))] [] e0 sz (fun r _ => r = 0) (fun _ => [(mm, .inr (11, [.int 1, .ref mk9, .ref mt, .ref mb, .int 0, .int 0, .int 0, .int 0, .null, .int 0, .int 0, .double 0, .int 0, .int 0, .int 0]))]) (fun _ => []) 0 0 := by
  refine Met.ofW (cc := cX9_fall_) (maxL := 6) (ret := (some .int)) (by decide) rfl ?_
  intro p e s m args below meth c s₁ B hml hv
  obtain ⟨rfl, hsz, hP, hK, hD0, hE⟩ := hv
  have hx := B.exec
  have hb := B.bytes
  have hr := B.returns
  have hts := atoms_spec (ws := wsX9_fall_) B.pre
  have hown : s.vm.findClass RX9 = some m.cls := findClass_of_methodNamed B.named
  have hlocks := B.notSynchronized
  subst hsz
  have hD := hD0.self (sz := s.heap.size)
  generalize hAe : va_A [(mm, .inr (11, [.int 0, .ref mk9, .ref mt, .ref mb, .int 0, .int 0, .int 0, .int 0, .null, .int 0, .int 0, .double 0, .int 0, .int 0, .int 0])), (mk9, .inr (1, [.int 0, .ref e0, .int 0]))] s.heap.size = A at hD hE ⊢
  have hA : ∀ q : Nat, s.heap.size ≤ q → A q := fun q h => by rw [← hAe]; exact Or.inr h
  have hS : va_S A s.heap s.heap [] := va_S.rf
  have hP : va_P D vwCl [(mm, .inr (11, [.int 0, .ref mk9, .ref mt, .ref mb, .int 0, .int 0, .int 0, .int 0, .null, .int 0, .int 0, .double 0, .int 0, .int 0, .int 0])), (mk9, .inr (1, [.int 0, .ref e0, .int 0]))] s.heap := hP
  have hl := lv_entry ([.ref mm, .int p0, .int p1, .int p2]) (n := 6) (Nat.le_of_ble_eq_true rfl)
  rw [lg_entry_eq]
  generalize (lg_sl ([.ref mm, .int p0, .int p1, .int p2]) ++ List.replicate (6 - (lg_sl ([.ref mm, .int p0, .int p1, .int p2])).length) Slot.unset).toArray = ls at hl ⊢
  have hl : lv_has ls 6 [(0, .ref mm), (1, .int p0), (2, .int p1), (3, .int p2)] := hl
  refine lv_aload_n hx hb dX9_fall__0 rfl (lv_at hl 0 rfl) ?_
  refine lv_aload_n hx hb dX9_fall__1 rfl (lv_at hl 0 rfl) ?_
  refine lv_iload_n hx hb dX9_fall__2 rfl (lv_at hl 1 rfl) ?_
  refine kV_i (As := [.int p0]) (rest := [.ref mm]) (wr := []) ⟨hx, hb, hml, hown, hts⟩ (c_noK l D e0 _ mm mk9 mt mb p0) (cwV 1 hts gX9_fall__X9_isNoKind rfl rfl rfl (by decide +kernel) ⟨Nat.le_of_ble_eq_true rfl, Nat.le_of_ble_eq_true rfl⟩) hP hD hK hS hA hE rfl [0, 1] [] [] rfl rfl (by decide) (by decide) (by decide) rfl 11 0 rfl rfl rfl rfl hl.1 (Nat.le_of_ble_eq_true rfl) dX9_fall__3 ⟨Nat.le_of_ble_eq_true rfl, Nat.le_of_ble_eq_true rfl⟩ (fun r_1 u9 H locs hw hP hD hK hS => ?_)
  have hw : r_1 = 1 := hw
  subst hw
  have hP : va_P D vwCl [(mm, .inr (11, [.int 0, .ref mk9, .ref mt, .ref mb, .int 0, .int 0, .int 0, .int 0, .null, .int 0, .int 0, .double 0, .int 0, .int 0, .int 0])), (mk9, .inr (1, [.int 0, .ref e0, .int 0]))] H := hP
  have hD : va_D A [(mm, .inr (11, [.int 0, .ref mk9, .ref mt, .ref mb, .int 0, .int 0, .int 0, .int 0, .null, .int 0, .int 0, .double 0, .int 0, .int 0, .int 0])), (mk9, .inr (1, [.int 0, .ref e0, .int 0]))] := hD
  have hK : va_K D vwCl [] s := hK
  refine lv_iconst (v := 1) hx hb dX9_fall__6 (by decide) ?_
  refine kV_i (As := [.int 1, .int 1]) (rest := []) (wr := [(mk9, .inr (1, [.int 0, .ref e0, .int 0]))]) ⟨hx, hb, hml, hown, hts⟩ (c_start1 l D e0 _ mm mk9 mt mb) (cwV 2 hts gX9_fall__X9_start rfl rfl rfl (by decide +kernel) ⟨Nat.le_of_ble_eq_true rfl, Nat.le_of_ble_eq_true rfl⟩) hP hD hK hS hA hE rfl [0] [1] [] rfl rfl (by decide) (by decide) (by decide) rfl 11 0 rfl rfl rfl rfl hl.1 (Nat.le_of_ble_eq_true rfl) dX9_fall__7 ⟨Nat.le_of_ble_eq_true rfl, Nat.le_of_ble_eq_true rfl⟩ (fun r_2 u9 H locs hw hP hD hK hS => ?_)
  have hw : r_2 = 1 := hw
  subst hw
  have hP : va_P D vwCl [(mk9, .inr (1, [.int 0, .ref e0, .int 0])), (mm, .inr (11, [.int 1, .ref mk9, .ref mt, .ref mb, .int 0, .int 0, .int 0, .int 0, .null, .int 0, .int 0, .double 0, .int 0, .int 0, .int 0]))] H := hP
  have hD : va_D A [(mk9, .inr (1, [.int 0, .ref e0, .int 0])), (mm, .inr (11, [.int 1, .ref mk9, .ref mt, .ref mb, .int 0, .int 0, .int 0, .int 0, .null, .int 0, .int 0, .double 0, .int 0, .int 0, .int 0]))] := hD
  have hK : va_K D vwCl [] s := hK
  refine lv_if_eq (tgt := 15) hx hb dX9_fall__10 (by decide) (fun h9 => absurd h9 (by decide)) (fun _ => ?_)
  refine lv_iconst (v := 0) hx hb dX9_fall__13 (by decide) ?_
  exact end_i (v := 0) hx hb hr rfl hlocks hP hD hK hS () rfl [1] [] rfl (by decide) rfl (Nat.le_of_ble_eq_true rfl) (Nat.le_of_ble_eq_true rfl) dX9_fall__14
set_option maxHeartbeats 4000000 in
set_option maxRecDepth 100000 in
/-- the reference: force on a new object is refused -/
theorem c_m_force (l : Launch) (D : va_G) (e0 sz : Nat) (mm mk9 mt mb : Nat) (p0 p1 : Int32) : Kd (S := Unit) l yX9_force wsX9_force ({ frames := 2, cells := 0, slots := 0, locals := 44 } : Room) [.ref mm, .int p0, .int p1] D [(mm, .inr (11, [.int 0, .ref mk9, .ref mt, .ref mb, .int 0, .int 0, .int 0, .int 0, .null, .int 0, .int 0, .double 0, .int 0, .int 0, .int 0])), (mt, .inr (1, [.int 0, .ref e0, .int 0]))] [] e0 sz (fun r _ => r = 0) (fun _ => [(mm, .inr (11, [.int 1, .ref mk9, .ref mt, .ref mb, .int 0, .int 0, .int 0, .int 0, .null, .int 0, .int 0, .double 0, .int 0, .int 0, .int 0]))]) (fun _ => []) 0 0 := by
  refine Met.ofW (cc := cX9_force) (maxL := 3) (ret := (some .double)) (by decide) rfl ?_
  intro p e s m args below meth c s₁ B hml hv
  obtain ⟨rfl, hsz, hP, hK, hD0, hE⟩ := hv
  have hx := B.exec
  have hb := B.bytes
  have hr := B.returns
  have hts := atoms_spec (ws := wsX9_force) B.pre
  have hown : s.vm.findClass RX9 = some m.cls := findClass_of_methodNamed B.named
  have hlocks := B.notSynchronized
  subst hsz
  have hD := hD0.self (sz := s.heap.size)
  generalize hAe : va_A [(mm, .inr (11, [.int 0, .ref mk9, .ref mt, .ref mb, .int 0, .int 0, .int 0, .int 0, .null, .int 0, .int 0, .double 0, .int 0, .int 0, .int 0])), (mt, .inr (1, [.int 0, .ref e0, .int 0]))] s.heap.size = A at hD hE ⊢
  have hA : ∀ q : Nat, s.heap.size ≤ q → A q := fun q h => by rw [← hAe]; exact Or.inr h
  have hS : va_S A s.heap s.heap [] := va_S.rf
  have hP : va_P D vwCl [(mm, .inr (11, [.int 0, .ref mk9, .ref mt, .ref mb, .int 0, .int 0, .int 0, .int 0, .null, .int 0, .int 0, .double 0, .int 0, .int 0, .int 0])), (mt, .inr (1, [.int 0, .ref e0, .int 0]))] s.heap := hP
  have hl := lv_entry ([.ref mm, .int p0, .int p1]) (n := 3) (Nat.le_of_ble_eq_true rfl)
  rw [lg_entry_eq]
  generalize (lg_sl ([.ref mm, .int p0, .int p1]) ++ List.replicate (3 - (lg_sl ([.ref mm, .int p0, .int p1])).length) Slot.unset).toArray = ls at hl ⊢
  have hl : lv_has ls 3 [(0, .ref mm), (1, .int p0), (2, .int p1)] := hl
  refine lv_aload_n hx hb dX9_force_0 rfl (lv_at hl 0 rfl) ?_
  refine lv_aload_n hx hb dX9_force_1 rfl (lv_at hl 0 rfl) ?_
  refine lv_iload_n hx hb dX9_force_2 rfl (lv_at hl 1 rfl) ?_
  refine kV_i (As := [.int p0]) (rest := [.ref mm]) (wr := []) ⟨hx, hb, hml, hown, hts⟩ (c_noT l D e0 _ mm mk9 mt mb p0) (cwV 1 hts gX9_force_X9_isNoThing rfl rfl rfl (by decide +kernel) ⟨Nat.le_of_ble_eq_true rfl, Nat.le_of_ble_eq_true rfl⟩) hP hD hK hS hA hE rfl [0, 1] [] [] rfl rfl (by decide) (by decide) (by decide) rfl 11 0 rfl rfl rfl rfl hl.1 (Nat.le_of_ble_eq_true rfl) dX9_force_3 ⟨Nat.le_of_ble_eq_true rfl, Nat.le_of_ble_eq_true rfl⟩ (fun r_1 u9 H locs hw hP hD hK hS => ?_)
  have hw : r_1 = 1 := hw
  subst hw
  have hP : va_P D vwCl [(mm, .inr (11, [.int 0, .ref mk9, .ref mt, .ref mb, .int 0, .int 0, .int 0, .int 0, .null, .int 0, .int 0, .double 0, .int 0, .int 0, .int 0])), (mt, .inr (1, [.int 0, .ref e0, .int 0]))] H := hP
  have hD : va_D A [(mm, .inr (11, [.int 0, .ref mk9, .ref mt, .ref mb, .int 0, .int 0, .int 0, .int 0, .null, .int 0, .int 0, .double 0, .int 0, .int 0, .int 0])), (mt, .inr (1, [.int 0, .ref e0, .int 0]))] := hD
  have hK : va_K D vwCl [] s := hK
  refine lv_iconst (v := 1) hx hb dX9_force_6 (by decide) ?_
  refine kV_i (As := [.int 1, .int 1]) (rest := []) (wr := [(mt, .inr (1, [.int 0, .ref e0, .int 0]))]) ⟨hx, hb, hml, hown, hts⟩ (c_start1 l D e0 _ mm mk9 mt mb) (cwV 2 hts gX9_force_X9_start rfl rfl rfl (by decide +kernel) ⟨Nat.le_of_ble_eq_true rfl, Nat.le_of_ble_eq_true rfl⟩) hP hD hK hS hA hE rfl [0] [1] [] rfl rfl (by decide) (by decide) (by decide) rfl 11 0 rfl rfl rfl rfl hl.1 (Nat.le_of_ble_eq_true rfl) dX9_force_7 ⟨Nat.le_of_ble_eq_true rfl, Nat.le_of_ble_eq_true rfl⟩ (fun r_2 u9 H locs hw hP hD hK hS => ?_)
  have hw : r_2 = 1 := hw
  subst hw
  have hP : va_P D vwCl [(mt, .inr (1, [.int 0, .ref e0, .int 0])), (mm, .inr (11, [.int 1, .ref mk9, .ref mt, .ref mb, .int 0, .int 0, .int 0, .int 0, .null, .int 0, .int 0, .double 0, .int 0, .int 0, .int 0]))] H := hP
  have hD : va_D A [(mt, .inr (1, [.int 0, .ref e0, .int 0])), (mm, .inr (11, [.int 1, .ref mk9, .ref mt, .ref mb, .int 0, .int 0, .int 0, .int 0, .null, .int 0, .int 0, .double 0, .int 0, .int 0, .int 0]))] := hD
  have hK : va_K D vwCl [] s := hK
  refine lv_if_ne (tgt := 42) hx hb dX9_force_10 (by decide) (fun _ => ?_) (fun h9 => absurd h9 (by decide))
  refine lv_dconst0 hx hb dX9_force_42 ?_
  exact end_d (v := FP.dconst0) hx hb hr hlocks hP hD hK hS () rfl [1] [] rfl (by decide) rfl (Nat.le_of_ble_eq_true rfl) (Nat.le_of_ble_eq_true rfl) dX9_force_43
set_option maxHeartbeats 4000000 in
set_option maxRecDepth 100000 in
/-- the reference: ticks on a new object is refused -/
theorem c_m_ticks (l : Launch) (D : va_G) (e0 sz : Nat) (mm mk9 mt mb : Nat) (p0 p1 : Int32) : Kd (S := Unit) l yX9_ticks wsX9_ticks ({ frames := 2, cells := 0, slots := 0, locals := 44 } : Room) [.ref mm, .int p0, .int p1] D [(mm, .inr (11, [.int 0, .ref mk9, .ref mt, .ref mb, .int 0, .int 0, .int 0, .int 0, .null, .int 0, .int 0, .double 0, .int 0, .int 0, .int 0])), (mt, .inr (1, [.int 0, .ref e0, .int 0]))] [] e0 sz (fun r _ => r = 0) (fun _ => [(mm, .inr (11, [.int 1, .ref mk9, .ref mt, .ref mb, .int 0, .int 0, .int 0, .int 0, .null, .int 0, .int 0, .double 0, .int 0, .int 0, .int 0]))]) (fun _ => []) 0 0 := by
  refine Met.ofW (cc := cX9_ticks) (maxL := 3) (ret := (some .double)) (by decide) rfl ?_
  intro p e s m args below meth c s₁ B hml hv
  obtain ⟨rfl, hsz, hP, hK, hD0, hE⟩ := hv
  have hx := B.exec
  have hb := B.bytes
  have hr := B.returns
  have hts := atoms_spec (ws := wsX9_ticks) B.pre
  have hown : s.vm.findClass RX9 = some m.cls := findClass_of_methodNamed B.named
  have hlocks := B.notSynchronized
  subst hsz
  have hD := hD0.self (sz := s.heap.size)
  generalize hAe : va_A [(mm, .inr (11, [.int 0, .ref mk9, .ref mt, .ref mb, .int 0, .int 0, .int 0, .int 0, .null, .int 0, .int 0, .double 0, .int 0, .int 0, .int 0])), (mt, .inr (1, [.int 0, .ref e0, .int 0]))] s.heap.size = A at hD hE ⊢
  have hA : ∀ q : Nat, s.heap.size ≤ q → A q := fun q h => by rw [← hAe]; exact Or.inr h
  have hS : va_S A s.heap s.heap [] := va_S.rf
  have hP : va_P D vwCl [(mm, .inr (11, [.int 0, .ref mk9, .ref mt, .ref mb, .int 0, .int 0, .int 0, .int 0, .null, .int 0, .int 0, .double 0, .int 0, .int 0, .int 0])), (mt, .inr (1, [.int 0, .ref e0, .int 0]))] s.heap := hP
  have hl := lv_entry ([.ref mm, .int p0, .int p1]) (n := 3) (Nat.le_of_ble_eq_true rfl)
  rw [lg_entry_eq]
  generalize (lg_sl ([.ref mm, .int p0, .int p1]) ++ List.replicate (3 - (lg_sl ([.ref mm, .int p0, .int p1])).length) Slot.unset).toArray = ls at hl ⊢
  have hl : lv_has ls 3 [(0, .ref mm), (1, .int p0), (2, .int p1)] := hl
  refine lv_aload_n hx hb dX9_ticks_0 rfl (lv_at hl 0 rfl) ?_
  refine lv_aload_n hx hb dX9_ticks_1 rfl (lv_at hl 0 rfl) ?_
  refine lv_iload_n hx hb dX9_ticks_2 rfl (lv_at hl 1 rfl) ?_
  refine kV_i (As := [.int p0]) (rest := [.ref mm]) (wr := []) ⟨hx, hb, hml, hown, hts⟩ (c_noT l D e0 _ mm mk9 mt mb p0) (cwV 1 hts gX9_ticks_X9_isNoThing rfl rfl rfl (by decide +kernel) ⟨Nat.le_of_ble_eq_true rfl, Nat.le_of_ble_eq_true rfl⟩) hP hD hK hS hA hE rfl [0, 1] [] [] rfl rfl (by decide) (by decide) (by decide) rfl 11 0 rfl rfl rfl rfl hl.1 (Nat.le_of_ble_eq_true rfl) dX9_ticks_3 ⟨Nat.le_of_ble_eq_true rfl, Nat.le_of_ble_eq_true rfl⟩ (fun r_1 u9 H locs hw hP hD hK hS => ?_)
  have hw : r_1 = 1 := hw
  subst hw
  have hP : va_P D vwCl [(mm, .inr (11, [.int 0, .ref mk9, .ref mt, .ref mb, .int 0, .int 0, .int 0, .int 0, .null, .int 0, .int 0, .double 0, .int 0, .int 0, .int 0])), (mt, .inr (1, [.int 0, .ref e0, .int 0]))] H := hP
  have hD : va_D A [(mm, .inr (11, [.int 0, .ref mk9, .ref mt, .ref mb, .int 0, .int 0, .int 0, .int 0, .null, .int 0, .int 0, .double 0, .int 0, .int 0, .int 0])), (mt, .inr (1, [.int 0, .ref e0, .int 0]))] := hD
  have hK : va_K D vwCl [] s := hK
  refine lv_iconst (v := 1) hx hb dX9_ticks_6 (by decide) ?_
  refine kV_i (As := [.int 1, .int 1]) (rest := []) (wr := [(mt, .inr (1, [.int 0, .ref e0, .int 0]))]) ⟨hx, hb, hml, hown, hts⟩ (c_start1 l D e0 _ mm mk9 mt mb) (cwV 2 hts gX9_ticks_X9_start rfl rfl rfl (by decide +kernel) ⟨Nat.le_of_ble_eq_true rfl, Nat.le_of_ble_eq_true rfl⟩) hP hD hK hS hA hE rfl [0] [1] [] rfl rfl (by decide) (by decide) (by decide) rfl 11 0 rfl rfl rfl rfl hl.1 (Nat.le_of_ble_eq_true rfl) dX9_ticks_7 ⟨Nat.le_of_ble_eq_true rfl, Nat.le_of_ble_eq_true rfl⟩ (fun r_2 u9 H locs hw hP hD hK hS => ?_)
  have hw : r_2 = 1 := hw
  subst hw
  have hP : va_P D vwCl [(mt, .inr (1, [.int 0, .ref e0, .int 0])), (mm, .inr (11, [.int 1, .ref mk9, .ref mt, .ref mb, .int 0, .int 0, .int 0, .int 0, .null, .int 0, .int 0, .double 0, .int 0, .int 0, .int 0]))] H := hP
  have hD : va_D A [(mt, .inr (1, [.int 0, .ref e0, .int 0])), (mm, .inr (11, [.int 1, .ref mk9, .ref mt, .ref mb, .int 0, .int 0, .int 0, .int 0, .null, .int 0, .int 0, .double 0, .int 0, .int 0, .int 0]))] := hD
  have hK : va_K D vwCl [] s := hK
  refine lv_if_ne (tgt := 25) hx hb dX9_ticks_10 (by decide) (fun _ => ?_) (fun h9 => absurd h9 (by decide))
  refine lv_dconst0 hx hb dX9_ticks_25 ?_
  exact end_d (v := FP.dconst0) hx hb hr hlocks hP hD hK hS () rfl [1] [] rfl (by decide) rfl (Nat.le_of_ble_eq_true rfl) (Nat.le_of_ble_eq_true rfl) dX9_ticks_26
set_option maxHeartbeats 4000000 in
set_option maxRecDepth 100000 in
theorem c_m_back (l : Launch) (D : va_G) (e0 sz : Nat) (mm mk9 mt mb : Nat) : Ki (S := Unit) l yX9_back wsX9_back ({ frames := 2, cells := 0, slots := 0, locals := 44 } : Room) [.ref mm] D [(mm, .inr (11, [.int 0, .ref mk9, .ref mt, .ref mb, .int 0, .int 0, .int 0, .int 0, .null, .int 0, .int 0, .double 0, .int 0, .int 0, .int 0]))] [] e0 sz (fun r _ => r = 0) (fun _ => [(mm, .inr (11, [.int 1, .ref mk9, .ref mt, .ref mb, .int 0, .int 0, .int 0, .int 0, .null, .int 0, .int 0, .double 0, .int 0, .int 0, .int 0]))]) (fun _ => []) 0 0 := by
  refine Met.ofW (cc := cX9_back) (maxL := 2) (ret := (some .int)) (by decide) rfl ?_
  intro p e s m args below meth c s₁ B hml hv
  obtain ⟨rfl, hsz, hP, hK, hD0, hE⟩ := hv
  have hx := B.exec
  have hb := B.bytes
  have hr := B.returns
  have hts := atoms_spec (ws := wsX9_back) B.pre
  have hown : s.vm.findClass RX9 = some m.cls := findClass_of_methodNamed B.named
  have hlocks := B.notSynchronized
  subst hsz
  have hD := hD0.self (sz := s.heap.size)
  generalize hAe : va_A [(mm, .inr (11, [.int 0, .ref mk9, .ref mt, .ref mb, .int 0, .int 0, .int 0, .int 0, .null, .int 0, .int 0, .double 0, .int 0, .int 0, .int 0]))] s.heap.size = A at hD hE ⊢
  have hA : ∀ q : Nat, s.heap.size ≤ q → A q := fun q h => by rw [← hAe]; exact Or.inr h
  have hS : va_S A s.heap s.heap [] := va_S.rf
  have hP : va_P D vwCl [(mm, .inr (11, [.int 0, .ref mk9, .ref mt, .ref mb, .int 0, .int 0, .int 0, .int 0, .null, .int 0, .int 0, .double 0, .int 0, .int 0, .int 0]))] s.heap := hP
  have hl := lv_entry ([.ref mm]) (n := 2) (Nat.le_of_ble_eq_true rfl)
  rw [lg_entry_eq]
  generalize (lg_sl ([.ref mm]) ++ List.replicate (2 - (lg_sl ([.ref mm])).length) Slot.unset).toArray = ls at hl ⊢
  have hl : lv_has ls 2 [(0, .ref mm)] := hl
  refine lv_aload_n hx hb dX9_back_0 rfl (lv_at hl 0 rfl) ?_
  refine lv_aload_n hx hb dX9_back_1 rfl (lv_at hl 0 rfl) ?_
  refine va_get (D := D) (ci := 11) (v := .null) (C := RX9) (T := TX9) (N := 15) hx hb hts (by decide +kernel) hown hK hP 0 rfl rfl 8 (by decide) (hts (.fieldLink RX9 241 "PickCellModel" "held" "LPickCellModel$Thing;") (by decide +kernel)) (fun _ h9 => h9) rfl dX9_back_2 ?_
  refine lv_ifnonnullN hx hb dX9_back_5 ?_
  refine lv_iconst (v := 1) hx hb dX9_back_8 (by decide) ?_
  refine lv_goto (tgt := 13) hx hb dX9_back_9 (by decide) ?_
  refine lv_iconst (v := 1) hx hb dX9_back_13 (by decide) ?_
  refine kV_i (As := [.int 1, .int 1]) (rest := []) (wr := []) ⟨hx, hb, hml, hown, hts⟩ (c_start1 l D e0 _ mm mk9 mt mb) (cwV 2 hts gX9_back_X9_start rfl rfl rfl (by decide +kernel) ⟨Nat.le_of_ble_eq_true rfl, Nat.le_of_ble_eq_true rfl⟩) hP hD hK hS hA hE rfl [0] [] [] rfl rfl (by decide) (by decide) (by decide) rfl 11 0 rfl rfl rfl rfl hl.1 (Nat.le_of_ble_eq_true rfl) dX9_back_14 ⟨Nat.le_of_ble_eq_true rfl, Nat.le_of_ble_eq_true rfl⟩ (fun r_1 u9 H locs hw hP hD hK hS => ?_)
  have hw : r_1 = 1 := hw
  subst hw
  have hP : va_P D vwCl [(mm, .inr (11, [.int 1, .ref mk9, .ref mt, .ref mb, .int 0, .int 0, .int 0, .int 0, .null, .int 0, .int 0, .double 0, .int 0, .int 0, .int 0]))] H := hP
  have hD : va_D A [(mm, .inr (11, [.int 1, .ref mk9, .ref mt, .ref mb, .int 0, .int 0, .int 0, .int 0, .null, .int 0, .int 0, .double 0, .int 0, .int 0, .int 0]))] := hD
  have hK : va_K D vwCl [] s := hK
  refine lv_if_eq (tgt := 22) hx hb dX9_back_17 (by decide) (fun h9 => absurd h9 (by decide)) (fun _ => ?_)
  refine lv_iconst (v := 0) hx hb dX9_back_20 (by decide) ?_
  exact end_i (v := 0) hx hb hr rfl hlocks hP hD hK hS () rfl [0] [] rfl (by decide) rfl (Nat.le_of_ble_eq_true rfl) (Nat.le_of_ble_eq_true rfl) dX9_back_21
set_option maxHeartbeats 4000000 in
set_option maxRecDepth 100000 in
theorem c_m_clock (l : Launch) (D : va_G) (e0 sz : Nat) (mm mk9 mt mb : Nat) : Kd (S := Unit) l yX9_clock wsX9_clock ({ frames := 0, cells := 0, slots := 0, locals := 0 } : Room) [.ref mm] D [(mm, .inr (11, [.int 0, .ref mk9, .ref mt, .ref mb, .int 0, .int 0, .int 0, .int 0, .null, .int 0, .int 0, .double 0, .int 0, .int 0, .int 0]))] [] e0 sz (fun r _ => r = 0) (fun _ => [(mm, .inr (11, [.int 0, .ref mk9, .ref mt, .ref mb, .int 0, .int 0, .int 0, .int 0, .null, .int 0, .int 0, .double 0, .int 0, .int 0, .int 0]))]) (fun _ => []) 0 0 := by
  refine Met.ofW (cc := cX9_clock) (maxL := 1) (ret := (some .double)) (by decide) rfl ?_
  intro p e s m args below meth c s₁ B hml hv
  obtain ⟨rfl, hsz, hP, hK, hD0, hE⟩ := hv
  have hx := B.exec
  have hb := B.bytes
  have hr := B.returns
  have hts := atoms_spec (ws := wsX9_clock) B.pre
  have hown : s.vm.findClass RX9 = some m.cls := findClass_of_methodNamed B.named
  have hlocks := B.notSynchronized
  subst hsz
  have hD := hD0.self (sz := s.heap.size)
  generalize hAe : va_A [(mm, .inr (11, [.int 0, .ref mk9, .ref mt, .ref mb, .int 0, .int 0, .int 0, .int 0, .null, .int 0, .int 0, .double 0, .int 0, .int 0, .int 0]))] s.heap.size = A at hD hE ⊢
  have hA : ∀ q : Nat, s.heap.size ≤ q → A q := fun q h => by rw [← hAe]; exact Or.inr h
  have hS : va_S A s.heap s.heap [] := va_S.rf
  have hP : va_P D vwCl [(mm, .inr (11, [.int 0, .ref mk9, .ref mt, .ref mb, .int 0, .int 0, .int 0, .int 0, .null, .int 0, .int 0, .double 0, .int 0, .int 0, .int 0]))] s.heap := hP
  have hl := lv_entry ([.ref mm]) (n := 1) (Nat.le_of_ble_eq_true rfl)
  rw [lg_entry_eq]
  generalize (lg_sl ([.ref mm]) ++ List.replicate (1 - (lg_sl ([.ref mm])).length) Slot.unset).toArray = ls at hl ⊢
  have hl : lv_has ls 1 [(0, .ref mm)] := hl
  refine lv_aload_n hx hb dX9_clock_0 rfl (lv_at hl 0 rfl) ?_
  refine lv_iconst (v := 0) hx hb dX9_clock_1 (by decide) ?_
  refine va_put (D := D) (ci := 11) (v := .int 0) (ty := .int) (C := RX9) (T := TX9) (N := 15) hx hb hts (by decide +kernel) tyX9 tyX9_ok nmX9 hown hK hP hD hS 0 rfl rfl 0 (by decide) (hts (.fieldLink RX9 22 "PickCellModel" "thrown" "I") (by decide +kernel)) (fun _ h9 => h9) rfl (by decide +kernel) rfl rfl (Nat.le_of_ble_eq_true rfl) dX9_clock_2 (fun H locs hP hD hS => ?_)
  have hP : va_P D vwCl [(mm, .inr (11, [.int 0, .ref mk9, .ref mt, .ref mb, .int 0, .int 0, .int 0, .int 0, .null, .int 0, .int 0, .double 0, .int 0, .int 0, .int 0]))] H := hP
  have hD : va_D A [(mm, .inr (11, [.int 0, .ref mk9, .ref mt, .ref mb, .int 0, .int 0, .int 0, .int 0, .null, .int 0, .int 0, .double 0, .int 0, .int 0, .int 0]))] := hD
  refine lv_aload_n hx hb dX9_clock_5 rfl (lv_at hl 0 rfl) ?_
  refine va_get (D := D) (ci := 11) (v := .double 0) (C := RX9) (T := TX9) (N := 15) hx hb hts (by decide +kernel) hown hK hP 0 rfl rfl 11 (by decide) (hts (.fieldLink RX9 252 "PickCellModel" "clock" "D") (by decide +kernel)) (fun _ h9 => h9) rfl dX9_clock_6 ?_
  exact end_d (v := 0) hx hb hr hlocks hP hD hK hS () rfl [0] [] rfl (by decide) rfl (Nat.le_of_ble_eq_true rfl) (Nat.le_of_ble_eq_true rfl) dX9_clock_9
set_option maxHeartbeats 4000000 in
set_option maxRecDepth 100000 in
theorem c_m_person (l : Launch) (D : va_G) (e0 sz : Nat) (mm mk9 mt mb : Nat) (p0 p1 : Int32) (hb0 : p0 = 0 ∨ p0 = 1) (hb1 : p1 = 0 ∨ p1 = 1) : Ki (S := Unit) l yX9_person wsX9_person ({ frames := 0, cells := 0, slots := 0, locals := 0 } : Room) [.ref mm, .int p0, .int p1] D [(mm, .inr (11, [.int 0, .ref mk9, .ref mt, .ref mb, .int 0, .int 0, .int 0, .int 0, .null, .int 0, .int 0, .double 0, .int 0, .int 0, .int 0]))] [] e0 sz (fun r _ => r = 0) (fun _ => []) (fun _ => []) 0 0 := by
  refine Met.ofW (cc := cX9_person) (maxL := 4) (ret := (some .boolean)) (by decide) rfl ?_
  intro p e s m args below meth c s₁ B hml hv
  obtain ⟨rfl, hsz, hP, hK, hD0, hE⟩ := hv
  have hx := B.exec
  have hb := B.bytes
  have hr := B.returns
  have hts := atoms_spec (ws := wsX9_person) B.pre
  have hown : s.vm.findClass RX9 = some m.cls := findClass_of_methodNamed B.named
  have hlocks := B.notSynchronized
  subst hsz
  have hD := hD0.self (sz := s.heap.size)
  generalize hAe : va_A [(mm, .inr (11, [.int 0, .ref mk9, .ref mt, .ref mb, .int 0, .int 0, .int 0, .int 0, .null, .int 0, .int 0, .double 0, .int 0, .int 0, .int 0]))] s.heap.size = A at hD hE ⊢
  have hA : ∀ q : Nat, s.heap.size ≤ q → A q := fun q h => by rw [← hAe]; exact Or.inr h
  have hS : va_S A s.heap s.heap [] := va_S.rf
  have hP : va_P D vwCl [(mm, .inr (11, [.int 0, .ref mk9, .ref mt, .ref mb, .int 0, .int 0, .int 0, .int 0, .null, .int 0, .int 0, .double 0, .int 0, .int 0, .int 0]))] s.heap := hP
  have hl := lv_entry ([.ref mm, .int p0, .int p1]) (n := 4) (Nat.le_of_ble_eq_true rfl)
  rw [lg_entry_eq]
  generalize (lg_sl ([.ref mm, .int p0, .int p1]) ++ List.replicate (4 - (lg_sl ([.ref mm, .int p0, .int p1])).length) Slot.unset).toArray = ls at hl ⊢
  have hl : lv_has ls 4 [(0, .ref mm), (1, .int p0), (2, .int p1)] := hl
  refine lv_aload_n hx hb dX9_person_0 rfl (lv_at hl 0 rfl) ?_
  refine lv_iconst (v := 0) hx hb dX9_person_1 (by decide) ?_
  refine va_put (D := D) (ci := 11) (v := .int 0) (ty := .int) (C := RX9) (T := TX9) (N := 15) hx hb hts (by decide +kernel) tyX9 tyX9_ok nmX9 hown hK hP hD hS 0 rfl rfl 0 (by decide) (hts (.fieldLink RX9 22 "PickCellModel" "thrown" "I") (by decide +kernel)) (fun _ h9 => h9) rfl (by decide +kernel) rfl rfl (Nat.le_of_ble_eq_true rfl) dX9_person_2 (fun H locs hP hD hS => ?_)
  have hP : va_P D vwCl [(mm, .inr (11, [.int 0, .ref mk9, .ref mt, .ref mb, .int 0, .int 0, .int 0, .int 0, .null, .int 0, .int 0, .double 0, .int 0, .int 0, .int 0]))] H := hP
  have hD : va_D A [(mm, .inr (11, [.int 0, .ref mk9, .ref mt, .ref mb, .int 0, .int 0, .int 0, .int 0, .null, .int 0, .int 0, .double 0, .int 0, .int 0, .int 0]))] := hD
  refine lv_aload_n hx hb dX9_person_5 rfl (lv_at hl 0 rfl) ?_
  refine va_get (D := D) (ci := 11) (v := .int 0) (C := RX9) (T := TX9) (N := 15) hx hb hts (by decide +kernel) hown hK hP 0 rfl rfl 9 (by decide) (hts (.fieldLink RX9 163 "PickCellModel" "isNear" "Z") (by decide +kernel)) (fun _ h9 => h9) rfl dX9_person_6 ?_
  refine lv_istore_n (lv' := [(3, .int 0), (0, .ref mm), (1, .int p0), (2, .int p1)]) hx hb dX9_person_9 rfl hl (by decide) rfl (fun ls hl => ?_)
  refine lv_aload_n hx hb dX9_person_10 rfl (lv_at hl 1 rfl) ?_
  refine lv_iload_n hx hb dX9_person_11 rfl (lv_at hl 2 rfl) ?_
  refine va_put (D := D) (ci := 11) (v := .int p0) (ty := .boolean) (C := RX9) (T := TX9) (N := 15) hx hb hts (by decide +kernel) tyX9 tyX9_ok nmX9 hown hK hP hD hS 0 rfl rfl 9 (by decide) (hts (.fieldLink RX9 163 "PickCellModel" "isNear" "Z") (by decide +kernel)) (fun _ h9 => h9) rfl (by decide +kernel) (bool_nar hb0) (bool_fit hb0) (Nat.le_of_ble_eq_true rfl) dX9_person_12 (fun H locs hP hD hS => ?_)
  have hP : va_P D vwCl [(mm, .inr (11, [.int 0, .ref mk9, .ref mt, .ref mb, .int 0, .int 0, .int 0, .int 0, .null, .int p0, .int 0, .double 0, .int 0, .int 0, .int 0]))] H := hP
  have hD : va_D A [(mm, .inr (11, [.int 0, .ref mk9, .ref mt, .ref mb, .int 0, .int 0, .int 0, .int 0, .null, .int p0, .int 0, .double 0, .int 0, .int 0, .int 0]))] := hD
  refine lv_aload_n hx hb dX9_person_15 rfl (lv_at hl 1 rfl) ?_
  refine lv_iload_n hx hb dX9_person_16 rfl (lv_at hl 3 rfl) ?_
  refine va_put (D := D) (ci := 11) (v := .int p1) (ty := .boolean) (C := RX9) (T := TX9) (N := 15) hx hb hts (by decide +kernel) tyX9 tyX9_ok nmX9 hown hK hP hD hS 0 rfl rfl 10 (by decide) (hts (.fieldLink RX9 191 "PickCellModel" "isSlow" "Z") (by decide +kernel)) (fun _ h9 => h9) rfl (by decide +kernel) (bool_nar hb1) (bool_fit hb1) (Nat.le_of_ble_eq_true rfl) dX9_person_17 (fun H locs hP hD hS => ?_)
  have hP : va_P D vwCl [(mm, .inr (11, [.int 0, .ref mk9, .ref mt, .ref mb, .int 0, .int 0, .int 0, .int 0, .null, .int p0, .int p1, .double 0, .int 0, .int 0, .int 0]))] H := hP
  have hD : va_D A [(mm, .inr (11, [.int 0, .ref mk9, .ref mt, .ref mb, .int 0, .int 0, .int 0, .int 0, .null, .int p0, .int p1, .double 0, .int 0, .int 0, .int 0]))] := hD
  refine lv_iload_n hx hb dX9_person_20 rfl (lv_at hl 0 rfl) ?_
  exact end_i (v := 0) hx hb hr rfl hlocks hP hD hK hS () rfl [] [] rfl (by decide) rfl (Nat.le_of_ble_eq_true rfl) (Nat.le_of_ble_eq_true rfl) dX9_person_21
set_option maxHeartbeats 4000000 in
set_option maxRecDepth 100000 in
theorem c_noO (l : Launch) (D : va_G) (e0 sz : Nat) (mm mk9 mt mb : Nat) (p0 : Int32) : Ki (S := Unit) l yX9_isNoOrder wsX9_isNoOrder ({ frames := 1, cells := 0, slots := 0, locals := 22 } : Room) [.ref mm, .int p0] D [(mm, .inr (11, [.int 0, .ref mk9, .ref mt, .ref mb, .int 0, .int 0, .int 0, .int 0, .null, .int 0, .int 0, .double 0, .int 0, .int 0, .int 0])), (mk9, .inr (1, [.int 0, .ref e0, .int 0]))] [] e0 sz (fun r _ => r = 1) (fun _ => [(mm, .inr (11, [.int 0, .ref mk9, .ref mt, .ref mb, .int 0, .int 0, .int 0, .int 0, .null, .int 0, .int 0, .double 0, .int 0, .int 0, .int 0])), (mk9, .inr (1, [.int 0, .ref e0, .int 0]))]) (fun _ => []) 0 0 := by
  refine Met.ofW (cc := cX9_isNoOrder) (maxL := 4) (ret := (some .boolean)) (by decide) rfl ?_
  intro p e s m args below meth c s₁ B hml hv
  obtain ⟨rfl, hsz, hP, hK, hD0, hE⟩ := hv
  have hx := B.exec
  have hb := B.bytes
  have hr := B.returns
  have hts := atoms_spec (ws := wsX9_isNoOrder) B.pre
  have hown : s.vm.findClass RX9 = some m.cls := findClass_of_methodNamed B.named
  have hlocks := B.notSynchronized
  subst hsz
  have hD := hD0.self (sz := s.heap.size)
  generalize hAe : va_A [(mm, .inr (11, [.int 0, .ref mk9, .ref mt, .ref mb, .int 0, .int 0, .int 0, .int 0, .null, .int 0, .int 0, .double 0, .int 0, .int 0, .int 0])), (mk9, .inr (1, [.int 0, .ref e0, .int 0]))] s.heap.size = A at hD hE ⊢
  have hA : ∀ q : Nat, s.heap.size ≤ q → A q := fun q h => by rw [← hAe]; exact Or.inr h
  have hS : va_S A s.heap s.heap [] := va_S.rf
  have hP : va_P D vwCl [(mm, .inr (11, [.int 0, .ref mk9, .ref mt, .ref mb, .int 0, .int 0, .int 0, .int 0, .null, .int 0, .int 0, .double 0, .int 0, .int 0, .int 0])), (mk9, .inr (1, [.int 0, .ref e0, .int 0]))] s.heap := hP
  have hl := lv_entry ([.ref mm, .int p0]) (n := 4) (Nat.le_of_ble_eq_true rfl)
  rw [lg_entry_eq]
  generalize (lg_sl ([.ref mm, .int p0]) ++ List.replicate (4 - (lg_sl ([.ref mm, .int p0])).length) Slot.unset).toArray = ls at hl ⊢
  have hl : lv_has ls 4 [(0, .ref mm), (1, .int p0)] := hl
  refine lv_iload_n hx hb dX9_isNoOrder_0 rfl (lv_at hl 1 rfl) ?_
  refine lv_iconst (v := 1) hx hb dX9_isNoOrder_1 (by decide) ?_
  refine lv_ldc hx hb hown (hts (.constant RX9 232 99999) (by decide +kernel)) dX9_isNoOrder_2 ?_
  refine kS_i (As := [.int p0, .int 1, .int 99999]) (rest := []) (wr := [(mm, .inr (11, [.int 0, .ref mk9, .ref mt, .ref mb, .int 0, .int 0, .int 0, .int 0, .null, .int 0, .int 0, .double 0, .int 0, .int 0, .int 0])), (mk9, .inr (1, [.int 0, .ref e0, .int 0]))]) ⟨hx, hb, hml, hown, hts⟩ (c_isIn l D e0 _ p0 1 99999) (va_cwS 3 hts gX9_isNoOrder_X9_isIn rfl rfl rfl (by decide +kernel) ⟨Nat.le_of_ble_eq_true rfl, Nat.le_of_ble_eq_true rfl⟩) hP hD hK hS hA hE rfl [] [0, 1] [] rfl rfl (by decide) (by decide) (by decide) rfl rfl hl.1 (Nat.le_of_ble_eq_true rfl) dX9_isNoOrder_4 ⟨Nat.le_of_ble_eq_true rfl, Nat.le_of_ble_eq_true rfl⟩ (fun r_1 u9 H locs hw hP hD hK hS => ?_)
  have hw : r_1 = (isW p0 1 99999) := hw
  subst hw
  have hP : va_P D vwCl [(mm, .inr (11, [.int 0, .ref mk9, .ref mt, .ref mb, .int 0, .int 0, .int 0, .int 0, .null, .int 0, .int 0, .double 0, .int 0, .int 0, .int 0])), (mk9, .inr (1, [.int 0, .ref e0, .int 0]))] H := hP
  have hD : va_D A [(mm, .inr (11, [.int 0, .ref mk9, .ref mt, .ref mb, .int 0, .int 0, .int 0, .int 0, .null, .int 0, .int 0, .double 0, .int 0, .int 0, .int 0])), (mk9, .inr (1, [.int 0, .ref e0, .int 0]))] := hD
  have hK : va_K D vwCl [] s := hK
  refine lv_if_ne (tgt := 12) hx hb dX9_isNoOrder_7 (by decide) (fun c_7 => ?_) (fun c_7 => ?_)
  · refine lv_iload_n hx hb dX9_isNoOrder_12 rfl (lv_at hl 1 rfl) ?_
    refine lv_istore_n (lv' := [(2, .int p0), (0, .ref mm), (1, .int p0)]) hx hb dX9_isNoOrder_13 rfl hl (by decide) rfl (fun ls hl => ?_)
    refine lv_iconst (v := 0) hx hb dX9_isNoOrder_14 (by decide) ?_
    refine lv_istore_n (lv' := [(3, .int 0), (2, .int p0), (0, .ref mm), (1, .int p0)]) hx hb dX9_isNoOrder_15 rfl hl (by decide) rfl (fun ls hl => ?_)
    refine lv_iload_n hx hb dX9_isNoOrder_16 rfl (lv_at hl 0 rfl) ?_
    refine lv_aload_n hx hb dX9_isNoOrder_17 rfl (lv_at hl 2 rfl) ?_
    refine va_get (D := D) (ci := 11) (v := .ref mk9) (C := RX9) (T := TX9) (N := 15) hx hb hts (by decide +kernel) hown hK hP 0 rfl rfl 1 (by decide) (hts (.fieldLink RX9 10 "PickCellModel" "kinds" "Ljava/util/ArrayList;") (by decide +kernel)) (fun _ h9 => h9) rfl dX9_isNoOrder_18 ?_
    refine kV_i (As := []) (rest := [.int 0]) (wr := [(mm, .inr (11, [.int 0, .ref mk9, .ref mt, .ref mb, .int 0, .int 0, .int 0, .int 0, .null, .int 0, .int 0, .double 0, .int 0, .int 0, .int 0]))]) ⟨hx, hb, hml, hown, hts⟩ (c_size l D e0 _ mk9 0 0 (.ref e0)) (cwV 0 hts gX9_isNoOrder_Jx4a65c_size_8abf5 rfl rfl rfl (by decide +kernel) ⟨Nat.le_of_ble_eq_true rfl, Nat.le_of_ble_eq_true rfl⟩) hP hD hK hS hA hE rfl [1] [0] [] rfl rfl (by decide) (by decide) (by decide) rfl 1 1 rfl rfl rfl rfl hl.1 (Nat.le_of_ble_eq_true rfl) dX9_isNoOrder_21 ⟨Nat.le_of_ble_eq_true rfl, Nat.le_of_ble_eq_true rfl⟩ (fun r_2 u9 H locs hw hP hD hK hS => ?_)
    have hw : r_2 = 0 := hw
    subst hw
    have hP : va_P D vwCl [(mm, .inr (11, [.int 0, .ref mk9, .ref mt, .ref mb, .int 0, .int 0, .int 0, .int 0, .null, .int 0, .int 0, .double 0, .int 0, .int 0, .int 0])), (mk9, .inr (1, [.int 0, .ref e0, .int 0]))] H := hP
    have hD : va_D A [(mm, .inr (11, [.int 0, .ref mk9, .ref mt, .ref mb, .int 0, .int 0, .int 0, .int 0, .null, .int 0, .int 0, .double 0, .int 0, .int 0, .int 0])), (mk9, .inr (1, [.int 0, .ref e0, .int 0]))] := hD
    have hK : va_K D vwCl [] s := hK
    refine lv_icmp_ge (tgt := 38) hx hb dX9_isNoOrder_24 (by decide) (fun _ => ?_) (fun h9 => absurd (by decide) h9)
    refine lv_iload_n hx hb dX9_isNoOrder_38 rfl (lv_at hl 1 rfl) ?_
    refine lv_if_le (tgt := 46) hx hb dX9_isNoOrder_39 (by decide) (fun h9 => False.elim (isW_pos c_7 h9)) (fun c_39 => ?_)
    refine lv_iconst (v := 1) hx hb dX9_isNoOrder_42 (by decide) ?_
    refine lv_goto (tgt := 47) hx hb dX9_isNoOrder_43 (by decide) ?_
    exact end_i (v := 1) hx hb hr rfl hlocks hP hD hK hS () rfl [0, 1] [] rfl (by decide) rfl (Nat.le_of_ble_eq_true rfl) (Nat.le_of_ble_eq_true rfl) dX9_isNoOrder_47
  · refine lv_iconst (v := 1) hx hb dX9_isNoOrder_10 (by decide) ?_
    exact end_i (v := 1) hx hb hr rfl hlocks hP hD hK hS () rfl [0, 1] [] rfl (by decide) rfl (Nat.le_of_ble_eq_true rfl) (Nat.le_of_ble_eq_true rfl) dX9_isNoOrder_11
set_option maxHeartbeats 4000000 in
set_option maxRecDepth 100000 in
/-- the reference: box on a new object is refused -/
theorem c_m_box (l : Launch) (D : va_G) (e0 sz : Nat) (mm mk9 mt mb : Nat) (p0 : Int32) : Ki (S := Unit) l yX9_box wsX9_box ({ frames := 2, cells := 0, slots := 0, locals := 45 } : Room) [.ref mm, .int p0] D [(mm, .inr (11, [.int 0, .ref mk9, .ref mt, .ref mb, .int 0, .int 0, .int 0, .int 0, .null, .int 0, .int 0, .double 0, .int 0, .int 0, .int 0])), (mk9, .inr (1, [.int 0, .ref e0, .int 0]))] [] e0 sz (fun r _ => r = 0) (fun _ => [(mm, .inr (11, [.int 1, .ref mk9, .ref mt, .ref mb, .int 0, .int 0, .int 0, .int 0, .null, .int 0, .int 0, .double 0, .int 0, .int 0, .int 0]))]) (fun _ => []) 0 0 := by
  refine Met.ofW (cc := cX9_box) (maxL := 2) (ret := (some .int)) (by decide) rfl ?_
  intro p e s m args below meth c s₁ B hml hv
  obtain ⟨rfl, hsz, hP, hK, hD0, hE⟩ := hv
  have hx := B.exec
  have hb := B.bytes
  have hr := B.returns
  have hts := atoms_spec (ws := wsX9_box) B.pre
  have hown : s.vm.findClass RX9 = some m.cls := findClass_of_methodNamed B.named
  have hlocks := B.notSynchronized
  subst hsz
  have hD := hD0.self (sz := s.heap.size)
  generalize hAe : va_A [(mm, .inr (11, [.int 0, .ref mk9, .ref mt, .ref mb, .int 0, .int 0, .int 0, .int 0, .null, .int 0, .int 0, .double 0, .int 0, .int 0, .int 0])), (mk9, .inr (1, [.int 0, .ref e0, .int 0]))] s.heap.size = A at hD hE ⊢
  have hA : ∀ q : Nat, s.heap.size ≤ q → A q := fun q h => by rw [← hAe]; exact Or.inr h
  have hS : va_S A s.heap s.heap [] := va_S.rf
  have hP : va_P D vwCl [(mm, .inr (11, [.int 0, .ref mk9, .ref mt, .ref mb, .int 0, .int 0, .int 0, .int 0, .null, .int 0, .int 0, .double 0, .int 0, .int 0, .int 0])), (mk9, .inr (1, [.int 0, .ref e0, .int 0]))] s.heap := hP
  have hl := lv_entry ([.ref mm, .int p0]) (n := 2) (Nat.le_of_ble_eq_true rfl)
  rw [lg_entry_eq]
  generalize (lg_sl ([.ref mm, .int p0]) ++ List.replicate (2 - (lg_sl ([.ref mm, .int p0])).length) Slot.unset).toArray = ls at hl ⊢
  have hl : lv_has ls 2 [(0, .ref mm), (1, .int p0)] := hl
  refine lv_aload_n hx hb dX9_box_0 rfl (lv_at hl 0 rfl) ?_
  refine lv_aload_n hx hb dX9_box_1 rfl (lv_at hl 0 rfl) ?_
  refine lv_iload_n hx hb dX9_box_2 rfl (lv_at hl 1 rfl) ?_
  refine kV_i (As := [.int p0]) (rest := [.ref mm]) (wr := []) ⟨hx, hb, hml, hown, hts⟩ (c_noO l D e0 _ mm mk9 mt mb p0) (cwV 1 hts gX9_box_X9_isNoOrder rfl rfl rfl (by decide +kernel) ⟨Nat.le_of_ble_eq_true rfl, Nat.le_of_ble_eq_true rfl⟩) hP hD hK hS hA hE rfl [0, 1] [] [] rfl rfl (by decide) (by decide) (by decide) rfl 11 0 rfl rfl rfl rfl hl.1 (Nat.le_of_ble_eq_true rfl) dX9_box_3 ⟨Nat.le_of_ble_eq_true rfl, Nat.le_of_ble_eq_true rfl⟩ (fun r_1 u9 H locs hw hP hD hK hS => ?_)
  have hw : r_1 = 1 := hw
  subst hw
  have hP : va_P D vwCl [(mm, .inr (11, [.int 0, .ref mk9, .ref mt, .ref mb, .int 0, .int 0, .int 0, .int 0, .null, .int 0, .int 0, .double 0, .int 0, .int 0, .int 0])), (mk9, .inr (1, [.int 0, .ref e0, .int 0]))] H := hP
  have hD : va_D A [(mm, .inr (11, [.int 0, .ref mk9, .ref mt, .ref mb, .int 0, .int 0, .int 0, .int 0, .null, .int 0, .int 0, .double 0, .int 0, .int 0, .int 0])), (mk9, .inr (1, [.int 0, .ref e0, .int 0]))] := hD
  have hK : va_K D vwCl [] s := hK
  refine lv_iconst (v := 1) hx hb dX9_box_6 (by decide) ?_
  refine kV_i (As := [.int 1, .int 1]) (rest := []) (wr := [(mk9, .inr (1, [.int 0, .ref e0, .int 0]))]) ⟨hx, hb, hml, hown, hts⟩ (c_start1 l D e0 _ mm mk9 mt mb) (cwV 2 hts gX9_box_X9_start rfl rfl rfl (by decide +kernel) ⟨Nat.le_of_ble_eq_true rfl, Nat.le_of_ble_eq_true rfl⟩) hP hD hK hS hA hE rfl [0] [1] [] rfl rfl (by decide) (by decide) (by decide) rfl 11 0 rfl rfl rfl rfl hl.1 (Nat.le_of_ble_eq_true rfl) dX9_box_7 ⟨Nat.le_of_ble_eq_true rfl, Nat.le_of_ble_eq_true rfl⟩ (fun r_2 u9 H locs hw hP hD hK hS => ?_)
  have hw : r_2 = 1 := hw
  subst hw
  have hP : va_P D vwCl [(mk9, .inr (1, [.int 0, .ref e0, .int 0])), (mm, .inr (11, [.int 1, .ref mk9, .ref mt, .ref mb, .int 0, .int 0, .int 0, .int 0, .null, .int 0, .int 0, .double 0, .int 0, .int 0, .int 0]))] H := hP
  have hD : va_D A [(mk9, .inr (1, [.int 0, .ref e0, .int 0])), (mm, .inr (11, [.int 1, .ref mk9, .ref mt, .ref mb, .int 0, .int 0, .int 0, .int 0, .null, .int 0, .int 0, .double 0, .int 0, .int 0, .int 0]))] := hD
  have hK : va_K D vwCl [] s := hK
  refine lv_if_ne (tgt := 37) hx hb dX9_box_10 (by decide) (fun _ => ?_) (fun h9 => absurd h9 (by decide))
  refine lv_iconst (v := 0) hx hb dX9_box_37 (by decide) ?_
  exact end_i (v := 0) hx hb hr rfl hlocks hP hD hK hS () rfl [1] [] rfl (by decide) rfl (Nat.le_of_ble_eq_true rfl) (Nat.le_of_ble_eq_true rfl) dX9_box_38
set_option maxHeartbeats 4000000 in
set_option maxRecDepth 100000 in
theorem c_m_topAt (l : Launch) (D : va_G) (e0 sz : Nat) (mm mk9 mt mb : Nat) (p0 p1 : Int32) : Kq (S := Unit) l yX9_topAt wsX9_topAt ({ frames := 3, cells := 1, slots := 4, locals := 53 } : Room) [.ref mm, .int p0, .int p1] D [(mm, .inr (11, [.int 0, .ref mk9, .ref mt, .ref mb, .int 0, .int 0, .int 0, .int 0, .null, .int 0, .int 0, .double 0, .int 0, .int 0, .int 0])), (mt, .inr (1, [.int 0, .ref e0, .int 0]))] [] e0 sz (fun r _ => r = none) (fun _ => [(mm, .inr (11, [.int 0, .ref mk9, .ref mt, .ref mb, .int 0, .int 0, .int 0, .int 0, .null, .int 0, .int 0, .double 0, .int 0, .int 0, .int 0])), (mt, .inr (1, [.int 0, .ref e0, .int 0]))]) (fun _ => []) 1 4 := by
  refine Met.ofW (cc := cX9_topAt) (maxL := 6) (ret := (some (.object "PickCellModel$Thing"))) (by decide) rfl ?_
  intro p e s m args below meth c s₁ B hml hv
  obtain ⟨rfl, hsz, hP, hK, hD0, hE⟩ := hv
  have hx := B.exec
  have hb := B.bytes
  have hr := B.returns
  have hts := atoms_spec (ws := wsX9_topAt) B.pre
  have hown : s.vm.findClass RX9 = some m.cls := findClass_of_methodNamed B.named
  have hlocks := B.notSynchronized
  subst hsz
  have hD := hD0.self (sz := s.heap.size)
  generalize hAe : va_A [(mm, .inr (11, [.int 0, .ref mk9, .ref mt, .ref mb, .int 0, .int 0, .int 0, .int 0, .null, .int 0, .int 0, .double 0, .int 0, .int 0, .int 0])), (mt, .inr (1, [.int 0, .ref e0, .int 0]))] s.heap.size = A at hD hE ⊢
  have hA : ∀ q : Nat, s.heap.size ≤ q → A q := fun q h => by rw [← hAe]; exact Or.inr h
  have hS : va_S A s.heap s.heap [] := va_S.rf
  have hP : va_P D vwCl [(mm, .inr (11, [.int 0, .ref mk9, .ref mt, .ref mb, .int 0, .int 0, .int 0, .int 0, .null, .int 0, .int 0, .double 0, .int 0, .int 0, .int 0])), (mt, .inr (1, [.int 0, .ref e0, .int 0]))] s.heap := hP
  have hl := lv_entry ([.ref mm, .int p0, .int p1]) (n := 6) (Nat.le_of_ble_eq_true rfl)
  rw [lg_entry_eq]
  generalize (lg_sl ([.ref mm, .int p0, .int p1]) ++ List.replicate (6 - (lg_sl ([.ref mm, .int p0, .int p1])).length) Slot.unset).toArray = ls at hl ⊢
  have hl : lv_has ls 6 [(0, .ref mm), (1, .int p0), (2, .int p1)] := hl
  refine lv_null hx hb dX9_topAt_0 ?_
  refine lv_astore_nN (lv' := [(3, .null), (0, .ref mm), (1, .int p0), (2, .int p1)]) hx hb dX9_topAt_1 rfl hl (by decide) rfl (fun ls hl => ?_)
  refine lv_aload_n hx hb dX9_topAt_2 rfl (lv_at hl 1 rfl) ?_
  refine va_get (D := D) (ci := 11) (v := .ref mt) (C := RX9) (T := TX9) (N := 15) hx hb hts (by decide +kernel) hown hK hP 0 rfl rfl 2 (by decide) (hts (.fieldLink RX9 16 "PickCellModel" "things" "Ljava/util/ArrayList;") (by decide +kernel)) (fun _ h9 => h9) rfl dX9_topAt_3 ?_
  refine kV_q (As := []) (rest := []) (wr := [(mm, .inr (11, [.int 0, .ref mk9, .ref mt, .ref mb, .int 0, .int 0, .int 0, .int 0, .null, .int 0, .int 0, .double 0, .int 0, .int 0, .int 0]))]) ⟨hx, hb, hml, hown, hts⟩ (c_iter l D e0 _ mt) (cwV 0 hts gX9_topAt_Jx4a65c_iterator_32c93 rfl rfl rfl (by decide +kernel) ⟨Nat.le_of_ble_eq_true rfl, Nat.le_of_ble_eq_true rfl⟩) hP hD hK hS hA hE rfl [1] [0] [] rfl rfl (by decide) (by decide) (by decide) rfl 1 1 rfl rfl rfl rfl hl.1 (Nat.le_of_ble_eq_true rfl) dX9_topAt_6 ⟨Nat.le_of_ble_eq_true rfl, Nat.le_of_ble_eq_true rfl⟩ (fun r_1 u9 H locs hw hP hD hK hS => ?_)
  obtain ⟨it_2, eit_2⟩ : ∃ z : Nat, z = u9 := ⟨_, rfl⟩
  rw [← eit_2] at hw hP hD
  have hw : r_1 = some it_2 := hw
  subst hw
  refine W.eq (g2 := F0 m 9 ls [.ref it_2]) rfl ?_
  have hP : va_P D vwCl [(mm, .inr (11, [.int 0, .ref mk9, .ref mt, .ref mb, .int 0, .int 0, .int 0, .int 0, .null, .int 0, .int 0, .double 0, .int 0, .int 0, .int 0])), (it_2, .inr (0, [.int 0, .int (-1), .int 0, .ref mt])), (mt, .inr (1, [.int 0, .ref e0, .int 0]))] H := hP
  have hD : va_D A [(mm, .inr (11, [.int 0, .ref mk9, .ref mt, .ref mb, .int 0, .int 0, .int 0, .int 0, .null, .int 0, .int 0, .double 0, .int 0, .int 0, .int 0])), (it_2, .inr (0, [.int 0, .int (-1), .int 0, .ref mt])), (mt, .inr (1, [.int 0, .ref e0, .int 0]))] := hD
  have hK : va_K D vwCl [] s := hK
  refine lv_astore (lv' := [(4, .ref it_2), (3, .null), (0, .ref mm), (1, .int p0), (2, .int p1)]) hx hb dX9_topAt_9 hl (by decide) rfl (fun ls hl => ?_)
  refine lv_aload hx hb dX9_topAt_11 (lv_at hl 0 rfl) ?_
  obtain ⟨cI9, hat9⟩ := classAt_of (hts (.instantiable RJx35411 4) (by decide +kernel))
  refine kF_i (As := []) (rest := []) (wr := [(mm, .inr (11, [.int 0, .ref mk9, .ref mt, .ref mb, .int 0, .int 0, .int 0, .int 0, .null, .int 0, .int 0, .double 0, .int 0, .int 0, .int 0]))]) ⟨hx, hb, hml, hown, hts⟩ (c_hasNext l D e0 _ it_2 mt) (va_cwF 0 hts gX9_topAt_Jx35411_hasNext_aae02_f42Jx35411 rfl rfl rfl hE.2.2.2.2.2.2.2.2 (by decide +kernel) ⟨Nat.le_of_ble_eq_true rfl, Nat.le_of_ble_eq_true rfl⟩) hP hD hK hS hA hE rfl [1, 2] [0] [] rfl rfl (by decide) (by decide) (by decide) rfl hat9 0 1 rfl rfl rfl rfl hl.1 (Nat.le_of_ble_eq_true rfl) dX9_topAt_13 ⟨Nat.le_of_ble_eq_true rfl, Nat.le_of_ble_eq_true rfl⟩ (fun r_3 u9 H locs hw hP hD hK hS => ?_)
  have hw : r_3 = 0 := hw
  subst hw
  have hP : va_P D vwCl [(mm, .inr (11, [.int 0, .ref mk9, .ref mt, .ref mb, .int 0, .int 0, .int 0, .int 0, .null, .int 0, .int 0, .double 0, .int 0, .int 0, .int 0])), (it_2, .inr (0, [.int 0, .int (-1), .int 0, .ref mt])), (mt, .inr (1, [.int 0, .ref e0, .int 0]))] H := hP
  have hD : va_D A [(mm, .inr (11, [.int 0, .ref mk9, .ref mt, .ref mb, .int 0, .int 0, .int 0, .int 0, .null, .int 0, .int 0, .double 0, .int 0, .int 0, .int 0])), (it_2, .inr (0, [.int 0, .int (-1), .int 0, .ref mt])), (mt, .inr (1, [.int 0, .ref e0, .int 0]))] := hD
  have hK : va_K D vwCl [] s := hK
  refine lv_if_eq (tgt := 73) hx hb dX9_topAt_18 (by decide) (fun _ => ?_) (fun h9 => absurd (by decide) h9)
  refine lv_aload_nN hx hb dX9_topAt_73 rfl (lv_at hl 1 rfl) ?_
  exact end_q (v := none) hx hb hr (Or.inl ⟨_, rfl⟩) hlocks hP hD hK hS () rfl [0, 2] [] rfl (by decide) rfl (Nat.le_of_ble_eq_true rfl) (Nat.le_of_ble_eq_true rfl) dX9_topAt_74
set_option maxHeartbeats 4000000 in
set_option maxRecDepth 100000 in
theorem c_m_seenAt (l : Launch) (D : va_G) (e0 sz : Nat) (mm mk9 mt mb : Nat) (p0 p1 : Int32) : Kq (S := Unit) l yX9_seenAt wsX9_seenAt ({ frames := 4, cells := 1, slots := 4, locals := 78 } : Room) [.ref mm, .int p0, .int p1] D [(mm, .inr (11, [.int 0, .ref mk9, .ref mt, .ref mb, .int 0, .int 0, .int 0, .int 0, .null, .int 0, .int 0, .double 0, .int 0, .int 0, .int 0])), (mt, .inr (1, [.int 0, .ref e0, .int 0]))] [] e0 sz (fun r _ => r = none) (fun _ => [(mm, .inr (11, [.int 0, .ref mk9, .ref mt, .ref mb, .int 0, .int 0, .int 0, .int 0, .null, .int 0, .int 0, .double 0, .int 0, .int 0, .int 0])), (mt, .inr (1, [.int 0, .ref e0, .int 0]))]) (fun _ => []) 1 4 := by
  refine Met.ofW (cc := cX9_seenAt) (maxL := 4) (ret := (some (.object "PickCellModel$Thing"))) (by decide) rfl ?_
  intro p e s m args below meth c s₁ B hml hv
  obtain ⟨rfl, hsz, hP, hK, hD0, hE⟩ := hv
  have hx := B.exec
  have hb := B.bytes
  have hr := B.returns
  have hts := atoms_spec (ws := wsX9_seenAt) B.pre
  have hown : s.vm.findClass RX9 = some m.cls := findClass_of_methodNamed B.named
  have hlocks := B.notSynchronized
  subst hsz
  have hD := hD0.self (sz := s.heap.size)
  generalize hAe : va_A [(mm, .inr (11, [.int 0, .ref mk9, .ref mt, .ref mb, .int 0, .int 0, .int 0, .int 0, .null, .int 0, .int 0, .double 0, .int 0, .int 0, .int 0])), (mt, .inr (1, [.int 0, .ref e0, .int 0]))] s.heap.size = A at hD hE ⊢
  have hA : ∀ q : Nat, s.heap.size ≤ q → A q := fun q h => by rw [← hAe]; exact Or.inr h
  have hS : va_S A s.heap s.heap [] := va_S.rf
  have hP : va_P D vwCl [(mm, .inr (11, [.int 0, .ref mk9, .ref mt, .ref mb, .int 0, .int 0, .int 0, .int 0, .null, .int 0, .int 0, .double 0, .int 0, .int 0, .int 0])), (mt, .inr (1, [.int 0, .ref e0, .int 0]))] s.heap := hP
  have hl := lv_entry ([.ref mm, .int p0, .int p1]) (n := 4) (Nat.le_of_ble_eq_true rfl)
  rw [lg_entry_eq]
  generalize (lg_sl ([.ref mm, .int p0, .int p1]) ++ List.replicate (4 - (lg_sl ([.ref mm, .int p0, .int p1])).length) Slot.unset).toArray = ls at hl ⊢
  have hl : lv_has ls 4 [(0, .ref mm), (1, .int p0), (2, .int p1)] := hl
  refine lv_aload_n hx hb dX9_seenAt_0 rfl (lv_at hl 0 rfl) ?_
  refine lv_iload_n hx hb dX9_seenAt_1 rfl (lv_at hl 1 rfl) ?_
  refine lv_iload_n hx hb dX9_seenAt_2 rfl (lv_at hl 2 rfl) ?_
  refine kV_q (As := [.int p0, .int p1]) (rest := []) (wr := []) ⟨hx, hb, hml, hown, hts⟩ (c_m_topAt l D e0 _ mm mk9 mt mb p0 p1) (cwV 2 hts gX9_seenAt_X9_topAt rfl rfl rfl (by decide +kernel) ⟨Nat.le_of_ble_eq_true rfl, Nat.le_of_ble_eq_true rfl⟩) hP hD hK hS hA hE rfl [0, 1] [] [] rfl rfl (by decide) (by decide) (by decide) rfl 11 0 rfl rfl rfl rfl hl.1 (Nat.le_of_ble_eq_true rfl) dX9_seenAt_3 ⟨Nat.le_of_ble_eq_true rfl, Nat.le_of_ble_eq_true rfl⟩ (fun r_1 u9 H locs hw hP hD hK hS => ?_)
  have hw : r_1 = none := hw
  subst hw
  refine W.eq (g2 := F0 m 6 ls [.null]) rfl ?_
  have hP : va_P D vwCl [(mm, .inr (11, [.int 0, .ref mk9, .ref mt, .ref mb, .int 0, .int 0, .int 0, .int 0, .null, .int 0, .int 0, .double 0, .int 0, .int 0, .int 0])), (mt, .inr (1, [.int 0, .ref e0, .int 0]))] H := hP
  have hD : va_D A [(mm, .inr (11, [.int 0, .ref mk9, .ref mt, .ref mb, .int 0, .int 0, .int 0, .int 0, .null, .int 0, .int 0, .double 0, .int 0, .int 0, .int 0])), (mt, .inr (1, [.int 0, .ref e0, .int 0]))] := hD
  have hK : va_K D vwCl [] s := hK
  refine lv_astore_nN (lv' := [(3, .null), (0, .ref mm), (1, .int p0), (2, .int p1)]) hx hb dX9_seenAt_6 rfl hl (by decide) rfl (fun ls hl => ?_)
  refine lv_aload_nN hx hb dX9_seenAt_7 rfl (lv_at hl 0 rfl) ?_
  refine lv_ifnullN (tgt := 59) hx hb dX9_seenAt_8 (by decide) ?_
  refine lv_null hx hb dX9_seenAt_59 ?_
  exact end_q (v := none) hx hb hr (Or.inl ⟨_, rfl⟩) hlocks hP hD hK hS () rfl [0, 1] [] rfl (by decide) rfl (Nat.le_of_ble_eq_true rfl) (Nat.le_of_ble_eq_true rfl) dX9_seenAt_60
set_option maxHeartbeats 4000000 in
set_option maxRecDepth 100000 in
/-- the reference: seen -/
theorem c_m_seen (l : Launch) (D : va_G) (e0 sz : Nat) (mm mk9 mt mb : Nat) (p0 p1 : Int32) : Ki (S := Int32) l yX9_seen wsX9_seen ({ frames := 5, cells := 1, slots := 4, locals := 101 } : Room) [.ref mm, .int p0, .int p1] D [(mm, .inr (11, [.int 0, .ref mk9, .ref mt, .ref mb, .int 0, .int 0, .int 0, .int 0, .null, .int 0, .int 0, .double 0, .int 0, .int 0, .int 0])), (mt, .inr (1, [.int 0, .ref e0, .int 0]))] [] e0 sz (fun (r t : Int32) => r = (if isW p0 0 5 = 0 ∨ isW p1 0 5 = 0 then 0 else -1) ∧ t = (if isW p0 0 5 = 0 ∨ isW p1 0 5 = 0 then 1 else 0)) (fun (t : Int32) => [(mm, .inr (11, [.int t, .ref mk9, .ref mt, .ref mb, .int 0, .int 0, .int 0, .int 0, .null, .int 0, .int 0, .double 0, .int 0, .int 0, .int 0]))]) (fun _ => []) 1 4 := by
  refine Met.ofW (cc := cX9_seen) (maxL := 4) (ret := (some .int)) (by decide) rfl ?_
  intro p e s m args below meth c s₁ B hml hv
  obtain ⟨rfl, hsz, hP, hK, hD0, hE⟩ := hv
  have hx := B.exec
  have hb := B.bytes
  have hr := B.returns
  have hts := atoms_spec (ws := wsX9_seen) B.pre
  have hown : s.vm.findClass RX9 = some m.cls := findClass_of_methodNamed B.named
  have hlocks := B.notSynchronized
  subst hsz
  have hD := hD0.self (sz := s.heap.size)
  generalize hAe : va_A [(mm, .inr (11, [.int 0, .ref mk9, .ref mt, .ref mb, .int 0, .int 0, .int 0, .int 0, .null, .int 0, .int 0, .double 0, .int 0, .int 0, .int 0])), (mt, .inr (1, [.int 0, .ref e0, .int 0]))] s.heap.size = A at hD hE ⊢
  have hA : ∀ q : Nat, s.heap.size ≤ q → A q := fun q h => by rw [← hAe]; exact Or.inr h
  have hS : va_S A s.heap s.heap [] := va_S.rf
  have hP : va_P D vwCl [(mm, .inr (11, [.int 0, .ref mk9, .ref mt, .ref mb, .int 0, .int 0, .int 0, .int 0, .null, .int 0, .int 0, .double 0, .int 0, .int 0, .int 0])), (mt, .inr (1, [.int 0, .ref e0, .int 0]))] s.heap := hP
  have hl := lv_entry ([.ref mm, .int p0, .int p1]) (n := 4) (Nat.le_of_ble_eq_true rfl)
  rw [lg_entry_eq]
  generalize (lg_sl ([.ref mm, .int p0, .int p1]) ++ List.replicate (4 - (lg_sl ([.ref mm, .int p0, .int p1])).length) Slot.unset).toArray = ls at hl ⊢
  have hl : lv_has ls 4 [(0, .ref mm), (1, .int p0), (2, .int p1)] := hl
  refine lv_aload_n hx hb dX9_seen_0 rfl (lv_at hl 0 rfl) ?_
  refine lv_iload_n hx hb dX9_seen_1 rfl (lv_at hl 1 rfl) ?_
  refine lv_iconst (v := 0) hx hb dX9_seen_2 (by decide) ?_
  refine lv_iconst (v := 5) hx hb dX9_seen_3 (by decide) ?_
  refine kS_i (As := [.int p0, .int 0, .int 5]) (rest := [.ref mm]) (wr := [(mm, .inr (11, [.int 0, .ref mk9, .ref mt, .ref mb, .int 0, .int 0, .int 0, .int 0, .null, .int 0, .int 0, .double 0, .int 0, .int 0, .int 0])), (mt, .inr (1, [.int 0, .ref e0, .int 0]))]) ⟨hx, hb, hml, hown, hts⟩ (c_isIn l D e0 _ p0 0 5) (va_cwS 3 hts gX9_seen_X9_isIn rfl rfl rfl (by decide +kernel) ⟨Nat.le_of_ble_eq_true rfl, Nat.le_of_ble_eq_true rfl⟩) hP hD hK hS hA hE rfl [] [0, 1] [] rfl rfl (by decide) (by decide) (by decide) rfl rfl hl.1 (Nat.le_of_ble_eq_true rfl) dX9_seen_4 ⟨Nat.le_of_ble_eq_true rfl, Nat.le_of_ble_eq_true rfl⟩ (fun r_1 u9 H locs hw hP hD hK hS => ?_)
  have hw : r_1 = (isW p0 0 5) := hw
  subst hw
  have hP : va_P D vwCl [(mm, .inr (11, [.int 0, .ref mk9, .ref mt, .ref mb, .int 0, .int 0, .int 0, .int 0, .null, .int 0, .int 0, .double 0, .int 0, .int 0, .int 0])), (mt, .inr (1, [.int 0, .ref e0, .int 0]))] H := hP
  have hD : va_D A [(mm, .inr (11, [.int 0, .ref mk9, .ref mt, .ref mb, .int 0, .int 0, .int 0, .int 0, .null, .int 0, .int 0, .double 0, .int 0, .int 0, .int 0])), (mt, .inr (1, [.int 0, .ref e0, .int 0]))] := hD
  have hK : va_K D vwCl [] s := hK
  refine lv_if_eq (tgt := 19) hx hb dX9_seen_7 (by decide) (fun c_7 => ?_) (fun c_7 => ?_)
  · refine lv_iconst (v := 1) hx hb dX9_seen_19 (by decide) ?_
    refine lv_goto (tgt := 24) hx hb dX9_seen_20 (by decide) ?_
    refine lv_iconst (v := 1) hx hb dX9_seen_24 (by decide) ?_
    refine kV_i (As := [.int 1, .int 1]) (rest := []) (wr := [(mt, .inr (1, [.int 0, .ref e0, .int 0]))]) ⟨hx, hb, hml, hown, hts⟩ (c_start1 l D e0 _ mm mk9 mt mb) (cwV 2 hts gX9_seen_X9_start rfl rfl rfl (by decide +kernel) ⟨Nat.le_of_ble_eq_true rfl, Nat.le_of_ble_eq_true rfl⟩) hP hD hK hS hA hE rfl [0] [1] [] rfl rfl (by decide) (by decide) (by decide) rfl 11 0 rfl rfl rfl rfl hl.1 (Nat.le_of_ble_eq_true rfl) dX9_seen_25 ⟨Nat.le_of_ble_eq_true rfl, Nat.le_of_ble_eq_true rfl⟩ (fun r_2 u9 H locs hw hP hD hK hS => ?_)
    have hw : r_2 = 1 := hw
    subst hw
    have hP : va_P D vwCl [(mt, .inr (1, [.int 0, .ref e0, .int 0])), (mm, .inr (11, [.int 1, .ref mk9, .ref mt, .ref mb, .int 0, .int 0, .int 0, .int 0, .null, .int 0, .int 0, .double 0, .int 0, .int 0, .int 0]))] H := hP
    have hD : va_D A [(mt, .inr (1, [.int 0, .ref e0, .int 0])), (mm, .inr (11, [.int 1, .ref mk9, .ref mt, .ref mb, .int 0, .int 0, .int 0, .int 0, .null, .int 0, .int 0, .double 0, .int 0, .int 0, .int 0]))] := hD
    have hK : va_K D vwCl [] s := hK
    refine lv_if_eq (tgt := 33) hx hb dX9_seen_28 (by decide) (fun h9 => absurd h9 (by decide)) (fun _ => ?_)
    refine lv_iconst (v := 0) hx hb dX9_seen_31 (by decide) ?_
    exact end_i (v := 0) hx hb hr rfl hlocks hP hD hK hS 1 (⟨(if_pos (Or.inl c_7)).symm, (if_pos (Or.inl c_7)).symm⟩) [1] [] rfl (by decide) rfl (Nat.le_of_ble_eq_true rfl) (Nat.le_of_ble_eq_true rfl) dX9_seen_32
  · refine lv_iload_n hx hb dX9_seen_10 rfl (lv_at hl 2 rfl) ?_
    refine lv_iconst (v := 0) hx hb dX9_seen_11 (by decide) ?_
    refine lv_iconst (v := 5) hx hb dX9_seen_12 (by decide) ?_
    refine kS_i (As := [.int p1, .int 0, .int 5]) (rest := [.ref mm]) (wr := [(mm, .inr (11, [.int 0, .ref mk9, .ref mt, .ref mb, .int 0, .int 0, .int 0, .int 0, .null, .int 0, .int 0, .double 0, .int 0, .int 0, .int 0])), (mt, .inr (1, [.int 0, .ref e0, .int 0]))]) ⟨hx, hb, hml, hown, hts⟩ (c_isIn l D e0 _ p1 0 5) (va_cwS 3 hts gX9_seen_X9_isIn rfl rfl rfl (by decide +kernel) ⟨Nat.le_of_ble_eq_true rfl, Nat.le_of_ble_eq_true rfl⟩) hP hD hK hS hA hE rfl [] [0, 1] [] rfl rfl (by decide) (by decide) (by decide) rfl rfl hl.1 (Nat.le_of_ble_eq_true rfl) dX9_seen_13 ⟨Nat.le_of_ble_eq_true rfl, Nat.le_of_ble_eq_true rfl⟩ (fun r_3 u9 H locs hw hP hD hK hS => ?_)
    have hw : r_3 = (isW p1 0 5) := hw
    subst hw
    have hP : va_P D vwCl [(mm, .inr (11, [.int 0, .ref mk9, .ref mt, .ref mb, .int 0, .int 0, .int 0, .int 0, .null, .int 0, .int 0, .double 0, .int 0, .int 0, .int 0])), (mt, .inr (1, [.int 0, .ref e0, .int 0]))] H := hP
    have hD : va_D A [(mm, .inr (11, [.int 0, .ref mk9, .ref mt, .ref mb, .int 0, .int 0, .int 0, .int 0, .null, .int 0, .int 0, .double 0, .int 0, .int 0, .int 0])), (mt, .inr (1, [.int 0, .ref e0, .int 0]))] := hD
    have hK : va_K D vwCl [] s := hK
    refine lv_if_ne (tgt := 23) hx hb dX9_seen_16 (by decide) (fun c_16 => ?_) (fun c_16 => ?_)
    · refine lv_iconst (v := 0) hx hb dX9_seen_23 (by decide) ?_
      refine lv_iconst (v := 1) hx hb dX9_seen_24 (by decide) ?_
      refine kV_i (As := [.int 0, .int 1]) (rest := []) (wr := [(mt, .inr (1, [.int 0, .ref e0, .int 0]))]) ⟨hx, hb, hml, hown, hts⟩ (c_start0 l D e0 _ mm mk9 mt mb) (cwV 2 hts gX9_seen_X9_start rfl rfl rfl (by decide +kernel) ⟨Nat.le_of_ble_eq_true rfl, Nat.le_of_ble_eq_true rfl⟩) hP hD hK hS hA hE rfl [0] [1] [] rfl rfl (by decide) (by decide) (by decide) rfl 11 0 rfl rfl rfl rfl hl.1 (Nat.le_of_ble_eq_true rfl) dX9_seen_25 ⟨Nat.le_of_ble_eq_true rfl, Nat.le_of_ble_eq_true rfl⟩ (fun r_4 u9 H locs hw hP hD hK hS => ?_)
      have hw : r_4 = 0 := hw
      subst hw
      have hP : va_P D vwCl [(mt, .inr (1, [.int 0, .ref e0, .int 0])), (mm, .inr (11, [.int 0, .ref mk9, .ref mt, .ref mb, .int 0, .int 0, .int 0, .int 0, .null, .int 0, .int 0, .double 0, .int 0, .int 0, .int 0]))] H := hP
      have hD : va_D A [(mt, .inr (1, [.int 0, .ref e0, .int 0])), (mm, .inr (11, [.int 0, .ref mk9, .ref mt, .ref mb, .int 0, .int 0, .int 0, .int 0, .null, .int 0, .int 0, .double 0, .int 0, .int 0, .int 0]))] := hD
      have hK : va_K D vwCl [] s := hK
      refine lv_if_eq (tgt := 33) hx hb dX9_seen_28 (by decide) (fun _ => ?_) (fun h9 => absurd (by decide) h9)
      refine lv_aload_n hx hb dX9_seen_33 rfl (lv_at hl 0 rfl) ?_
      refine lv_iload_n hx hb dX9_seen_34 rfl (lv_at hl 1 rfl) ?_
      refine lv_iload_n hx hb dX9_seen_35 rfl (lv_at hl 2 rfl) ?_
      refine kV_q (As := [.int p0, .int p1]) (rest := []) (wr := []) ⟨hx, hb, hml, hown, hts⟩ (c_m_seenAt l D e0 _ mm mk9 mt mb p0 p1) (cwV 2 hts gX9_seen_X9_seenAt rfl rfl rfl (by decide +kernel) ⟨Nat.le_of_ble_eq_true rfl, Nat.le_of_ble_eq_true rfl⟩) hP hD hK hS hA hE rfl [1, 0] [] [] rfl rfl (by decide) (by decide) (by decide) rfl 11 1 rfl rfl rfl rfl hl.1 (Nat.le_of_ble_eq_true rfl) dX9_seen_36 ⟨Nat.le_of_ble_eq_true rfl, Nat.le_of_ble_eq_true rfl⟩ (fun r_5 u9 H locs hw hP hD hK hS => ?_)
      have hw : r_5 = none := hw
      subst hw
      refine W.eq (g2 := F0 m 39 ls [.null]) rfl ?_
      have hP : va_P D vwCl [(mm, .inr (11, [.int 0, .ref mk9, .ref mt, .ref mb, .int 0, .int 0, .int 0, .int 0, .null, .int 0, .int 0, .double 0, .int 0, .int 0, .int 0])), (mt, .inr (1, [.int 0, .ref e0, .int 0]))] H := hP
      have hD : va_D A [(mm, .inr (11, [.int 0, .ref mk9, .ref mt, .ref mb, .int 0, .int 0, .int 0, .int 0, .null, .int 0, .int 0, .double 0, .int 0, .int 0, .int 0])), (mt, .inr (1, [.int 0, .ref e0, .int 0]))] := hD
      have hK : va_K D vwCl [] s := hK
      refine lv_astore_nN (lv' := [(3, .null), (0, .ref mm), (1, .int p0), (2, .int p1)]) hx hb dX9_seen_39 rfl hl (by decide) rfl (fun ls hl => ?_)
      refine lv_aload_nN hx hb dX9_seen_40 rfl (lv_at hl 0 rfl) ?_
      refine lv_ifnonnullN hx hb dX9_seen_41 ?_
      refine lv_iconst (v := (-1)) hx hb dX9_seen_44 (by decide) ?_
      refine lv_goto (tgt := 52) hx hb dX9_seen_45 (by decide) ?_
      exact end_i (v := (-1)) hx hb hr rfl hlocks hP hD hK hS 0 (⟨(if_neg (fun h => h.elim c_7 c_16)).symm, (if_neg (fun h => h.elim c_7 c_16)).symm⟩) [0] [] rfl (by decide) rfl (Nat.le_of_ble_eq_true rfl) (Nat.le_of_ble_eq_true rfl) dX9_seen_52
    · refine lv_iconst (v := 1) hx hb dX9_seen_19 (by decide) ?_
      refine lv_goto (tgt := 24) hx hb dX9_seen_20 (by decide) ?_
      refine lv_iconst (v := 1) hx hb dX9_seen_24 (by decide) ?_
      refine kV_i (As := [.int 1, .int 1]) (rest := []) (wr := [(mt, .inr (1, [.int 0, .ref e0, .int 0]))]) ⟨hx, hb, hml, hown, hts⟩ (c_start1 l D e0 _ mm mk9 mt mb) (cwV 2 hts gX9_seen_X9_start rfl rfl rfl (by decide +kernel) ⟨Nat.le_of_ble_eq_true rfl, Nat.le_of_ble_eq_true rfl⟩) hP hD hK hS hA hE rfl [0] [1] [] rfl rfl (by decide) (by decide) (by decide) rfl 11 0 rfl rfl rfl rfl hl.1 (Nat.le_of_ble_eq_true rfl) dX9_seen_25 ⟨Nat.le_of_ble_eq_true rfl, Nat.le_of_ble_eq_true rfl⟩ (fun r_6 u9 H locs hw hP hD hK hS => ?_)
      have hw : r_6 = 1 := hw
      subst hw
      have hP : va_P D vwCl [(mt, .inr (1, [.int 0, .ref e0, .int 0])), (mm, .inr (11, [.int 1, .ref mk9, .ref mt, .ref mb, .int 0, .int 0, .int 0, .int 0, .null, .int 0, .int 0, .double 0, .int 0, .int 0, .int 0]))] H := hP
      have hD : va_D A [(mt, .inr (1, [.int 0, .ref e0, .int 0])), (mm, .inr (11, [.int 1, .ref mk9, .ref mt, .ref mb, .int 0, .int 0, .int 0, .int 0, .null, .int 0, .int 0, .double 0, .int 0, .int 0, .int 0]))] := hD
      have hK : va_K D vwCl [] s := hK
      refine lv_if_eq (tgt := 33) hx hb dX9_seen_28 (by decide) (fun h9 => absurd h9 (by decide)) (fun _ => ?_)
      refine lv_iconst (v := 0) hx hb dX9_seen_31 (by decide) ?_
      exact end_i (v := 0) hx hb hr rfl hlocks hP hD hK hS 1 (⟨(if_pos (Or.inr c_16)).symm, (if_pos (Or.inr c_16)).symm⟩) [1] [] rfl (by decide) rfl (Nat.le_of_ble_eq_true rfl) (Nat.le_of_ble_eq_true rfl) dX9_seen_32
set_option maxHeartbeats 4000000 in
set_option maxRecDepth 100000 in
/-- the reference: kind -/
theorem c_m_kind (l : Launch) (D : va_G) (e0 sz : Nat) (mm mk9 mt mb : Nat) (p0 p1 p2 p3 p4 p5 : Int32) : Ki (S := Int32) l yX9_kind wsX9_kind ({ frames := 5, cells := 2, slots := 16, locals := 101 } : Room) [.ref mm, .int p0, .int p1, .int p2, .int p3, .int p4, .int p5] D [(mm, .inr (11, [.int 0, .ref mk9, .ref mt, .ref mb, .int 0, .int 0, .int 0, .int 0, .null, .int 0, .int 0, .double 0, .int 0, .int 0, .int 0])), (mk9, .inr (1, [.int 0, .ref e0, .int 0]))] [] e0 sz (fun (r t : Int32) => r = 0 ∧ t = kdT p0 p1 p2 p3 p4 p5) (fun (t : Int32) => [(mm, .inr (11, [.int t, .ref mk9, .ref mt, .ref mb, .int 0, .int 0, .int 0, .int 0, .null, .int 0, .int 0, .double 0, .int 0, .int 0, .int 0]))]) (fun _ => []) 2 16 := by
  refine Met.ofW (cc := cX9_kind) (maxL := 8) (ret := (some .int)) (by decide) rfl ?_
  intro p e s m args below meth c s₁ B hml hv
  obtain ⟨rfl, hsz, hP, hK, hD0, hE⟩ := hv
  have hx := B.exec
  have hb := B.bytes
  have hr := B.returns
  have hts := atoms_spec (ws := wsX9_kind) B.pre
  have hown : s.vm.findClass RX9 = some m.cls := findClass_of_methodNamed B.named
  have hlocks := B.notSynchronized
  subst hsz
  have hD := hD0.self (sz := s.heap.size)
  generalize hAe : va_A [(mm, .inr (11, [.int 0, .ref mk9, .ref mt, .ref mb, .int 0, .int 0, .int 0, .int 0, .null, .int 0, .int 0, .double 0, .int 0, .int 0, .int 0])), (mk9, .inr (1, [.int 0, .ref e0, .int 0]))] s.heap.size = A at hD hE ⊢
  have hA : ∀ q : Nat, s.heap.size ≤ q → A q := fun q h => by rw [← hAe]; exact Or.inr h
  have hS : va_S A s.heap s.heap [] := va_S.rf
  have hP : va_P D vwCl [(mm, .inr (11, [.int 0, .ref mk9, .ref mt, .ref mb, .int 0, .int 0, .int 0, .int 0, .null, .int 0, .int 0, .double 0, .int 0, .int 0, .int 0])), (mk9, .inr (1, [.int 0, .ref e0, .int 0]))] s.heap := hP
  have hl := lv_entry ([.ref mm, .int p0, .int p1, .int p2, .int p3, .int p4, .int p5]) (n := 8) (Nat.le_of_ble_eq_true rfl)
  rw [lg_entry_eq]
  generalize (lg_sl ([.ref mm, .int p0, .int p1, .int p2, .int p3, .int p4, .int p5]) ++ List.replicate (8 - (lg_sl ([.ref mm, .int p0, .int p1, .int p2, .int p3, .int p4, .int p5])).length) Slot.unset).toArray = ls at hl ⊢
  have hl : lv_has ls 8 [(0, .ref mm), (1, .int p0), (2, .int p1), (3, .int p2), (4, .int p3), (5, .int p4), (6, .int p5)] := hl
  refine lv_iload_n hx hb dX9_kind_0 rfl (lv_at hl 1 rfl) ?_
  refine lv_iconst (v := 1) hx hb dX9_kind_1 (by decide) ?_
  refine lv_iconst (v := 3) hx hb dX9_kind_2 (by decide) ?_
  refine kS_i (As := [.int p0, .int 1, .int 3]) (rest := []) (wr := [(mm, .inr (11, [.int 0, .ref mk9, .ref mt, .ref mb, .int 0, .int 0, .int 0, .int 0, .null, .int 0, .int 0, .double 0, .int 0, .int 0, .int 0])), (mk9, .inr (1, [.int 0, .ref e0, .int 0]))]) ⟨hx, hb, hml, hown, hts⟩ (c_isIn l D e0 _ p0 1 3) (va_cwS 3 hts gX9_kind_X9_isIn rfl rfl rfl (by decide +kernel) ⟨Nat.le_of_ble_eq_true rfl, Nat.le_of_ble_eq_true rfl⟩) hP hD hK hS hA hE rfl [] [0, 1] [] rfl rfl (by decide) (by decide) (by decide) rfl rfl hl.1 (Nat.le_of_ble_eq_true rfl) dX9_kind_3 ⟨Nat.le_of_ble_eq_true rfl, Nat.le_of_ble_eq_true rfl⟩ (fun r_1 u9 H locs hw hP hD hK hS => ?_)
  have hw : r_1 = (isW p0 1 3) := hw
  subst hw
  have hP : va_P D vwCl [(mm, .inr (11, [.int 0, .ref mk9, .ref mt, .ref mb, .int 0, .int 0, .int 0, .int 0, .null, .int 0, .int 0, .double 0, .int 0, .int 0, .int 0])), (mk9, .inr (1, [.int 0, .ref e0, .int 0]))] H := hP
  have hD : va_D A [(mm, .inr (11, [.int 0, .ref mk9, .ref mt, .ref mb, .int 0, .int 0, .int 0, .int 0, .null, .int 0, .int 0, .double 0, .int 0, .int 0, .int 0])), (mk9, .inr (1, [.int 0, .ref e0, .int 0]))] := hD
  have hK : va_K D vwCl [] s := hK
  refine lv_if_eq (tgt := 60) hx hb dX9_kind_6 (by decide) (fun c_6 => ?_) (fun c_6 => ?_)
  · refine lv_iconst (v := 1) hx hb dX9_kind_60 (by decide) ?_
    refine lv_goto (tgt := 65) hx hb dX9_kind_61 (by decide) ?_
    refine lv_istore (lv' := [(7, .int 1), (0, .ref mm), (1, .int p0), (2, .int p1), (3, .int p2), (4, .int p3), (5, .int p4), (6, .int p5)]) hx hb dX9_kind_65 hl (by decide) rfl (fun ls hl => ?_)
    refine lv_aload_n hx hb dX9_kind_67 rfl (lv_at hl 1 rfl) ?_
    refine lv_iload hx hb dX9_kind_68 (lv_at hl 0 rfl) ?_
    refine lv_iconst (v := 1) hx hb dX9_kind_70 (by decide) ?_
    refine kV_i (As := [.int 1, .int 1]) (rest := []) (wr := [(mk9, .inr (1, [.int 0, .ref e0, .int 0]))]) ⟨hx, hb, hml, hown, hts⟩ (c_start1 l D e0 _ mm mk9 mt mb) (cwV 2 hts gX9_kind_X9_start rfl rfl rfl (by decide +kernel) ⟨Nat.le_of_ble_eq_true rfl, Nat.le_of_ble_eq_true rfl⟩) hP hD hK hS hA hE rfl [0] [1] [] rfl rfl (by decide) (by decide) (by decide) rfl 11 0 rfl rfl rfl rfl hl.1 (Nat.le_of_ble_eq_true rfl) dX9_kind_71 ⟨Nat.le_of_ble_eq_true rfl, Nat.le_of_ble_eq_true rfl⟩ (fun r_2 u9 H locs hw hP hD hK hS => ?_)
    have hw : r_2 = 1 := hw
    subst hw
    have hP : va_P D vwCl [(mk9, .inr (1, [.int 0, .ref e0, .int 0])), (mm, .inr (11, [.int 1, .ref mk9, .ref mt, .ref mb, .int 0, .int 0, .int 0, .int 0, .null, .int 0, .int 0, .double 0, .int 0, .int 0, .int 0]))] H := hP
    have hD : va_D A [(mk9, .inr (1, [.int 0, .ref e0, .int 0])), (mm, .inr (11, [.int 1, .ref mk9, .ref mt, .ref mb, .int 0, .int 0, .int 0, .int 0, .null, .int 0, .int 0, .double 0, .int 0, .int 0, .int 0]))] := hD
    have hK : va_K D vwCl [] s := hK
    refine lv_if_ne (tgt := 101) hx hb dX9_kind_74 (by decide) (fun _ => ?_) (fun h9 => absurd h9 (by decide))
    refine lv_iconst (v := 0) hx hb dX9_kind_101 (by decide) ?_
    exact end_i (v := 0) hx hb hr rfl hlocks hP hD hK hS 1 (⟨rfl, ((if_pos (Or.inl c_6))).symm⟩) [1] [] rfl (by decide) rfl (Nat.le_of_ble_eq_true rfl) (Nat.le_of_ble_eq_true rfl) dX9_kind_102
  · refine lv_iload_n hx hb dX9_kind_9 rfl (lv_at hl 2 rfl) ?_
    refine lv_iconst (v := 1) hx hb dX9_kind_10 (by decide) ?_
    refine lv_iconst (v := 3) hx hb dX9_kind_11 (by decide) ?_
    refine kS_i (As := [.int p1, .int 1, .int 3]) (rest := []) (wr := [(mm, .inr (11, [.int 0, .ref mk9, .ref mt, .ref mb, .int 0, .int 0, .int 0, .int 0, .null, .int 0, .int 0, .double 0, .int 0, .int 0, .int 0])), (mk9, .inr (1, [.int 0, .ref e0, .int 0]))]) ⟨hx, hb, hml, hown, hts⟩ (c_isIn l D e0 _ p1 1 3) (va_cwS 3 hts gX9_kind_X9_isIn rfl rfl rfl (by decide +kernel) ⟨Nat.le_of_ble_eq_true rfl, Nat.le_of_ble_eq_true rfl⟩) hP hD hK hS hA hE rfl [] [0, 1] [] rfl rfl (by decide) (by decide) (by decide) rfl rfl hl.1 (Nat.le_of_ble_eq_true rfl) dX9_kind_12 ⟨Nat.le_of_ble_eq_true rfl, Nat.le_of_ble_eq_true rfl⟩ (fun r_3 u9 H locs hw hP hD hK hS => ?_)
    have hw : r_3 = (isW p1 1 3) := hw
    subst hw
    have hP : va_P D vwCl [(mm, .inr (11, [.int 0, .ref mk9, .ref mt, .ref mb, .int 0, .int 0, .int 0, .int 0, .null, .int 0, .int 0, .double 0, .int 0, .int 0, .int 0])), (mk9, .inr (1, [.int 0, .ref e0, .int 0]))] H := hP
    have hD : va_D A [(mm, .inr (11, [.int 0, .ref mk9, .ref mt, .ref mb, .int 0, .int 0, .int 0, .int 0, .null, .int 0, .int 0, .double 0, .int 0, .int 0, .int 0])), (mk9, .inr (1, [.int 0, .ref e0, .int 0]))] := hD
    have hK : va_K D vwCl [] s := hK
    refine lv_if_eq (tgt := 60) hx hb dX9_kind_15 (by decide) (fun c_15 => ?_) (fun c_15 => ?_)
    · refine lv_iconst (v := 1) hx hb dX9_kind_60 (by decide) ?_
      refine lv_goto (tgt := 65) hx hb dX9_kind_61 (by decide) ?_
      refine lv_istore (lv' := [(7, .int 1), (0, .ref mm), (1, .int p0), (2, .int p1), (3, .int p2), (4, .int p3), (5, .int p4), (6, .int p5)]) hx hb dX9_kind_65 hl (by decide) rfl (fun ls hl => ?_)
      refine lv_aload_n hx hb dX9_kind_67 rfl (lv_at hl 1 rfl) ?_
      refine lv_iload hx hb dX9_kind_68 (lv_at hl 0 rfl) ?_
      refine lv_iconst (v := 1) hx hb dX9_kind_70 (by decide) ?_
      refine kV_i (As := [.int 1, .int 1]) (rest := []) (wr := [(mk9, .inr (1, [.int 0, .ref e0, .int 0]))]) ⟨hx, hb, hml, hown, hts⟩ (c_start1 l D e0 _ mm mk9 mt mb) (cwV 2 hts gX9_kind_X9_start rfl rfl rfl (by decide +kernel) ⟨Nat.le_of_ble_eq_true rfl, Nat.le_of_ble_eq_true rfl⟩) hP hD hK hS hA hE rfl [0] [1] [] rfl rfl (by decide) (by decide) (by decide) rfl 11 0 rfl rfl rfl rfl hl.1 (Nat.le_of_ble_eq_true rfl) dX9_kind_71 ⟨Nat.le_of_ble_eq_true rfl, Nat.le_of_ble_eq_true rfl⟩ (fun r_4 u9 H locs hw hP hD hK hS => ?_)
      have hw : r_4 = 1 := hw
      subst hw
      have hP : va_P D vwCl [(mk9, .inr (1, [.int 0, .ref e0, .int 0])), (mm, .inr (11, [.int 1, .ref mk9, .ref mt, .ref mb, .int 0, .int 0, .int 0, .int 0, .null, .int 0, .int 0, .double 0, .int 0, .int 0, .int 0]))] H := hP
      have hD : va_D A [(mk9, .inr (1, [.int 0, .ref e0, .int 0])), (mm, .inr (11, [.int 1, .ref mk9, .ref mt, .ref mb, .int 0, .int 0, .int 0, .int 0, .null, .int 0, .int 0, .double 0, .int 0, .int 0, .int 0]))] := hD
      have hK : va_K D vwCl [] s := hK
      refine lv_if_ne (tgt := 101) hx hb dX9_kind_74 (by decide) (fun _ => ?_) (fun h9 => absurd h9 (by decide))
      refine lv_iconst (v := 0) hx hb dX9_kind_101 (by decide) ?_
      exact end_i (v := 0) hx hb hr rfl hlocks hP hD hK hS 1 (⟨rfl, ((if_pos (Or.inr (Or.inl c_15)))).symm⟩) [1] [] rfl (by decide) rfl (Nat.le_of_ble_eq_true rfl) (Nat.le_of_ble_eq_true rfl) dX9_kind_102
    · refine lv_iload_n hx hb dX9_kind_18 rfl (lv_at hl 3 rfl) ?_
      refine lv_iconst (v := 1) hx hb dX9_kind_19 (by decide) ?_
      refine lv_iconst (v := 4) hx hb dX9_kind_20 (by decide) ?_
      refine kS_i (As := [.int p2, .int 1, .int 4]) (rest := []) (wr := [(mm, .inr (11, [.int 0, .ref mk9, .ref mt, .ref mb, .int 0, .int 0, .int 0, .int 0, .null, .int 0, .int 0, .double 0, .int 0, .int 0, .int 0])), (mk9, .inr (1, [.int 0, .ref e0, .int 0]))]) ⟨hx, hb, hml, hown, hts⟩ (c_isIn l D e0 _ p2 1 4) (va_cwS 3 hts gX9_kind_X9_isIn rfl rfl rfl (by decide +kernel) ⟨Nat.le_of_ble_eq_true rfl, Nat.le_of_ble_eq_true rfl⟩) hP hD hK hS hA hE rfl [] [0, 1] [] rfl rfl (by decide) (by decide) (by decide) rfl rfl hl.1 (Nat.le_of_ble_eq_true rfl) dX9_kind_21 ⟨Nat.le_of_ble_eq_true rfl, Nat.le_of_ble_eq_true rfl⟩ (fun r_5 u9 H locs hw hP hD hK hS => ?_)
      have hw : r_5 = (isW p2 1 4) := hw
      subst hw
      have hP : va_P D vwCl [(mm, .inr (11, [.int 0, .ref mk9, .ref mt, .ref mb, .int 0, .int 0, .int 0, .int 0, .null, .int 0, .int 0, .double 0, .int 0, .int 0, .int 0])), (mk9, .inr (1, [.int 0, .ref e0, .int 0]))] H := hP
      have hD : va_D A [(mm, .inr (11, [.int 0, .ref mk9, .ref mt, .ref mb, .int 0, .int 0, .int 0, .int 0, .null, .int 0, .int 0, .double 0, .int 0, .int 0, .int 0])), (mk9, .inr (1, [.int 0, .ref e0, .int 0]))] := hD
      have hK : va_K D vwCl [] s := hK
      refine lv_if_eq (tgt := 60) hx hb dX9_kind_24 (by decide) (fun c_24 => ?_) (fun c_24 => ?_)
      · refine lv_iconst (v := 1) hx hb dX9_kind_60 (by decide) ?_
        refine lv_goto (tgt := 65) hx hb dX9_kind_61 (by decide) ?_
        refine lv_istore (lv' := [(7, .int 1), (0, .ref mm), (1, .int p0), (2, .int p1), (3, .int p2), (4, .int p3), (5, .int p4), (6, .int p5)]) hx hb dX9_kind_65 hl (by decide) rfl (fun ls hl => ?_)
        refine lv_aload_n hx hb dX9_kind_67 rfl (lv_at hl 1 rfl) ?_
        refine lv_iload hx hb dX9_kind_68 (lv_at hl 0 rfl) ?_
        refine lv_iconst (v := 1) hx hb dX9_kind_70 (by decide) ?_
        refine kV_i (As := [.int 1, .int 1]) (rest := []) (wr := [(mk9, .inr (1, [.int 0, .ref e0, .int 0]))]) ⟨hx, hb, hml, hown, hts⟩ (c_start1 l D e0 _ mm mk9 mt mb) (cwV 2 hts gX9_kind_X9_start rfl rfl rfl (by decide +kernel) ⟨Nat.le_of_ble_eq_true rfl, Nat.le_of_ble_eq_true rfl⟩) hP hD hK hS hA hE rfl [0] [1] [] rfl rfl (by decide) (by decide) (by decide) rfl 11 0 rfl rfl rfl rfl hl.1 (Nat.le_of_ble_eq_true rfl) dX9_kind_71 ⟨Nat.le_of_ble_eq_true rfl, Nat.le_of_ble_eq_true rfl⟩ (fun r_6 u9 H locs hw hP hD hK hS => ?_)
        have hw : r_6 = 1 := hw
        subst hw
        have hP : va_P D vwCl [(mk9, .inr (1, [.int 0, .ref e0, .int 0])), (mm, .inr (11, [.int 1, .ref mk9, .ref mt, .ref mb, .int 0, .int 0, .int 0, .int 0, .null, .int 0, .int 0, .double 0, .int 0, .int 0, .int 0]))] H := hP
        have hD : va_D A [(mk9, .inr (1, [.int 0, .ref e0, .int 0])), (mm, .inr (11, [.int 1, .ref mk9, .ref mt, .ref mb, .int 0, .int 0, .int 0, .int 0, .null, .int 0, .int 0, .double 0, .int 0, .int 0, .int 0]))] := hD
        have hK : va_K D vwCl [] s := hK
        refine lv_if_ne (tgt := 101) hx hb dX9_kind_74 (by decide) (fun _ => ?_) (fun h9 => absurd h9 (by decide))
        refine lv_iconst (v := 0) hx hb dX9_kind_101 (by decide) ?_
        exact end_i (v := 0) hx hb hr rfl hlocks hP hD hK hS 1 (⟨rfl, ((if_pos (Or.inr (Or.inr (Or.inl c_24))))).symm⟩) [1] [] rfl (by decide) rfl (Nat.le_of_ble_eq_true rfl) (Nat.le_of_ble_eq_true rfl) dX9_kind_102
      · refine lv_iload hx hb dX9_kind_27 (lv_at hl 4 rfl) ?_
        refine lv_iconst (v := 1) hx hb dX9_kind_29 (by decide) ?_
        refine lv_bipush (v := 60) hx hb dX9_kind_30 (by decide) ?_
        refine kS_i (As := [.int p3, .int 1, .int 60]) (rest := []) (wr := [(mm, .inr (11, [.int 0, .ref mk9, .ref mt, .ref mb, .int 0, .int 0, .int 0, .int 0, .null, .int 0, .int 0, .double 0, .int 0, .int 0, .int 0])), (mk9, .inr (1, [.int 0, .ref e0, .int 0]))]) ⟨hx, hb, hml, hown, hts⟩ (c_isIn l D e0 _ p3 1 60) (va_cwS 3 hts gX9_kind_X9_isIn rfl rfl rfl (by decide +kernel) ⟨Nat.le_of_ble_eq_true rfl, Nat.le_of_ble_eq_true rfl⟩) hP hD hK hS hA hE rfl [] [0, 1] [] rfl rfl (by decide) (by decide) (by decide) rfl rfl hl.1 (Nat.le_of_ble_eq_true rfl) dX9_kind_32 ⟨Nat.le_of_ble_eq_true rfl, Nat.le_of_ble_eq_true rfl⟩ (fun r_7 u9 H locs hw hP hD hK hS => ?_)
        have hw : r_7 = (isW p3 1 60) := hw
        subst hw
        have hP : va_P D vwCl [(mm, .inr (11, [.int 0, .ref mk9, .ref mt, .ref mb, .int 0, .int 0, .int 0, .int 0, .null, .int 0, .int 0, .double 0, .int 0, .int 0, .int 0])), (mk9, .inr (1, [.int 0, .ref e0, .int 0]))] H := hP
        have hD : va_D A [(mm, .inr (11, [.int 0, .ref mk9, .ref mt, .ref mb, .int 0, .int 0, .int 0, .int 0, .null, .int 0, .int 0, .double 0, .int 0, .int 0, .int 0])), (mk9, .inr (1, [.int 0, .ref e0, .int 0]))] := hD
        have hK : va_K D vwCl [] s := hK
        refine lv_if_eq (tgt := 60) hx hb dX9_kind_35 (by decide) (fun c_35 => ?_) (fun c_35 => ?_)
        · refine lv_iconst (v := 1) hx hb dX9_kind_60 (by decide) ?_
          refine lv_goto (tgt := 65) hx hb dX9_kind_61 (by decide) ?_
          refine lv_istore (lv' := [(7, .int 1), (0, .ref mm), (1, .int p0), (2, .int p1), (3, .int p2), (4, .int p3), (5, .int p4), (6, .int p5)]) hx hb dX9_kind_65 hl (by decide) rfl (fun ls hl => ?_)
          refine lv_aload_n hx hb dX9_kind_67 rfl (lv_at hl 1 rfl) ?_
          refine lv_iload hx hb dX9_kind_68 (lv_at hl 0 rfl) ?_
          refine lv_iconst (v := 1) hx hb dX9_kind_70 (by decide) ?_
          refine kV_i (As := [.int 1, .int 1]) (rest := []) (wr := [(mk9, .inr (1, [.int 0, .ref e0, .int 0]))]) ⟨hx, hb, hml, hown, hts⟩ (c_start1 l D e0 _ mm mk9 mt mb) (cwV 2 hts gX9_kind_X9_start rfl rfl rfl (by decide +kernel) ⟨Nat.le_of_ble_eq_true rfl, Nat.le_of_ble_eq_true rfl⟩) hP hD hK hS hA hE rfl [0] [1] [] rfl rfl (by decide) (by decide) (by decide) rfl 11 0 rfl rfl rfl rfl hl.1 (Nat.le_of_ble_eq_true rfl) dX9_kind_71 ⟨Nat.le_of_ble_eq_true rfl, Nat.le_of_ble_eq_true rfl⟩ (fun r_8 u9 H locs hw hP hD hK hS => ?_)
          have hw : r_8 = 1 := hw
          subst hw
          have hP : va_P D vwCl [(mk9, .inr (1, [.int 0, .ref e0, .int 0])), (mm, .inr (11, [.int 1, .ref mk9, .ref mt, .ref mb, .int 0, .int 0, .int 0, .int 0, .null, .int 0, .int 0, .double 0, .int 0, .int 0, .int 0]))] H := hP
          have hD : va_D A [(mk9, .inr (1, [.int 0, .ref e0, .int 0])), (mm, .inr (11, [.int 1, .ref mk9, .ref mt, .ref mb, .int 0, .int 0, .int 0, .int 0, .null, .int 0, .int 0, .double 0, .int 0, .int 0, .int 0]))] := hD
          have hK : va_K D vwCl [] s := hK
          refine lv_if_ne (tgt := 101) hx hb dX9_kind_74 (by decide) (fun _ => ?_) (fun h9 => absurd h9 (by decide))
          refine lv_iconst (v := 0) hx hb dX9_kind_101 (by decide) ?_
          exact end_i (v := 0) hx hb hr rfl hlocks hP hD hK hS 1 (⟨rfl, ((if_pos (Or.inr (Or.inr (Or.inr (Or.inl c_35)))))).symm⟩) [1] [] rfl (by decide) rfl (Nat.le_of_ble_eq_true rfl) (Nat.le_of_ble_eq_true rfl) dX9_kind_102
        · refine lv_iload hx hb dX9_kind_38 (lv_at hl 5 rfl) ?_
          refine lv_iconst (v := 0) hx hb dX9_kind_40 (by decide) ?_
          refine lv_iconst (v := 2) hx hb dX9_kind_41 (by decide) ?_
          refine kS_i (As := [.int p4, .int 0, .int 2]) (rest := []) (wr := [(mm, .inr (11, [.int 0, .ref mk9, .ref mt, .ref mb, .int 0, .int 0, .int 0, .int 0, .null, .int 0, .int 0, .double 0, .int 0, .int 0, .int 0])), (mk9, .inr (1, [.int 0, .ref e0, .int 0]))]) ⟨hx, hb, hml, hown, hts⟩ (c_isIn l D e0 _ p4 0 2) (va_cwS 3 hts gX9_kind_X9_isIn rfl rfl rfl (by decide +kernel) ⟨Nat.le_of_ble_eq_true rfl, Nat.le_of_ble_eq_true rfl⟩) hP hD hK hS hA hE rfl [] [0, 1] [] rfl rfl (by decide) (by decide) (by decide) rfl rfl hl.1 (Nat.le_of_ble_eq_true rfl) dX9_kind_42 ⟨Nat.le_of_ble_eq_true rfl, Nat.le_of_ble_eq_true rfl⟩ (fun r_9 u9 H locs hw hP hD hK hS => ?_)
          have hw : r_9 = (isW p4 0 2) := hw
          subst hw
          have hP : va_P D vwCl [(mm, .inr (11, [.int 0, .ref mk9, .ref mt, .ref mb, .int 0, .int 0, .int 0, .int 0, .null, .int 0, .int 0, .double 0, .int 0, .int 0, .int 0])), (mk9, .inr (1, [.int 0, .ref e0, .int 0]))] H := hP
          have hD : va_D A [(mm, .inr (11, [.int 0, .ref mk9, .ref mt, .ref mb, .int 0, .int 0, .int 0, .int 0, .null, .int 0, .int 0, .double 0, .int 0, .int 0, .int 0])), (mk9, .inr (1, [.int 0, .ref e0, .int 0]))] := hD
          have hK : va_K D vwCl [] s := hK
          refine lv_if_eq (tgt := 60) hx hb dX9_kind_45 (by decide) (fun c_45 => ?_) (fun c_45 => ?_)
          · refine lv_iconst (v := 1) hx hb dX9_kind_60 (by decide) ?_
            refine lv_goto (tgt := 65) hx hb dX9_kind_61 (by decide) ?_
            refine lv_istore (lv' := [(7, .int 1), (0, .ref mm), (1, .int p0), (2, .int p1), (3, .int p2), (4, .int p3), (5, .int p4), (6, .int p5)]) hx hb dX9_kind_65 hl (by decide) rfl (fun ls hl => ?_)
            refine lv_aload_n hx hb dX9_kind_67 rfl (lv_at hl 1 rfl) ?_
            refine lv_iload hx hb dX9_kind_68 (lv_at hl 0 rfl) ?_
            refine lv_iconst (v := 1) hx hb dX9_kind_70 (by decide) ?_
            refine kV_i (As := [.int 1, .int 1]) (rest := []) (wr := [(mk9, .inr (1, [.int 0, .ref e0, .int 0]))]) ⟨hx, hb, hml, hown, hts⟩ (c_start1 l D e0 _ mm mk9 mt mb) (cwV 2 hts gX9_kind_X9_start rfl rfl rfl (by decide +kernel) ⟨Nat.le_of_ble_eq_true rfl, Nat.le_of_ble_eq_true rfl⟩) hP hD hK hS hA hE rfl [0] [1] [] rfl rfl (by decide) (by decide) (by decide) rfl 11 0 rfl rfl rfl rfl hl.1 (Nat.le_of_ble_eq_true rfl) dX9_kind_71 ⟨Nat.le_of_ble_eq_true rfl, Nat.le_of_ble_eq_true rfl⟩ (fun r_10 u9 H locs hw hP hD hK hS => ?_)
            have hw : r_10 = 1 := hw
            subst hw
            have hP : va_P D vwCl [(mk9, .inr (1, [.int 0, .ref e0, .int 0])), (mm, .inr (11, [.int 1, .ref mk9, .ref mt, .ref mb, .int 0, .int 0, .int 0, .int 0, .null, .int 0, .int 0, .double 0, .int 0, .int 0, .int 0]))] H := hP
            have hD : va_D A [(mk9, .inr (1, [.int 0, .ref e0, .int 0])), (mm, .inr (11, [.int 1, .ref mk9, .ref mt, .ref mb, .int 0, .int 0, .int 0, .int 0, .null, .int 0, .int 0, .double 0, .int 0, .int 0, .int 0]))] := hD
            have hK : va_K D vwCl [] s := hK
            refine lv_if_ne (tgt := 101) hx hb dX9_kind_74 (by decide) (fun _ => ?_) (fun h9 => absurd h9 (by decide))
            refine lv_iconst (v := 0) hx hb dX9_kind_101 (by decide) ?_
            exact end_i (v := 0) hx hb hr rfl hlocks hP hD hK hS 1 (⟨rfl, ((if_pos (Or.inr (Or.inr (Or.inr (Or.inr (Or.inl c_45))))))).symm⟩) [1] [] rfl (by decide) rfl (Nat.le_of_ble_eq_true rfl) (Nat.le_of_ble_eq_true rfl) dX9_kind_102
          · refine lv_iload hx hb dX9_kind_48 (lv_at hl 6 rfl) ?_
            refine lv_iconst (v := 0) hx hb dX9_kind_50 (by decide) ?_
            refine lv_sipush (v := 200) hx hb dX9_kind_51 (by decide) ?_
            refine kS_i (As := [.int p5, .int 0, .int 200]) (rest := []) (wr := [(mm, .inr (11, [.int 0, .ref mk9, .ref mt, .ref mb, .int 0, .int 0, .int 0, .int 0, .null, .int 0, .int 0, .double 0, .int 0, .int 0, .int 0])), (mk9, .inr (1, [.int 0, .ref e0, .int 0]))]) ⟨hx, hb, hml, hown, hts⟩ (c_isIn l D e0 _ p5 0 200) (va_cwS 3 hts gX9_kind_X9_isIn rfl rfl rfl (by decide +kernel) ⟨Nat.le_of_ble_eq_true rfl, Nat.le_of_ble_eq_true rfl⟩) hP hD hK hS hA hE rfl [] [0, 1] [] rfl rfl (by decide) (by decide) (by decide) rfl rfl hl.1 (Nat.le_of_ble_eq_true rfl) dX9_kind_54 ⟨Nat.le_of_ble_eq_true rfl, Nat.le_of_ble_eq_true rfl⟩ (fun r_11 u9 H locs hw hP hD hK hS => ?_)
            have hw : r_11 = (isW p5 0 200) := hw
            subst hw
            have hP : va_P D vwCl [(mm, .inr (11, [.int 0, .ref mk9, .ref mt, .ref mb, .int 0, .int 0, .int 0, .int 0, .null, .int 0, .int 0, .double 0, .int 0, .int 0, .int 0])), (mk9, .inr (1, [.int 0, .ref e0, .int 0]))] H := hP
            have hD : va_D A [(mm, .inr (11, [.int 0, .ref mk9, .ref mt, .ref mb, .int 0, .int 0, .int 0, .int 0, .null, .int 0, .int 0, .double 0, .int 0, .int 0, .int 0])), (mk9, .inr (1, [.int 0, .ref e0, .int 0]))] := hD
            have hK : va_K D vwCl [] s := hK
            refine lv_if_ne (tgt := 64) hx hb dX9_kind_57 (by decide) (fun c_57 => ?_) (fun c_57 => ?_)
            · refine lv_iconst (v := 0) hx hb dX9_kind_64 (by decide) ?_
              refine lv_istore (lv' := [(7, .int 0), (0, .ref mm), (1, .int p0), (2, .int p1), (3, .int p2), (4, .int p3), (5, .int p4), (6, .int p5)]) hx hb dX9_kind_65 hl (by decide) rfl (fun ls hl => ?_)
              refine lv_aload_n hx hb dX9_kind_67 rfl (lv_at hl 1 rfl) ?_
              refine lv_iload hx hb dX9_kind_68 (lv_at hl 0 rfl) ?_
              refine lv_iconst (v := 1) hx hb dX9_kind_70 (by decide) ?_
              refine kV_i (As := [.int 0, .int 1]) (rest := []) (wr := [(mk9, .inr (1, [.int 0, .ref e0, .int 0]))]) ⟨hx, hb, hml, hown, hts⟩ (c_start0 l D e0 _ mm mk9 mt mb) (cwV 2 hts gX9_kind_X9_start rfl rfl rfl (by decide +kernel) ⟨Nat.le_of_ble_eq_true rfl, Nat.le_of_ble_eq_true rfl⟩) hP hD hK hS hA hE rfl [0] [1] [] rfl rfl (by decide) (by decide) (by decide) rfl 11 0 rfl rfl rfl rfl hl.1 (Nat.le_of_ble_eq_true rfl) dX9_kind_71 ⟨Nat.le_of_ble_eq_true rfl, Nat.le_of_ble_eq_true rfl⟩ (fun r_12 u9 H locs hw hP hD hK hS => ?_)
              have hw : r_12 = 0 := hw
              subst hw
              have hP : va_P D vwCl [(mk9, .inr (1, [.int 0, .ref e0, .int 0])), (mm, .inr (11, [.int 0, .ref mk9, .ref mt, .ref mb, .int 0, .int 0, .int 0, .int 0, .null, .int 0, .int 0, .double 0, .int 0, .int 0, .int 0]))] H := hP
              have hD : va_D A [(mk9, .inr (1, [.int 0, .ref e0, .int 0])), (mm, .inr (11, [.int 0, .ref mk9, .ref mt, .ref mb, .int 0, .int 0, .int 0, .int 0, .null, .int 0, .int 0, .double 0, .int 0, .int 0, .int 0]))] := hD
              have hK : va_K D vwCl [] s := hK
              refine lv_if_ne (tgt := 101) hx hb dX9_kind_74 (by decide) (fun h9 => absurd (by decide) h9) (fun _ => ?_)
              refine lv_aload_n hx hb dX9_kind_77 rfl (lv_at hl 1 rfl) ?_
              refine lv_aload_n hx hb dX9_kind_78 rfl (lv_at hl 1 rfl) ?_
              refine va_get (D := D) (ci := 11) (v := .ref mk9) (C := RX9) (T := TX9) (N := 15) hx hb hts (by decide +kernel) hown hK hP 1 rfl rfl 1 (by decide) (hts (.fieldLink RX9 10 "PickCellModel" "kinds" "Ljava/util/ArrayList;") (by decide +kernel)) (fun _ h9 => h9) rfl dX9_kind_79 ?_
              refine kV_i (As := []) (rest := [.ref mm]) (wr := [(mm, .inr (11, [.int 0, .ref mk9, .ref mt, .ref mb, .int 0, .int 0, .int 0, .int 0, .null, .int 0, .int 0, .double 0, .int 0, .int 0, .int 0]))]) ⟨hx, hb, hml, hown, hts⟩ (c_size l D e0 _ mk9 0 0 (.ref e0)) (cwV 0 hts gX9_kind_Jx4a65c_size_8abf5 rfl rfl rfl (by decide +kernel) ⟨Nat.le_of_ble_eq_true rfl, Nat.le_of_ble_eq_true rfl⟩) hP hD hK hS hA hE rfl [0] [1] [] rfl rfl (by decide) (by decide) (by decide) rfl 1 0 rfl rfl rfl rfl hl.1 (Nat.le_of_ble_eq_true rfl) dX9_kind_82 ⟨Nat.le_of_ble_eq_true rfl, Nat.le_of_ble_eq_true rfl⟩ (fun r_13 u9 H locs hw hP hD hK hS => ?_)
              have hw : r_13 = 0 := hw
              subst hw
              have hP : va_P D vwCl [(mm, .inr (11, [.int 0, .ref mk9, .ref mt, .ref mb, .int 0, .int 0, .int 0, .int 0, .null, .int 0, .int 0, .double 0, .int 0, .int 0, .int 0])), (mk9, .inr (1, [.int 0, .ref e0, .int 0]))] H := hP
              have hD : va_D A [(mm, .inr (11, [.int 0, .ref mk9, .ref mt, .ref mb, .int 0, .int 0, .int 0, .int 0, .null, .int 0, .int 0, .double 0, .int 0, .int 0, .int 0])), (mk9, .inr (1, [.int 0, .ref e0, .int 0]))] := hD
              have hK : va_K D vwCl [] s := hK
              refine lv_iconst (v := 5) hx hb dX9_kind_85 (by decide) ?_
              refine lv_icmp_ne (tgt := 93) hx hb dX9_kind_86 (by decide) (fun _ => ?_) (fun h9 => absurd h9 (by decide))
              refine lv_iconst (v := 0) hx hb dX9_kind_93 (by decide) ?_
              refine lv_iconst (v := 2) hx hb dX9_kind_94 (by decide) ?_
              refine kV_i (As := [.int 0, .int 2]) (rest := []) (wr := [(mk9, .inr (1, [.int 0, .ref e0, .int 0]))]) ⟨hx, hb, hml, hown, hts⟩ (c_refuse0 l D e0 _ mm mk9 mt mb 2) (cwV 2 hts gX9_kind_X9_refuse rfl rfl rfl (by decide +kernel) ⟨Nat.le_of_ble_eq_true rfl, Nat.le_of_ble_eq_true rfl⟩) hP hD hK hS hA hE rfl [0] [1] [] rfl rfl (by decide) (by decide) (by decide) rfl 11 0 rfl rfl rfl rfl hl.1 (Nat.le_of_ble_eq_true rfl) dX9_kind_95 ⟨Nat.le_of_ble_eq_true rfl, Nat.le_of_ble_eq_true rfl⟩ (fun r_14 u9 H locs hw hP hD hK hS => ?_)
              have hw : r_14 = 0 := hw
              subst hw
              have hP : va_P D vwCl [(mk9, .inr (1, [.int 0, .ref e0, .int 0])), (mm, .inr (11, [.int 0, .ref mk9, .ref mt, .ref mb, .int 0, .int 0, .int 0, .int 0, .null, .int 0, .int 0, .double 0, .int 0, .int 0, .int 0]))] H := hP
              have hD : va_D A [(mk9, .inr (1, [.int 0, .ref e0, .int 0])), (mm, .inr (11, [.int 0, .ref mk9, .ref mt, .ref mb, .int 0, .int 0, .int 0, .int 0, .null, .int 0, .int 0, .double 0, .int 0, .int 0, .int 0]))] := hD
              have hK : va_K D vwCl [] s := hK
              refine lv_if_eq (tgt := 103) hx hb dX9_kind_98 (by decide) (fun _ => ?_) (fun h9 => absurd (by decide) h9)
              refine lv_aload_n hx hb dX9_kind_103 rfl (lv_at hl 1 rfl) ?_
              refine va_get (D := D) (ci := 11) (v := .ref mk9) (C := RX9) (T := TX9) (N := 15) hx hb hts (by decide +kernel) hown hK hP 1 rfl rfl 1 (by decide) (hts (.fieldLink RX9 10 "PickCellModel" "kinds" "Ljava/util/ArrayList;") (by decide +kernel)) (fun _ h9 => h9) rfl dX9_kind_104 ?_
              refine va_new (ci := 9) (fs := [.int 0, .int 0, .int 0, .int 0, .int 0, .int 0]) (C := RX7) (T := TX7) (N := 6) hx hb hts (by decide +kernel) tyX7 tyX7_ok hown (hts (.classLink RX9 108 RX7) (by decide +kernel)) (hts (.instantiable RX7 6) (by decide +kernel)) (hts (.initialized RX7) (by decide +kernel)) hK hP hD hS hA rfl (fun j hj => by rcases (show j = 0 ∨ j = 1 ∨ j = 2 ∨ j = 3 ∨ j = 4 ∨ j = 5 by omega) with rfl | rfl | rfl | rfl | rfl | rfl <;> rfl) (Nat.le_of_ble_eq_true rfl) (Nat.le_of_ble_eq_true rfl) dX9_kind_107 (fun q_15 H hP hD hS => ?_)
              have hP : va_P D vwCl [(mk9, .inr (1, [.int 0, .ref e0, .int 0])), (mm, .inr (11, [.int 0, .ref mk9, .ref mt, .ref mb, .int 0, .int 0, .int 0, .int 0, .null, .int 0, .int 0, .double 0, .int 0, .int 0, .int 0])), (q_15, .inr (9, [.int 0, .int 0, .int 0, .int 0, .int 0, .int 0]))] H := hP
              have hD : va_D A [(mk9, .inr (1, [.int 0, .ref e0, .int 0])), (mm, .inr (11, [.int 0, .ref mk9, .ref mt, .ref mb, .int 0, .int 0, .int 0, .int 0, .null, .int 0, .int 0, .double 0, .int 0, .int 0, .int 0])), (q_15, .inr (9, [.int 0, .int 0, .int 0, .int 0, .int 0, .int 0]))] := hD
              refine lv_dup hx hb dX9_kind_110 rfl ?_
              refine lv_iload_n hx hb dX9_kind_111 rfl (lv_at hl 2 rfl) ?_
              refine lv_iload_n hx hb dX9_kind_112 rfl (lv_at hl 3 rfl) ?_
              refine lv_iload_n hx hb dX9_kind_113 rfl (lv_at hl 4 rfl) ?_
              refine lv_iload hx hb dX9_kind_114 (lv_at hl 5 rfl) ?_
              refine lv_iload hx hb dX9_kind_116 (lv_at hl 6 rfl) ?_
              refine lv_iload hx hb dX9_kind_118 (lv_at hl 7 rfl) ?_
              refine kI_v (As := [.int p0, .int p1, .int p2, .int p3, .int p4, .int p5]) (rest := [.ref q_15, .ref mk9]) (wr := [(mk9, .inr (1, [.int 0, .ref e0, .int 0])), (mm, .inr (11, [.int 0, .ref mk9, .ref mt, .ref mb, .int 0, .int 0, .int 0, .int 0, .null, .int 0, .int 0, .double 0, .int 0, .int 0, .int 0]))]) ⟨hx, hb, hml, hown, hts⟩ (c_k7_init l D e0 _ q_15 p0 p1 p2 p3 p4 p5) (cwI 6 hts gX9_kind_X7_init rfl rfl rfl (hts (.initialized RX7) (by decide +kernel)) (hts (.methodLink RX9 199 yX7_init) (by decide +kernel)) (hts (.instanceMethod yX7_init) (by decide +kernel)) rfl (by decide +kernel) ⟨Nat.le_of_ble_eq_true rfl, Nat.le_of_ble_eq_true rfl⟩) hP hD hK hS hA hE rfl [2] [0, 1] [] rfl rfl (by decide) (by decide) (by decide) rfl rfl hl.1 (Nat.le_of_ble_eq_true rfl) dX9_kind_120 ⟨Nat.le_of_ble_eq_true rfl, Nat.le_of_ble_eq_true rfl⟩ (fun u9 H locs hw hP hD hK hS => ?_)
              have hP : va_P D vwCl [(mk9, .inr (1, [.int 0, .ref e0, .int 0])), (mm, .inr (11, [.int 0, .ref mk9, .ref mt, .ref mb, .int 0, .int 0, .int 0, .int 0, .null, .int 0, .int 0, .double 0, .int 0, .int 0, .int 0])), (q_15, .inr (9, [.int p0, .int p1, .int p2, .int p3, .int p4, .int p5]))] H := hP
              have hD : va_D A [(mk9, .inr (1, [.int 0, .ref e0, .int 0])), (mm, .inr (11, [.int 0, .ref mk9, .ref mt, .ref mb, .int 0, .int 0, .int 0, .int 0, .null, .int 0, .int 0, .double 0, .int 0, .int 0, .int 0])), (q_15, .inr (9, [.int p0, .int p1, .int p2, .int p3, .int p4, .int p5]))] := hD
              have hK : va_K D vwCl [] s := hK
              refine kV_i (As := [.ref q_15]) (rest := []) (wr := [(mm, .inr (11, [.int 0, .ref mk9, .ref mt, .ref mb, .int 0, .int 0, .int 0, .int 0, .null, .int 0, .int 0, .double 0, .int 0, .int 0, .int 0]))]) ⟨hx, hb, hml, hown, hts⟩ (c_add_X7 l D e0 _ mk9 q_15 p0 p1 p2 p3 p4 p5) (cwV 1 hts gX9_kind_Jx4a65c_add_9ea2d rfl rfl rfl (by decide +kernel) ⟨Nat.le_of_ble_eq_true rfl, Nat.le_of_ble_eq_true rfl⟩) hP hD hK hS hA hE rfl [0, 2] [1] [] rfl rfl (by decide) (by decide) (by decide) rfl 1 0 rfl rfl rfl rfl hl.1 (Nat.le_of_ble_eq_true rfl) dX9_kind_123 ⟨Nat.le_of_ble_eq_true rfl, Nat.le_of_ble_eq_true rfl⟩ (fun r_16 u9 H locs hw hP hD hK hS => ?_)
              obtain ⟨qa, hqa⟩ : ∃ z : Nat, z = u9 := ⟨_, rfl⟩
              rw [← hqa] at hP hD
              have hw : r_16 = 1 := hw
              subst hw
              have hP : va_P D vwCl [(mm, .inr (11, [.int 0, .ref mk9, .ref mt, .ref mb, .int 0, .int 0, .int 0, .int 0, .null, .int 0, .int 0, .double 0, .int 0, .int 0, .int 0])), (mk9, .inr (1, [.int 1, .ref qa, .int 1]))] H := hP
              have hD : va_D A [(mm, .inr (11, [.int 0, .ref mk9, .ref mt, .ref mb, .int 0, .int 0, .int 0, .int 0, .null, .int 0, .int 0, .double 0, .int 0, .int 0, .int 0])), (mk9, .inr (1, [.int 1, .ref qa, .int 1]))] := hD
              have hK : va_K D vwCl [] s := hK
              refine lv_pop hx hb dX9_kind_126 rfl ?_
              refine lv_aload_n hx hb dX9_kind_127 rfl (lv_at hl 1 rfl) ?_
              refine va_get (D := D) (ci := 11) (v := .ref mk9) (C := RX9) (T := TX9) (N := 15) hx hb hts (by decide +kernel) hown hK hP 0 rfl rfl 1 (by decide) (hts (.fieldLink RX9 10 "PickCellModel" "kinds" "Ljava/util/ArrayList;") (by decide +kernel)) (fun _ h9 => h9) rfl dX9_kind_128 ?_
              refine kV_i (As := []) (rest := []) (wr := [(mm, .inr (11, [.int 0, .ref mk9, .ref mt, .ref mb, .int 0, .int 0, .int 0, .int 0, .null, .int 0, .int 0, .double 0, .int 0, .int 0, .int 0]))]) ⟨hx, hb, hml, hown, hts⟩ (c_size l D e0 _ mk9 1 1 (.ref qa)) (cwV 0 hts gX9_kind_Jx4a65c_size_8abf5 rfl rfl rfl (by decide +kernel) ⟨Nat.le_of_ble_eq_true rfl, Nat.le_of_ble_eq_true rfl⟩) hP hD hK hS hA hE rfl [1] [0] [] rfl rfl (by decide) (by decide) (by decide) rfl 1 1 rfl rfl rfl rfl hl.1 (Nat.le_of_ble_eq_true rfl) dX9_kind_131 ⟨Nat.le_of_ble_eq_true rfl, Nat.le_of_ble_eq_true rfl⟩ (fun r_17 u9 H locs hw hP hD hK hS => ?_)
              have hw : r_17 = 1 := hw
              subst hw
              have hP : va_P D vwCl [(mm, .inr (11, [.int 0, .ref mk9, .ref mt, .ref mb, .int 0, .int 0, .int 0, .int 0, .null, .int 0, .int 0, .double 0, .int 0, .int 0, .int 0])), (mk9, .inr (1, [.int 1, .ref qa, .int 1]))] H := hP
              have hD : va_D A [(mm, .inr (11, [.int 0, .ref mk9, .ref mt, .ref mb, .int 0, .int 0, .int 0, .int 0, .null, .int 0, .int 0, .double 0, .int 0, .int 0, .int 0])), (mk9, .inr (1, [.int 1, .ref qa, .int 1]))] := hD
              have hK : va_K D vwCl [] s := hK
              refine lv_iconst (v := 1) hx hb dX9_kind_134 (by decide) ?_
              refine lv_isub hx hb dX9_kind_135 ?_
              refine lv_topi (fun x_18 ex_18 => ?_)
              obtain rfl : x_18 = 0 := ex_18.trans (by decide)
              exact end_i (v := 0) hx hb hr rfl hlocks hP hD hK hS 0 (⟨rfl, ((if_neg (fun h => h.elim c_6 (fun h => h.elim c_15 (fun h => h.elim c_24 (fun h => h.elim c_35 (fun h => h.elim c_45 c_57))))))).symm⟩) [0] [] rfl (by decide) rfl (Nat.le_of_ble_eq_true rfl) (Nat.le_of_ble_eq_true rfl) dX9_kind_136
            · refine lv_iconst (v := 1) hx hb dX9_kind_60 (by decide) ?_
              refine lv_goto (tgt := 65) hx hb dX9_kind_61 (by decide) ?_
              refine lv_istore (lv' := [(7, .int 1), (0, .ref mm), (1, .int p0), (2, .int p1), (3, .int p2), (4, .int p3), (5, .int p4), (6, .int p5)]) hx hb dX9_kind_65 hl (by decide) rfl (fun ls hl => ?_)
              refine lv_aload_n hx hb dX9_kind_67 rfl (lv_at hl 1 rfl) ?_
              refine lv_iload hx hb dX9_kind_68 (lv_at hl 0 rfl) ?_
              refine lv_iconst (v := 1) hx hb dX9_kind_70 (by decide) ?_
              refine kV_i (As := [.int 1, .int 1]) (rest := []) (wr := [(mk9, .inr (1, [.int 0, .ref e0, .int 0]))]) ⟨hx, hb, hml, hown, hts⟩ (c_start1 l D e0 _ mm mk9 mt mb) (cwV 2 hts gX9_kind_X9_start rfl rfl rfl (by decide +kernel) ⟨Nat.le_of_ble_eq_true rfl, Nat.le_of_ble_eq_true rfl⟩) hP hD hK hS hA hE rfl [0] [1] [] rfl rfl (by decide) (by decide) (by decide) rfl 11 0 rfl rfl rfl rfl hl.1 (Nat.le_of_ble_eq_true rfl) dX9_kind_71 ⟨Nat.le_of_ble_eq_true rfl, Nat.le_of_ble_eq_true rfl⟩ (fun r_19 u9 H locs hw hP hD hK hS => ?_)
              have hw : r_19 = 1 := hw
              subst hw
              have hP : va_P D vwCl [(mk9, .inr (1, [.int 0, .ref e0, .int 0])), (mm, .inr (11, [.int 1, .ref mk9, .ref mt, .ref mb, .int 0, .int 0, .int 0, .int 0, .null, .int 0, .int 0, .double 0, .int 0, .int 0, .int 0]))] H := hP
              have hD : va_D A [(mk9, .inr (1, [.int 0, .ref e0, .int 0])), (mm, .inr (11, [.int 1, .ref mk9, .ref mt, .ref mb, .int 0, .int 0, .int 0, .int 0, .null, .int 0, .int 0, .double 0, .int 0, .int 0, .int 0]))] := hD
              have hK : va_K D vwCl [] s := hK
              refine lv_if_ne (tgt := 101) hx hb dX9_kind_74 (by decide) (fun _ => ?_) (fun h9 => absurd h9 (by decide))
              refine lv_iconst (v := 0) hx hb dX9_kind_101 (by decide) ?_
              exact end_i (v := 0) hx hb hr rfl hlocks hP hD hK hS 1 (⟨rfl, ((if_pos (Or.inr (Or.inr (Or.inr (Or.inr (Or.inr (c_57)))))))).symm⟩) [1] [] rfl (by decide) rfl (Nat.le_of_ble_eq_true rfl) (Nat.le_of_ble_eq_true rfl) dX9_kind_102
set_option maxHeartbeats 4000000 in
set_option maxRecDepth 100000 in
theorem c_m_inBin (l : Launch) (D : va_G) (e0 sz : Nat) (mm mk9 mt mb : Nat) : Ki (S := Unit) l yX9_inBin wsX9_inBin ({ frames := 3, cells := 1, slots := 4, locals := 53 } : Room) [.ref mm] D [(mm, .inr (11, [.int 0, .ref mk9, .ref mt, .ref mb, .int 0, .int 0, .int 0, .int 0, .null, .int 0, .int 0, .double 0, .int 0, .int 0, .int 0])), (mt, .inr (1, [.int 0, .ref e0, .int 0]))] [] e0 sz (fun r _ => r = 0) (fun _ => [(mm, .inr (11, [.int 0, .ref mk9, .ref mt, .ref mb, .int 0, .int 0, .int 0, .int 0, .null, .int 0, .int 0, .double 0, .int 0, .int 0, .int 0])), (mt, .inr (1, [.int 0, .ref e0, .int 0]))]) (fun _ => []) 1 4 := by
  refine Met.ofW (cc := cX9_inBin) (maxL := 4) (ret := (some .int)) (by decide) rfl ?_
  intro p e s m args below meth c s₁ B hml hv
  obtain ⟨rfl, hsz, hP, hK, hD0, hE⟩ := hv
  have hx := B.exec
  have hb := B.bytes
  have hr := B.returns
  have hts := atoms_spec (ws := wsX9_inBin) B.pre
  have hown : s.vm.findClass RX9 = some m.cls := findClass_of_methodNamed B.named
  have hlocks := B.notSynchronized
  subst hsz
  have hD := hD0.self (sz := s.heap.size)
  generalize hAe : va_A [(mm, .inr (11, [.int 0, .ref mk9, .ref mt, .ref mb, .int 0, .int 0, .int 0, .int 0, .null, .int 0, .int 0, .double 0, .int 0, .int 0, .int 0])), (mt, .inr (1, [.int 0, .ref e0, .int 0]))] s.heap.size = A at hD hE ⊢
  have hA : ∀ q : Nat, s.heap.size ≤ q → A q := fun q h => by rw [← hAe]; exact Or.inr h
  have hS : va_S A s.heap s.heap [] := va_S.rf
  have hP : va_P D vwCl [(mm, .inr (11, [.int 0, .ref mk9, .ref mt, .ref mb, .int 0, .int 0, .int 0, .int 0, .null, .int 0, .int 0, .double 0, .int 0, .int 0, .int 0])), (mt, .inr (1, [.int 0, .ref e0, .int 0]))] s.heap := hP
  have hl := lv_entry ([.ref mm]) (n := 4) (Nat.le_of_ble_eq_true rfl)
  rw [lg_entry_eq]
  generalize (lg_sl ([.ref mm]) ++ List.replicate (4 - (lg_sl ([.ref mm])).length) Slot.unset).toArray = ls at hl ⊢
  have hl : lv_has ls 4 [(0, .ref mm)] := hl
  refine lv_iconst (v := 0) hx hb dX9_inBin_0 (by decide) ?_
  refine lv_istore_n (lv' := [(1, .int 0), (0, .ref mm)]) hx hb dX9_inBin_1 rfl hl (by decide) rfl (fun ls hl => ?_)
  refine lv_aload_n hx hb dX9_inBin_2 rfl (lv_at hl 1 rfl) ?_
  refine va_get (D := D) (ci := 11) (v := .ref mt) (C := RX9) (T := TX9) (N := 15) hx hb hts (by decide +kernel) hown hK hP 0 rfl rfl 2 (by decide) (hts (.fieldLink RX9 16 "PickCellModel" "things" "Ljava/util/ArrayList;") (by decide +kernel)) (fun _ h9 => h9) rfl dX9_inBin_3 ?_
  refine kV_q (As := []) (rest := []) (wr := [(mm, .inr (11, [.int 0, .ref mk9, .ref mt, .ref mb, .int 0, .int 0, .int 0, .int 0, .null, .int 0, .int 0, .double 0, .int 0, .int 0, .int 0]))]) ⟨hx, hb, hml, hown, hts⟩ (c_iter l D e0 _ mt) (cwV 0 hts gX9_inBin_Jx4a65c_iterator_32c93 rfl rfl rfl (by decide +kernel) ⟨Nat.le_of_ble_eq_true rfl, Nat.le_of_ble_eq_true rfl⟩) hP hD hK hS hA hE rfl [1] [0] [] rfl rfl (by decide) (by decide) (by decide) rfl 1 1 rfl rfl rfl rfl hl.1 (Nat.le_of_ble_eq_true rfl) dX9_inBin_6 ⟨Nat.le_of_ble_eq_true rfl, Nat.le_of_ble_eq_true rfl⟩ (fun r_1 u9 H locs hw hP hD hK hS => ?_)
  obtain ⟨it_2, eit_2⟩ : ∃ z : Nat, z = u9 := ⟨_, rfl⟩
  rw [← eit_2] at hw hP hD
  have hw : r_1 = some it_2 := hw
  subst hw
  refine W.eq (g2 := F0 m 9 ls [.ref it_2]) rfl ?_
  have hP : va_P D vwCl [(mm, .inr (11, [.int 0, .ref mk9, .ref mt, .ref mb, .int 0, .int 0, .int 0, .int 0, .null, .int 0, .int 0, .double 0, .int 0, .int 0, .int 0])), (it_2, .inr (0, [.int 0, .int (-1), .int 0, .ref mt])), (mt, .inr (1, [.int 0, .ref e0, .int 0]))] H := hP
  have hD : va_D A [(mm, .inr (11, [.int 0, .ref mk9, .ref mt, .ref mb, .int 0, .int 0, .int 0, .int 0, .null, .int 0, .int 0, .double 0, .int 0, .int 0, .int 0])), (it_2, .inr (0, [.int 0, .int (-1), .int 0, .ref mt])), (mt, .inr (1, [.int 0, .ref e0, .int 0]))] := hD
  have hK : va_K D vwCl [] s := hK
  refine lv_astore_n (lv' := [(2, .ref it_2), (1, .int 0), (0, .ref mm)]) hx hb dX9_inBin_9 rfl hl (by decide) rfl (fun ls hl => ?_)
  refine lv_aload_n hx hb dX9_inBin_10 rfl (lv_at hl 0 rfl) ?_
  obtain ⟨cI9, hat9⟩ := classAt_of (hts (.instantiable RJx35411 4) (by decide +kernel))
  refine kF_i (As := []) (rest := []) (wr := [(mm, .inr (11, [.int 0, .ref mk9, .ref mt, .ref mb, .int 0, .int 0, .int 0, .int 0, .null, .int 0, .int 0, .double 0, .int 0, .int 0, .int 0]))]) ⟨hx, hb, hml, hown, hts⟩ (c_hasNext l D e0 _ it_2 mt) (va_cwF 0 hts gX9_inBin_Jx35411_hasNext_aae02_f42Jx35411 rfl rfl rfl hE.2.2.2.2.2.2.2.2 (by decide +kernel) ⟨Nat.le_of_ble_eq_true rfl, Nat.le_of_ble_eq_true rfl⟩) hP hD hK hS hA hE rfl [1, 2] [0] [] rfl rfl (by decide) (by decide) (by decide) rfl hat9 0 1 rfl rfl rfl rfl hl.1 (Nat.le_of_ble_eq_true rfl) dX9_inBin_11 ⟨Nat.le_of_ble_eq_true rfl, Nat.le_of_ble_eq_true rfl⟩ (fun r_3 u9 H locs hw hP hD hK hS => ?_)
  have hw : r_3 = 0 := hw
  subst hw
  have hP : va_P D vwCl [(mm, .inr (11, [.int 0, .ref mk9, .ref mt, .ref mb, .int 0, .int 0, .int 0, .int 0, .null, .int 0, .int 0, .double 0, .int 0, .int 0, .int 0])), (it_2, .inr (0, [.int 0, .int (-1), .int 0, .ref mt])), (mt, .inr (1, [.int 0, .ref e0, .int 0]))] H := hP
  have hD : va_D A [(mm, .inr (11, [.int 0, .ref mk9, .ref mt, .ref mb, .int 0, .int 0, .int 0, .int 0, .null, .int 0, .int 0, .double 0, .int 0, .int 0, .int 0])), (it_2, .inr (0, [.int 0, .int (-1), .int 0, .ref mt])), (mt, .inr (1, [.int 0, .ref e0, .int 0]))] := hD
  have hK : va_K D vwCl [] s := hK
  refine lv_if_eq (tgt := 47) hx hb dX9_inBin_16 (by decide) (fun _ => ?_) (fun h9 => absurd (by decide) h9)
  refine lv_iload_n hx hb dX9_inBin_47 rfl (lv_at hl 1 rfl) ?_
  exact end_i (v := 0) hx hb hr rfl hlocks hP hD hK hS () rfl [0, 2] [] rfl (by decide) rfl (Nat.le_of_ble_eq_true rfl) (Nat.le_of_ble_eq_true rfl) dX9_inBin_48
set_option maxHeartbeats 4000000 in
set_option maxRecDepth 100000 in
theorem c_m_full (l : Launch) (D : va_G) (e0 sz : Nat) (mm mk9 mt mb : Nat) : Ki (S := Unit) l yX9_full wsX9_full ({ frames := 3, cells := 1, slots := 4, locals := 53 } : Room) [.ref mm] D [(mm, .inr (11, [.int 0, .ref mk9, .ref mt, .ref mb, .int 0, .int 0, .int 0, .int 0, .null, .int 0, .int 0, .double 0, .int 0, .int 0, .int 0])), (mb, .inr (1, [.int 0, .ref e0, .int 0]))] [] e0 sz (fun r _ => r = 0) (fun _ => [(mm, .inr (11, [.int 0, .ref mk9, .ref mt, .ref mb, .int 0, .int 0, .int 0, .int 0, .null, .int 0, .int 0, .double 0, .int 0, .int 0, .int 0])), (mb, .inr (1, [.int 0, .ref e0, .int 0]))]) (fun _ => []) 1 4 := by
  refine Met.ofW (cc := cX9_full) (maxL := 4) (ret := (some .int)) (by decide) rfl ?_
  intro p e s m args below meth c s₁ B hml hv
  obtain ⟨rfl, hsz, hP, hK, hD0, hE⟩ := hv
  have hx := B.exec
  have hb := B.bytes
  have hr := B.returns
  have hts := atoms_spec (ws := wsX9_full) B.pre
  have hown : s.vm.findClass RX9 = some m.cls := findClass_of_methodNamed B.named
  have hlocks := B.notSynchronized
  subst hsz
  have hD := hD0.self (sz := s.heap.size)
  generalize hAe : va_A [(mm, .inr (11, [.int 0, .ref mk9, .ref mt, .ref mb, .int 0, .int 0, .int 0, .int 0, .null, .int 0, .int 0, .double 0, .int 0, .int 0, .int 0])), (mb, .inr (1, [.int 0, .ref e0, .int 0]))] s.heap.size = A at hD hE ⊢
  have hA : ∀ q : Nat, s.heap.size ≤ q → A q := fun q h => by rw [← hAe]; exact Or.inr h
  have hS : va_S A s.heap s.heap [] := va_S.rf
  have hP : va_P D vwCl [(mm, .inr (11, [.int 0, .ref mk9, .ref mt, .ref mb, .int 0, .int 0, .int 0, .int 0, .null, .int 0, .int 0, .double 0, .int 0, .int 0, .int 0])), (mb, .inr (1, [.int 0, .ref e0, .int 0]))] s.heap := hP
  have hl := lv_entry ([.ref mm]) (n := 4) (Nat.le_of_ble_eq_true rfl)
  rw [lg_entry_eq]
  generalize (lg_sl ([.ref mm]) ++ List.replicate (4 - (lg_sl ([.ref mm])).length) Slot.unset).toArray = ls at hl ⊢
  have hl : lv_has ls 4 [(0, .ref mm)] := hl
  refine lv_iconst (v := 0) hx hb dX9_full_0 (by decide) ?_
  refine lv_istore_n (lv' := [(1, .int 0), (0, .ref mm)]) hx hb dX9_full_1 rfl hl (by decide) rfl (fun ls hl => ?_)
  refine lv_aload_n hx hb dX9_full_2 rfl (lv_at hl 1 rfl) ?_
  refine va_get (D := D) (ci := 11) (v := .ref mb) (C := RX9) (T := TX9) (N := 15) hx hb hts (by decide +kernel) hown hK hP 0 rfl rfl 3 (by decide) (hts (.fieldLink RX9 19 "PickCellModel" "boxes" "Ljava/util/ArrayList;") (by decide +kernel)) (fun _ h9 => h9) rfl dX9_full_3 ?_
  refine kV_q (As := []) (rest := []) (wr := [(mm, .inr (11, [.int 0, .ref mk9, .ref mt, .ref mb, .int 0, .int 0, .int 0, .int 0, .null, .int 0, .int 0, .double 0, .int 0, .int 0, .int 0]))]) ⟨hx, hb, hml, hown, hts⟩ (c_iter l D e0 _ mb) (cwV 0 hts gX9_full_Jx4a65c_iterator_32c93 rfl rfl rfl (by decide +kernel) ⟨Nat.le_of_ble_eq_true rfl, Nat.le_of_ble_eq_true rfl⟩) hP hD hK hS hA hE rfl [1] [0] [] rfl rfl (by decide) (by decide) (by decide) rfl 1 1 rfl rfl rfl rfl hl.1 (Nat.le_of_ble_eq_true rfl) dX9_full_6 ⟨Nat.le_of_ble_eq_true rfl, Nat.le_of_ble_eq_true rfl⟩ (fun r_1 u9 H locs hw hP hD hK hS => ?_)
  obtain ⟨it_2, eit_2⟩ : ∃ z : Nat, z = u9 := ⟨_, rfl⟩
  rw [← eit_2] at hw hP hD
  have hw : r_1 = some it_2 := hw
  subst hw
  refine W.eq (g2 := F0 m 9 ls [.ref it_2]) rfl ?_
  have hP : va_P D vwCl [(mm, .inr (11, [.int 0, .ref mk9, .ref mt, .ref mb, .int 0, .int 0, .int 0, .int 0, .null, .int 0, .int 0, .double 0, .int 0, .int 0, .int 0])), (it_2, .inr (0, [.int 0, .int (-1), .int 0, .ref mb])), (mb, .inr (1, [.int 0, .ref e0, .int 0]))] H := hP
  have hD : va_D A [(mm, .inr (11, [.int 0, .ref mk9, .ref mt, .ref mb, .int 0, .int 0, .int 0, .int 0, .null, .int 0, .int 0, .double 0, .int 0, .int 0, .int 0])), (it_2, .inr (0, [.int 0, .int (-1), .int 0, .ref mb])), (mb, .inr (1, [.int 0, .ref e0, .int 0]))] := hD
  have hK : va_K D vwCl [] s := hK
  refine lv_astore_n (lv' := [(2, .ref it_2), (1, .int 0), (0, .ref mm)]) hx hb dX9_full_9 rfl hl (by decide) rfl (fun ls hl => ?_)
  refine lv_aload_n hx hb dX9_full_10 rfl (lv_at hl 0 rfl) ?_
  obtain ⟨cI9, hat9⟩ := classAt_of (hts (.instantiable RJx35411 4) (by decide +kernel))
  refine kF_i (As := []) (rest := []) (wr := [(mm, .inr (11, [.int 0, .ref mk9, .ref mt, .ref mb, .int 0, .int 0, .int 0, .int 0, .null, .int 0, .int 0, .double 0, .int 0, .int 0, .int 0]))]) ⟨hx, hb, hml, hown, hts⟩ (c_hasNext l D e0 _ it_2 mb) (va_cwF 0 hts gX9_full_Jx35411_hasNext_aae02_f42Jx35411 rfl rfl rfl hE.2.2.2.2.2.2.2.2 (by decide +kernel) ⟨Nat.le_of_ble_eq_true rfl, Nat.le_of_ble_eq_true rfl⟩) hP hD hK hS hA hE rfl [1, 2] [0] [] rfl rfl (by decide) (by decide) (by decide) rfl hat9 0 1 rfl rfl rfl rfl hl.1 (Nat.le_of_ble_eq_true rfl) dX9_full_11 ⟨Nat.le_of_ble_eq_true rfl, Nat.le_of_ble_eq_true rfl⟩ (fun r_3 u9 H locs hw hP hD hK hS => ?_)
  have hw : r_3 = 0 := hw
  subst hw
  have hP : va_P D vwCl [(mm, .inr (11, [.int 0, .ref mk9, .ref mt, .ref mb, .int 0, .int 0, .int 0, .int 0, .null, .int 0, .int 0, .double 0, .int 0, .int 0, .int 0])), (it_2, .inr (0, [.int 0, .int (-1), .int 0, .ref mb])), (mb, .inr (1, [.int 0, .ref e0, .int 0]))] H := hP
  have hD : va_D A [(mm, .inr (11, [.int 0, .ref mk9, .ref mt, .ref mb, .int 0, .int 0, .int 0, .int 0, .null, .int 0, .int 0, .double 0, .int 0, .int 0, .int 0])), (it_2, .inr (0, [.int 0, .int (-1), .int 0, .ref mb])), (mb, .inr (1, [.int 0, .ref e0, .int 0]))] := hD
  have hK : va_K D vwCl [] s := hK
  refine lv_if_eq (tgt := 47) hx hb dX9_full_16 (by decide) (fun _ => ?_) (fun h9 => absurd (by decide) h9)
  refine lv_iload_n hx hb dX9_full_47 rfl (lv_at hl 1 rfl) ?_
  exact end_i (v := 0) hx hb hr rfl hlocks hP hD hK hS () rfl [0, 2] [] rfl (by decide) rfl (Nat.le_of_ble_eq_true rfl) (Nat.le_of_ble_eq_true rfl) dX9_full_48
set_option maxHeartbeats 4000000 in
set_option maxRecDepth 100000 in
theorem c_m_highest (l : Launch) (D : va_G) (e0 sz : Nat) (mm mk9 mt mb : Nat) : Ki (S := Unit) l yX9_highest wsX9_highest ({ frames := 3, cells := 1, slots := 4, locals := 53 } : Room) [.ref mm] D [(mm, .inr (11, [.int 0, .ref mk9, .ref mt, .ref mb, .int 0, .int 0, .int 0, .int 0, .null, .int 0, .int 0, .double 0, .int 0, .int 0, .int 0])), (mt, .inr (1, [.int 0, .ref e0, .int 0]))] [] e0 sz (fun r _ => r = 0) (fun _ => [(mm, .inr (11, [.int 0, .ref mk9, .ref mt, .ref mb, .int 0, .int 0, .int 0, .int 0, .null, .int 0, .int 0, .double 0, .int 0, .int 0, .int 0])), (mt, .inr (1, [.int 0, .ref e0, .int 0]))]) (fun _ => []) 1 4 := by
  refine Met.ofW (cc := cX9_highest) (maxL := 4) (ret := (some .int)) (by decide) rfl ?_
  intro p e s m args below meth c s₁ B hml hv
  obtain ⟨rfl, hsz, hP, hK, hD0, hE⟩ := hv
  have hx := B.exec
  have hb := B.bytes
  have hr := B.returns
  have hts := atoms_spec (ws := wsX9_highest) B.pre
  have hown : s.vm.findClass RX9 = some m.cls := findClass_of_methodNamed B.named
  have hlocks := B.notSynchronized
  subst hsz
  have hD := hD0.self (sz := s.heap.size)
  generalize hAe : va_A [(mm, .inr (11, [.int 0, .ref mk9, .ref mt, .ref mb, .int 0, .int 0, .int 0, .int 0, .null, .int 0, .int 0, .double 0, .int 0, .int 0, .int 0])), (mt, .inr (1, [.int 0, .ref e0, .int 0]))] s.heap.size = A at hD hE ⊢
  have hA : ∀ q : Nat, s.heap.size ≤ q → A q := fun q h => by rw [← hAe]; exact Or.inr h
  have hS : va_S A s.heap s.heap [] := va_S.rf
  have hP : va_P D vwCl [(mm, .inr (11, [.int 0, .ref mk9, .ref mt, .ref mb, .int 0, .int 0, .int 0, .int 0, .null, .int 0, .int 0, .double 0, .int 0, .int 0, .int 0])), (mt, .inr (1, [.int 0, .ref e0, .int 0]))] s.heap := hP
  have hl := lv_entry ([.ref mm]) (n := 4) (Nat.le_of_ble_eq_true rfl)
  rw [lg_entry_eq]
  generalize (lg_sl ([.ref mm]) ++ List.replicate (4 - (lg_sl ([.ref mm])).length) Slot.unset).toArray = ls at hl ⊢
  have hl : lv_has ls 4 [(0, .ref mm)] := hl
  refine lv_iconst (v := 0) hx hb dX9_highest_0 (by decide) ?_
  refine lv_istore_n (lv' := [(1, .int 0), (0, .ref mm)]) hx hb dX9_highest_1 rfl hl (by decide) rfl (fun ls hl => ?_)
  refine lv_aload_n hx hb dX9_highest_2 rfl (lv_at hl 1 rfl) ?_
  refine va_get (D := D) (ci := 11) (v := .ref mt) (C := RX9) (T := TX9) (N := 15) hx hb hts (by decide +kernel) hown hK hP 0 rfl rfl 2 (by decide) (hts (.fieldLink RX9 16 "PickCellModel" "things" "Ljava/util/ArrayList;") (by decide +kernel)) (fun _ h9 => h9) rfl dX9_highest_3 ?_
  refine kV_q (As := []) (rest := []) (wr := [(mm, .inr (11, [.int 0, .ref mk9, .ref mt, .ref mb, .int 0, .int 0, .int 0, .int 0, .null, .int 0, .int 0, .double 0, .int 0, .int 0, .int 0]))]) ⟨hx, hb, hml, hown, hts⟩ (c_iter l D e0 _ mt) (cwV 0 hts gX9_highest_Jx4a65c_iterator_32c93 rfl rfl rfl (by decide +kernel) ⟨Nat.le_of_ble_eq_true rfl, Nat.le_of_ble_eq_true rfl⟩) hP hD hK hS hA hE rfl [1] [0] [] rfl rfl (by decide) (by decide) (by decide) rfl 1 1 rfl rfl rfl rfl hl.1 (Nat.le_of_ble_eq_true rfl) dX9_highest_6 ⟨Nat.le_of_ble_eq_true rfl, Nat.le_of_ble_eq_true rfl⟩ (fun r_1 u9 H locs hw hP hD hK hS => ?_)
  obtain ⟨it_2, eit_2⟩ : ∃ z : Nat, z = u9 := ⟨_, rfl⟩
  rw [← eit_2] at hw hP hD
  have hw : r_1 = some it_2 := hw
  subst hw
  refine W.eq (g2 := F0 m 9 ls [.ref it_2]) rfl ?_
  have hP : va_P D vwCl [(mm, .inr (11, [.int 0, .ref mk9, .ref mt, .ref mb, .int 0, .int 0, .int 0, .int 0, .null, .int 0, .int 0, .double 0, .int 0, .int 0, .int 0])), (it_2, .inr (0, [.int 0, .int (-1), .int 0, .ref mt])), (mt, .inr (1, [.int 0, .ref e0, .int 0]))] H := hP
  have hD : va_D A [(mm, .inr (11, [.int 0, .ref mk9, .ref mt, .ref mb, .int 0, .int 0, .int 0, .int 0, .null, .int 0, .int 0, .double 0, .int 0, .int 0, .int 0])), (it_2, .inr (0, [.int 0, .int (-1), .int 0, .ref mt])), (mt, .inr (1, [.int 0, .ref e0, .int 0]))] := hD
  have hK : va_K D vwCl [] s := hK
  refine lv_astore_n (lv' := [(2, .ref it_2), (1, .int 0), (0, .ref mm)]) hx hb dX9_highest_9 rfl hl (by decide) rfl (fun ls hl => ?_)
  refine lv_aload_n hx hb dX9_highest_10 rfl (lv_at hl 0 rfl) ?_
  obtain ⟨cI9, hat9⟩ := classAt_of (hts (.instantiable RJx35411 4) (by decide +kernel))
  refine kF_i (As := []) (rest := []) (wr := [(mm, .inr (11, [.int 0, .ref mk9, .ref mt, .ref mb, .int 0, .int 0, .int 0, .int 0, .null, .int 0, .int 0, .double 0, .int 0, .int 0, .int 0]))]) ⟨hx, hb, hml, hown, hts⟩ (c_hasNext l D e0 _ it_2 mt) (va_cwF 0 hts gX9_highest_Jx35411_hasNext_aae02_f42Jx35411 rfl rfl rfl hE.2.2.2.2.2.2.2.2 (by decide +kernel) ⟨Nat.le_of_ble_eq_true rfl, Nat.le_of_ble_eq_true rfl⟩) hP hD hK hS hA hE rfl [1, 2] [0] [] rfl rfl (by decide) (by decide) (by decide) rfl hat9 0 1 rfl rfl rfl rfl hl.1 (Nat.le_of_ble_eq_true rfl) dX9_highest_11 ⟨Nat.le_of_ble_eq_true rfl, Nat.le_of_ble_eq_true rfl⟩ (fun r_3 u9 H locs hw hP hD hK hS => ?_)
  have hw : r_3 = 0 := hw
  subst hw
  have hP : va_P D vwCl [(mm, .inr (11, [.int 0, .ref mk9, .ref mt, .ref mb, .int 0, .int 0, .int 0, .int 0, .null, .int 0, .int 0, .double 0, .int 0, .int 0, .int 0])), (it_2, .inr (0, [.int 0, .int (-1), .int 0, .ref mt])), (mt, .inr (1, [.int 0, .ref e0, .int 0]))] H := hP
  have hD : va_D A [(mm, .inr (11, [.int 0, .ref mk9, .ref mt, .ref mb, .int 0, .int 0, .int 0, .int 0, .null, .int 0, .int 0, .double 0, .int 0, .int 0, .int 0])), (it_2, .inr (0, [.int 0, .int (-1), .int 0, .ref mt])), (mt, .inr (1, [.int 0, .ref e0, .int 0]))] := hD
  have hK : va_K D vwCl [] s := hK
  refine lv_if_eq (tgt := 48) hx hb dX9_highest_16 (by decide) (fun _ => ?_) (fun h9 => absurd (by decide) h9)
  refine lv_iload_n hx hb dX9_highest_48 rfl (lv_at hl 1 rfl) ?_
  exact end_i (v := 0) hx hb hr rfl hlocks hP hD hK hS () rfl [0, 2] [] rfl (by decide) rfl (Nat.le_of_ble_eq_true rfl) (Nat.le_of_ble_eq_true rfl) dX9_highest_49
set_option maxHeartbeats 4000000 in
set_option maxRecDepth 100000 in
/-- the reference: manyNow -/
theorem c_m_manyNow (l : Launch) (D : va_G) (e0 sz : Nat) (mm mk9 mt mb : Nat) (p0 : Int32) (hv : 0 ≤ p0 ∧ p0 ≤ 12) : Ki (S := Unit) l yX9_manyNow wsX9_manyNow ({ frames := 4, cells := 4, slots := 25, locals := 76 } : Room) [.ref mm, .int p0] D [(mm, .inr (11, [.int 0, .ref mk9, .ref mt, .ref mb, .int 0, .int 0, .int 0, .int 0, .null, .int 0, .int 0, .double 0, .int 0, .int 0, .int 0])), (mk9, .inr (1, [.int 0, .ref e0, .int 0])), (mt, .inr (1, [.int 0, .ref e0, .int 0])), (mb, .inr (1, [.int 0, .ref e0, .int 0]))] [] e0 sz (fun r _ => r = manyF p0) (fun _ => [(mm, .inr (11, [.int 0, .ref mk9, .ref mt, .ref mb, .int 0, .int 0, .int 0, .int 0, .null, .int 0, .int 0, .double 0, .int 0, .int 0, .int 0])), (mk9, .inr (1, [.int 0, .ref e0, .int 0])), (mt, .inr (1, [.int 0, .ref e0, .int 0])), (mb, .inr (1, [.int 0, .ref e0, .int 0]))]) (fun _ => []) 4 25 := by
  refine Met.ofW (cc := cX9_manyNow) (maxL := 3) (ret := (some .int)) (by decide) rfl ?_
  intro p e s m args below meth c s₁ B hml hv
  obtain ⟨rfl, hsz, hP, hK, hD0, hE⟩ := hv
  have hx := B.exec
  have hb := B.bytes
  have hr := B.returns
  have hts := atoms_spec (ws := wsX9_manyNow) B.pre
  have hown : s.vm.findClass RX9 = some m.cls := findClass_of_methodNamed B.named
  have hlocks := B.notSynchronized
  subst hsz
  have hD := hD0.self (sz := s.heap.size)
  generalize hAe : va_A [(mm, .inr (11, [.int 0, .ref mk9, .ref mt, .ref mb, .int 0, .int 0, .int 0, .int 0, .null, .int 0, .int 0, .double 0, .int 0, .int 0, .int 0])), (mk9, .inr (1, [.int 0, .ref e0, .int 0])), (mt, .inr (1, [.int 0, .ref e0, .int 0])), (mb, .inr (1, [.int 0, .ref e0, .int 0]))] s.heap.size = A at hD hE ⊢
  have hA : ∀ q : Nat, s.heap.size ≤ q → A q := fun q h => by rw [← hAe]; exact Or.inr h
  have hS : va_S A s.heap s.heap [] := va_S.rf
  have hP : va_P D vwCl [(mm, .inr (11, [.int 0, .ref mk9, .ref mt, .ref mb, .int 0, .int 0, .int 0, .int 0, .null, .int 0, .int 0, .double 0, .int 0, .int 0, .int 0])), (mk9, .inr (1, [.int 0, .ref e0, .int 0])), (mt, .inr (1, [.int 0, .ref e0, .int 0])), (mb, .inr (1, [.int 0, .ref e0, .int 0]))] s.heap := hP
  have hl := lv_entry ([.ref mm, .int p0]) (n := 3) (Nat.le_of_ble_eq_true rfl)
  rw [lg_entry_eq]
  generalize (lg_sl ([.ref mm, .int p0]) ++ List.replicate (3 - (lg_sl ([.ref mm, .int p0])).length) Slot.unset).toArray = ls at hl ⊢
  have hl : lv_has ls 3 [(0, .ref mm), (1, .int p0)] := hl
  refine lv_bipush (v := 13) hx hb dX9_manyNow_0 (by decide) ?_
  refine va_newa (atype := .int) (ty := .int) (N' := 13) (a0 := (13, .inl (fun _ => 0))) hx hb (hts (.arrayClass .int) (by decide +kernel)) rfl hK hP hD hS hA (fun cA => rfl) (by decide) (by decide) (Nat.le_of_ble_eq_true rfl) (Nat.le_of_ble_eq_true rfl) (Nat.le_of_ble_eq_true rfl) dX9_manyNow_2 (fun q_1 cq_1 H hK hP hD hS => ?_)
  have hP : va_P D vwCl [(mm, .inr (11, [.int 0, .ref mk9, .ref mt, .ref mb, .int 0, .int 0, .int 0, .int 0, .null, .int 0, .int 0, .double 0, .int 0, .int 0, .int 0])), (mk9, .inr (1, [.int 0, .ref e0, .int 0])), (mt, .inr (1, [.int 0, .ref e0, .int 0])), (mb, .inr (1, [.int 0, .ref e0, .int 0])), (q_1, .inl (cq_1, 13, .inl (fun _ => 0)))] H := hP
  have hD : va_D A [(mm, .inr (11, [.int 0, .ref mk9, .ref mt, .ref mb, .int 0, .int 0, .int 0, .int 0, .null, .int 0, .int 0, .double 0, .int 0, .int 0, .int 0])), (mk9, .inr (1, [.int 0, .ref e0, .int 0])), (mt, .inr (1, [.int 0, .ref e0, .int 0])), (mb, .inr (1, [.int 0, .ref e0, .int 0])), (q_1, .inl (cq_1, 13, .inl (fun _ => 0)))] := hD
  have hK : va_K D vwCl [(cq_1, .int)] s := hK
  refine lv_dup hx hb dX9_manyNow_4 rfl ?_
  refine lv_iconst (v := 0) hx hb dX9_manyNow_5 (by decide) ?_
  refine lv_aload_n hx hb dX9_manyNow_6 rfl (lv_at hl 0 rfl) ?_
  refine va_get (D := D) (ci := 11) (v := .ref mk9) (C := RX9) (T := TX9) (N := 15) hx hb hts (by decide +kernel) hown hK hP 0 rfl rfl 1 (by decide) (hts (.fieldLink RX9 10 "PickCellModel" "kinds" "Ljava/util/ArrayList;") (by decide +kernel)) (fun _ h9 => h9) rfl dX9_manyNow_7 ?_
  refine kV_i (As := []) (rest := [.int 0, .ref q_1, .ref q_1]) (wr := [(mm, .inr (11, [.int 0, .ref mk9, .ref mt, .ref mb, .int 0, .int 0, .int 0, .int 0, .null, .int 0, .int 0, .double 0, .int 0, .int 0, .int 0])), (mt, .inr (1, [.int 0, .ref e0, .int 0])), (mb, .inr (1, [.int 0, .ref e0, .int 0])), (q_1, .inl (cq_1, 13, .inl (fun _ => 0)))]) ⟨hx, hb, hml, hown, hts⟩ (c_size l D e0 _ mk9 0 0 (.ref e0)) (cwV 0 hts gX9_manyNow_Jx4a65c_size_8abf5 rfl rfl rfl (by decide +kernel) ⟨Nat.le_of_ble_eq_true rfl, Nat.le_of_ble_eq_true rfl⟩) hP hD hK hS hA hE rfl [1] [0, 2, 3, 4] [] rfl rfl (by decide) (by decide) (by decide) rfl 1 1 rfl rfl rfl rfl hl.1 (Nat.le_of_ble_eq_true rfl) dX9_manyNow_10 ⟨Nat.le_of_ble_eq_true rfl, Nat.le_of_ble_eq_true rfl⟩ (fun r_2 u9 H locs hw hP hD hK hS => ?_)
  have hw : r_2 = 0 := hw
  subst hw
  have hP : va_P D vwCl [(mm, .inr (11, [.int 0, .ref mk9, .ref mt, .ref mb, .int 0, .int 0, .int 0, .int 0, .null, .int 0, .int 0, .double 0, .int 0, .int 0, .int 0])), (mt, .inr (1, [.int 0, .ref e0, .int 0])), (mb, .inr (1, [.int 0, .ref e0, .int 0])), (q_1, .inl (cq_1, 13, .inl (fun _ => 0))), (mk9, .inr (1, [.int 0, .ref e0, .int 0]))] H := hP
  have hD : va_D A [(mm, .inr (11, [.int 0, .ref mk9, .ref mt, .ref mb, .int 0, .int 0, .int 0, .int 0, .null, .int 0, .int 0, .double 0, .int 0, .int 0, .int 0])), (mt, .inr (1, [.int 0, .ref e0, .int 0])), (mb, .inr (1, [.int 0, .ref e0, .int 0])), (q_1, .inl (cq_1, 13, .inl (fun _ => 0))), (mk9, .inr (1, [.int 0, .ref e0, .int 0]))] := hD
  have hK : va_K D vwCl [(cq_1, .int)] s := hK
  refine va_iast hx hb hK hP hD hS 3 0 rfl rfl (by unfold vp_in; decide) dX9_manyNow_13 (fun H locs hP hD hS => ?_)
  have hP : va_P D vwCl [(mm, .inr (11, [.int 0, .ref mk9, .ref mt, .ref mb, .int 0, .int 0, .int 0, .int 0, .null, .int 0, .int 0, .double 0, .int 0, .int 0, .int 0])), (mt, .inr (1, [.int 0, .ref e0, .int 0])), (mb, .inr (1, [.int 0, .ref e0, .int 0])), (q_1, .inl (cq_1, 13, .inl (upd (fun _ => 0) (0 : Int32).toNatClampNeg 0))), (mk9, .inr (1, [.int 0, .ref e0, .int 0]))] H := hP
  have hD : va_D A [(mm, .inr (11, [.int 0, .ref mk9, .ref mt, .ref mb, .int 0, .int 0, .int 0, .int 0, .null, .int 0, .int 0, .double 0, .int 0, .int 0, .int 0])), (mt, .inr (1, [.int 0, .ref e0, .int 0])), (mb, .inr (1, [.int 0, .ref e0, .int 0])), (q_1, .inl (cq_1, 13, .inl (upd (fun _ => 0) (0 : Int32).toNatClampNeg 0))), (mk9, .inr (1, [.int 0, .ref e0, .int 0]))] := hD
  refine lv_dup hx hb dX9_manyNow_14 rfl ?_
  refine lv_iconst (v := 1) hx hb dX9_manyNow_15 (by decide) ?_
  refine lv_aload_n hx hb dX9_manyNow_16 rfl (lv_at hl 0 rfl) ?_
  refine va_get (D := D) (ci := 11) (v := .ref mt) (C := RX9) (T := TX9) (N := 15) hx hb hts (by decide +kernel) hown hK hP 0 rfl rfl 2 (by decide) (hts (.fieldLink RX9 16 "PickCellModel" "things" "Ljava/util/ArrayList;") (by decide +kernel)) (fun _ h9 => h9) rfl dX9_manyNow_17 ?_
  refine kV_i (As := []) (rest := [.int 1, .ref q_1, .ref q_1]) (wr := [(mm, .inr (11, [.int 0, .ref mk9, .ref mt, .ref mb, .int 0, .int 0, .int 0, .int 0, .null, .int 0, .int 0, .double 0, .int 0, .int 0, .int 0])), (mb, .inr (1, [.int 0, .ref e0, .int 0])), (q_1, .inl (cq_1, 13, .inl (upd (fun _ => 0) (0 : Int32).toNatClampNeg 0))), (mk9, .inr (1, [.int 0, .ref e0, .int 0]))]) ⟨hx, hb, hml, hown, hts⟩ (c_size l D e0 _ mt 0 0 (.ref e0)) (cwV 0 hts gX9_manyNow_Jx4a65c_size_8abf5 rfl rfl rfl (by decide +kernel) ⟨Nat.le_of_ble_eq_true rfl, Nat.le_of_ble_eq_true rfl⟩) hP hD hK hS hA hE rfl [1] [0, 2, 3, 4] [] rfl rfl (by decide) (by decide) (by decide) rfl 1 1 rfl rfl rfl rfl hl.1 (Nat.le_of_ble_eq_true rfl) dX9_manyNow_20 ⟨Nat.le_of_ble_eq_true rfl, Nat.le_of_ble_eq_true rfl⟩ (fun r_3 u9 H locs hw hP hD hK hS => ?_)
  have hw : r_3 = 0 := hw
  subst hw
  have hP : va_P D vwCl [(mm, .inr (11, [.int 0, .ref mk9, .ref mt, .ref mb, .int 0, .int 0, .int 0, .int 0, .null, .int 0, .int 0, .double 0, .int 0, .int 0, .int 0])), (mb, .inr (1, [.int 0, .ref e0, .int 0])), (q_1, .inl (cq_1, 13, .inl (upd (fun _ => 0) (0 : Int32).toNatClampNeg 0))), (mk9, .inr (1, [.int 0, .ref e0, .int 0])), (mt, .inr (1, [.int 0, .ref e0, .int 0]))] H := hP
  have hD : va_D A [(mm, .inr (11, [.int 0, .ref mk9, .ref mt, .ref mb, .int 0, .int 0, .int 0, .int 0, .null, .int 0, .int 0, .double 0, .int 0, .int 0, .int 0])), (mb, .inr (1, [.int 0, .ref e0, .int 0])), (q_1, .inl (cq_1, 13, .inl (upd (fun _ => 0) (0 : Int32).toNatClampNeg 0))), (mk9, .inr (1, [.int 0, .ref e0, .int 0])), (mt, .inr (1, [.int 0, .ref e0, .int 0]))] := hD
  have hK : va_K D vwCl [(cq_1, .int)] s := hK
  refine va_iast hx hb hK hP hD hS 2 0 rfl rfl (by unfold vp_in; decide) dX9_manyNow_23 (fun H locs hP hD hS => ?_)
  have hP : va_P D vwCl [(mm, .inr (11, [.int 0, .ref mk9, .ref mt, .ref mb, .int 0, .int 0, .int 0, .int 0, .null, .int 0, .int 0, .double 0, .int 0, .int 0, .int 0])), (mb, .inr (1, [.int 0, .ref e0, .int 0])), (q_1, .inl (cq_1, 13, .inl (upd (upd (fun _ => 0) (0 : Int32).toNatClampNeg 0) (1 : Int32).toNatClampNeg 0))), (mk9, .inr (1, [.int 0, .ref e0, .int 0])), (mt, .inr (1, [.int 0, .ref e0, .int 0]))] H := hP
  have hD : va_D A [(mm, .inr (11, [.int 0, .ref mk9, .ref mt, .ref mb, .int 0, .int 0, .int 0, .int 0, .null, .int 0, .int 0, .double 0, .int 0, .int 0, .int 0])), (mb, .inr (1, [.int 0, .ref e0, .int 0])), (q_1, .inl (cq_1, 13, .inl (upd (upd (fun _ => 0) (0 : Int32).toNatClampNeg 0) (1 : Int32).toNatClampNeg 0))), (mk9, .inr (1, [.int 0, .ref e0, .int 0])), (mt, .inr (1, [.int 0, .ref e0, .int 0]))] := hD
  refine lv_dup hx hb dX9_manyNow_24 rfl ?_
  refine lv_iconst (v := 2) hx hb dX9_manyNow_25 (by decide) ?_
  refine lv_aload_n hx hb dX9_manyNow_26 rfl (lv_at hl 0 rfl) ?_
  refine kV_i (As := []) (rest := [.int 2, .ref q_1, .ref q_1]) (wr := [(mb, .inr (1, [.int 0, .ref e0, .int 0])), (q_1, .inl (cq_1, 13, .inl (upd (upd (fun _ => 0) (0 : Int32).toNatClampNeg 0) (1 : Int32).toNatClampNeg 0))), (mk9, .inr (1, [.int 0, .ref e0, .int 0]))]) ⟨hx, hb, hml, hown, hts⟩ (c_m_inBin l D e0 _ mm mk9 mt mb) (cwV 0 hts gX9_manyNow_X9_inBin rfl rfl rfl (by decide +kernel) ⟨Nat.le_of_ble_eq_true rfl, Nat.le_of_ble_eq_true rfl⟩) hP hD hK hS hA hE rfl [0, 4] [1, 2, 3] [] rfl rfl (by decide) (by decide) (by decide) rfl 11 0 rfl rfl rfl rfl hl.1 (Nat.le_of_ble_eq_true rfl) dX9_manyNow_27 ⟨Nat.le_of_ble_eq_true rfl, Nat.le_of_ble_eq_true rfl⟩ (fun r_4 u9 H locs hw hP hD hK hS => ?_)
  have hw : r_4 = 0 := hw
  subst hw
  have hP : va_P D vwCl [(mb, .inr (1, [.int 0, .ref e0, .int 0])), (q_1, .inl (cq_1, 13, .inl (upd (upd (fun _ => 0) (0 : Int32).toNatClampNeg 0) (1 : Int32).toNatClampNeg 0))), (mk9, .inr (1, [.int 0, .ref e0, .int 0])), (mm, .inr (11, [.int 0, .ref mk9, .ref mt, .ref mb, .int 0, .int 0, .int 0, .int 0, .null, .int 0, .int 0, .double 0, .int 0, .int 0, .int 0])), (mt, .inr (1, [.int 0, .ref e0, .int 0]))] H := hP
  have hD : va_D A [(mb, .inr (1, [.int 0, .ref e0, .int 0])), (q_1, .inl (cq_1, 13, .inl (upd (upd (fun _ => 0) (0 : Int32).toNatClampNeg 0) (1 : Int32).toNatClampNeg 0))), (mk9, .inr (1, [.int 0, .ref e0, .int 0])), (mm, .inr (11, [.int 0, .ref mk9, .ref mt, .ref mb, .int 0, .int 0, .int 0, .int 0, .null, .int 0, .int 0, .double 0, .int 0, .int 0, .int 0])), (mt, .inr (1, [.int 0, .ref e0, .int 0]))] := hD
  have hK : va_K D vwCl [(cq_1, .int)] s := hK
  refine va_iast hx hb hK hP hD hS 1 0 rfl rfl (by unfold vp_in; decide) dX9_manyNow_30 (fun H locs hP hD hS => ?_)
  have hP : va_P D vwCl [(mb, .inr (1, [.int 0, .ref e0, .int 0])), (q_1, .inl (cq_1, 13, .inl (upd (upd (upd (fun _ => 0) (0 : Int32).toNatClampNeg 0) (1 : Int32).toNatClampNeg 0) (2 : Int32).toNatClampNeg 0))), (mk9, .inr (1, [.int 0, .ref e0, .int 0])), (mm, .inr (11, [.int 0, .ref mk9, .ref mt, .ref mb, .int 0, .int 0, .int 0, .int 0, .null, .int 0, .int 0, .double 0, .int 0, .int 0, .int 0])), (mt, .inr (1, [.int 0, .ref e0, .int 0]))] H := hP
  have hD : va_D A [(mb, .inr (1, [.int 0, .ref e0, .int 0])), (q_1, .inl (cq_1, 13, .inl (upd (upd (upd (fun _ => 0) (0 : Int32).toNatClampNeg 0) (1 : Int32).toNatClampNeg 0) (2 : Int32).toNatClampNeg 0))), (mk9, .inr (1, [.int 0, .ref e0, .int 0])), (mm, .inr (11, [.int 0, .ref mk9, .ref mt, .ref mb, .int 0, .int 0, .int 0, .int 0, .null, .int 0, .int 0, .double 0, .int 0, .int 0, .int 0])), (mt, .inr (1, [.int 0, .ref e0, .int 0]))] := hD
  refine lv_dup hx hb dX9_manyNow_31 rfl ?_
  refine lv_iconst (v := 3) hx hb dX9_manyNow_32 (by decide) ?_
  refine lv_aload_n hx hb dX9_manyNow_33 rfl (lv_at hl 0 rfl) ?_
  refine va_get (D := D) (ci := 11) (v := .ref mb) (C := RX9) (T := TX9) (N := 15) hx hb hts (by decide +kernel) hown hK hP 3 rfl rfl 3 (by decide) (hts (.fieldLink RX9 19 "PickCellModel" "boxes" "Ljava/util/ArrayList;") (by decide +kernel)) (fun _ h9 => h9) rfl dX9_manyNow_34 ?_
  refine kV_i (As := []) (rest := [.int 3, .ref q_1, .ref q_1]) (wr := [(q_1, .inl (cq_1, 13, .inl (upd (upd (upd (fun _ => 0) (0 : Int32).toNatClampNeg 0) (1 : Int32).toNatClampNeg 0) (2 : Int32).toNatClampNeg 0))), (mk9, .inr (1, [.int 0, .ref e0, .int 0])), (mm, .inr (11, [.int 0, .ref mk9, .ref mt, .ref mb, .int 0, .int 0, .int 0, .int 0, .null, .int 0, .int 0, .double 0, .int 0, .int 0, .int 0])), (mt, .inr (1, [.int 0, .ref e0, .int 0]))]) ⟨hx, hb, hml, hown, hts⟩ (c_size l D e0 _ mb 0 0 (.ref e0)) (cwV 0 hts gX9_manyNow_Jx4a65c_size_8abf5 rfl rfl rfl (by decide +kernel) ⟨Nat.le_of_ble_eq_true rfl, Nat.le_of_ble_eq_true rfl⟩) hP hD hK hS hA hE rfl [0] [1, 2, 3, 4] [] rfl rfl (by decide) (by decide) (by decide) rfl 1 0 rfl rfl rfl rfl hl.1 (Nat.le_of_ble_eq_true rfl) dX9_manyNow_37 ⟨Nat.le_of_ble_eq_true rfl, Nat.le_of_ble_eq_true rfl⟩ (fun r_5 u9 H locs hw hP hD hK hS => ?_)
  have hw : r_5 = 0 := hw
  subst hw
  have hP : va_P D vwCl [(q_1, .inl (cq_1, 13, .inl (upd (upd (upd (fun _ => 0) (0 : Int32).toNatClampNeg 0) (1 : Int32).toNatClampNeg 0) (2 : Int32).toNatClampNeg 0))), (mk9, .inr (1, [.int 0, .ref e0, .int 0])), (mm, .inr (11, [.int 0, .ref mk9, .ref mt, .ref mb, .int 0, .int 0, .int 0, .int 0, .null, .int 0, .int 0, .double 0, .int 0, .int 0, .int 0])), (mt, .inr (1, [.int 0, .ref e0, .int 0])), (mb, .inr (1, [.int 0, .ref e0, .int 0]))] H := hP
  have hD : va_D A [(q_1, .inl (cq_1, 13, .inl (upd (upd (upd (fun _ => 0) (0 : Int32).toNatClampNeg 0) (1 : Int32).toNatClampNeg 0) (2 : Int32).toNatClampNeg 0))), (mk9, .inr (1, [.int 0, .ref e0, .int 0])), (mm, .inr (11, [.int 0, .ref mk9, .ref mt, .ref mb, .int 0, .int 0, .int 0, .int 0, .null, .int 0, .int 0, .double 0, .int 0, .int 0, .int 0])), (mt, .inr (1, [.int 0, .ref e0, .int 0])), (mb, .inr (1, [.int 0, .ref e0, .int 0]))] := hD
  have hK : va_K D vwCl [(cq_1, .int)] s := hK
  refine va_iast hx hb hK hP hD hS 0 0 rfl rfl (by unfold vp_in; decide) dX9_manyNow_40 (fun H locs hP hD hS => ?_)
  have hP : va_P D vwCl [(q_1, .inl (cq_1, 13, .inl (upd (upd (upd (upd (fun _ => 0) (0 : Int32).toNatClampNeg 0) (1 : Int32).toNatClampNeg 0) (2 : Int32).toNatClampNeg 0) (3 : Int32).toNatClampNeg 0))), (mk9, .inr (1, [.int 0, .ref e0, .int 0])), (mm, .inr (11, [.int 0, .ref mk9, .ref mt, .ref mb, .int 0, .int 0, .int 0, .int 0, .null, .int 0, .int 0, .double 0, .int 0, .int 0, .int 0])), (mt, .inr (1, [.int 0, .ref e0, .int 0])), (mb, .inr (1, [.int 0, .ref e0, .int 0]))] H := hP
  have hD : va_D A [(q_1, .inl (cq_1, 13, .inl (upd (upd (upd (upd (fun _ => 0) (0 : Int32).toNatClampNeg 0) (1 : Int32).toNatClampNeg 0) (2 : Int32).toNatClampNeg 0) (3 : Int32).toNatClampNeg 0))), (mk9, .inr (1, [.int 0, .ref e0, .int 0])), (mm, .inr (11, [.int 0, .ref mk9, .ref mt, .ref mb, .int 0, .int 0, .int 0, .int 0, .null, .int 0, .int 0, .double 0, .int 0, .int 0, .int 0])), (mt, .inr (1, [.int 0, .ref e0, .int 0])), (mb, .inr (1, [.int 0, .ref e0, .int 0]))] := hD
  refine lv_dup hx hb dX9_manyNow_41 rfl ?_
  refine lv_iconst (v := 4) hx hb dX9_manyNow_42 (by decide) ?_
  refine lv_aload_n hx hb dX9_manyNow_43 rfl (lv_at hl 0 rfl) ?_
  refine kV_i (As := []) (rest := [.int 4, .ref q_1, .ref q_1]) (wr := [(q_1, .inl (cq_1, 13, .inl (upd (upd (upd (upd (fun _ => 0) (0 : Int32).toNatClampNeg 0) (1 : Int32).toNatClampNeg 0) (2 : Int32).toNatClampNeg 0) (3 : Int32).toNatClampNeg 0))), (mk9, .inr (1, [.int 0, .ref e0, .int 0])), (mt, .inr (1, [.int 0, .ref e0, .int 0]))]) ⟨hx, hb, hml, hown, hts⟩ (c_m_full l D e0 _ mm mk9 mt mb) (cwV 0 hts gX9_manyNow_X9_full rfl rfl rfl (by decide +kernel) ⟨Nat.le_of_ble_eq_true rfl, Nat.le_of_ble_eq_true rfl⟩) hP hD hK hS hA hE rfl [2, 4] [0, 1, 3] [] rfl rfl (by decide) (by decide) (by decide) rfl 11 2 rfl rfl rfl rfl hl.1 (Nat.le_of_ble_eq_true rfl) dX9_manyNow_44 ⟨Nat.le_of_ble_eq_true rfl, Nat.le_of_ble_eq_true rfl⟩ (fun r_6 u9 H locs hw hP hD hK hS => ?_)
  have hw : r_6 = 0 := hw
  subst hw
  have hP : va_P D vwCl [(q_1, .inl (cq_1, 13, .inl (upd (upd (upd (upd (fun _ => 0) (0 : Int32).toNatClampNeg 0) (1 : Int32).toNatClampNeg 0) (2 : Int32).toNatClampNeg 0) (3 : Int32).toNatClampNeg 0))), (mk9, .inr (1, [.int 0, .ref e0, .int 0])), (mt, .inr (1, [.int 0, .ref e0, .int 0])), (mm, .inr (11, [.int 0, .ref mk9, .ref mt, .ref mb, .int 0, .int 0, .int 0, .int 0, .null, .int 0, .int 0, .double 0, .int 0, .int 0, .int 0])), (mb, .inr (1, [.int 0, .ref e0, .int 0]))] H := hP
  have hD : va_D A [(q_1, .inl (cq_1, 13, .inl (upd (upd (upd (upd (fun _ => 0) (0 : Int32).toNatClampNeg 0) (1 : Int32).toNatClampNeg 0) (2 : Int32).toNatClampNeg 0) (3 : Int32).toNatClampNeg 0))), (mk9, .inr (1, [.int 0, .ref e0, .int 0])), (mt, .inr (1, [.int 0, .ref e0, .int 0])), (mm, .inr (11, [.int 0, .ref mk9, .ref mt, .ref mb, .int 0, .int 0, .int 0, .int 0, .null, .int 0, .int 0, .double 0, .int 0, .int 0, .int 0])), (mb, .inr (1, [.int 0, .ref e0, .int 0]))] := hD
  have hK : va_K D vwCl [(cq_1, .int)] s := hK
  refine va_iast hx hb hK hP hD hS 0 0 rfl rfl (by unfold vp_in; decide) dX9_manyNow_47 (fun H locs hP hD hS => ?_)
  have hP : va_P D vwCl [(q_1, .inl (cq_1, 13, .inl (upd (upd (upd (upd (upd (fun _ => 0) (0 : Int32).toNatClampNeg 0) (1 : Int32).toNatClampNeg 0) (2 : Int32).toNatClampNeg 0) (3 : Int32).toNatClampNeg 0) (4 : Int32).toNatClampNeg 0))), (mk9, .inr (1, [.int 0, .ref e0, .int 0])), (mt, .inr (1, [.int 0, .ref e0, .int 0])), (mm, .inr (11, [.int 0, .ref mk9, .ref mt, .ref mb, .int 0, .int 0, .int 0, .int 0, .null, .int 0, .int 0, .double 0, .int 0, .int 0, .int 0])), (mb, .inr (1, [.int 0, .ref e0, .int 0]))] H := hP
  have hD : va_D A [(q_1, .inl (cq_1, 13, .inl (upd (upd (upd (upd (upd (fun _ => 0) (0 : Int32).toNatClampNeg 0) (1 : Int32).toNatClampNeg 0) (2 : Int32).toNatClampNeg 0) (3 : Int32).toNatClampNeg 0) (4 : Int32).toNatClampNeg 0))), (mk9, .inr (1, [.int 0, .ref e0, .int 0])), (mt, .inr (1, [.int 0, .ref e0, .int 0])), (mm, .inr (11, [.int 0, .ref mk9, .ref mt, .ref mb, .int 0, .int 0, .int 0, .int 0, .null, .int 0, .int 0, .double 0, .int 0, .int 0, .int 0])), (mb, .inr (1, [.int 0, .ref e0, .int 0]))] := hD
  refine lv_dup hx hb dX9_manyNow_48 rfl ?_
  refine lv_iconst (v := 5) hx hb dX9_manyNow_49 (by decide) ?_
  refine lv_aload_n hx hb dX9_manyNow_50 rfl (lv_at hl 0 rfl) ?_
  refine va_get (D := D) (ci := 11) (v := .null) (C := RX9) (T := TX9) (N := 15) hx hb hts (by decide +kernel) hown hK hP 3 rfl rfl 8 (by decide) (hts (.fieldLink RX9 241 "PickCellModel" "held" "LPickCellModel$Thing;") (by decide +kernel)) (fun _ h9 => h9) rfl dX9_manyNow_51 ?_
  refine lv_ifnonnullN hx hb dX9_manyNow_54 ?_
  refine lv_iconst (v := (-1)) hx hb dX9_manyNow_57 (by decide) ?_
  refine lv_goto (tgt := 68) hx hb dX9_manyNow_58 (by decide) ?_
  refine va_iast hx hb hK hP hD hS 0 0 rfl rfl (by unfold vp_in; decide) dX9_manyNow_68 (fun H locs hP hD hS => ?_)
  have hP : va_P D vwCl [(q_1, .inl (cq_1, 13, .inl (upd (upd (upd (upd (upd (upd (fun _ => 0) (0 : Int32).toNatClampNeg 0) (1 : Int32).toNatClampNeg 0) (2 : Int32).toNatClampNeg 0) (3 : Int32).toNatClampNeg 0) (4 : Int32).toNatClampNeg 0) (5 : Int32).toNatClampNeg (-1)))), (mk9, .inr (1, [.int 0, .ref e0, .int 0])), (mt, .inr (1, [.int 0, .ref e0, .int 0])), (mm, .inr (11, [.int 0, .ref mk9, .ref mt, .ref mb, .int 0, .int 0, .int 0, .int 0, .null, .int 0, .int 0, .double 0, .int 0, .int 0, .int 0])), (mb, .inr (1, [.int 0, .ref e0, .int 0]))] H := hP
  have hD : va_D A [(q_1, .inl (cq_1, 13, .inl (upd (upd (upd (upd (upd (upd (fun _ => 0) (0 : Int32).toNatClampNeg 0) (1 : Int32).toNatClampNeg 0) (2 : Int32).toNatClampNeg 0) (3 : Int32).toNatClampNeg 0) (4 : Int32).toNatClampNeg 0) (5 : Int32).toNatClampNeg (-1)))), (mk9, .inr (1, [.int 0, .ref e0, .int 0])), (mt, .inr (1, [.int 0, .ref e0, .int 0])), (mm, .inr (11, [.int 0, .ref mk9, .ref mt, .ref mb, .int 0, .int 0, .int 0, .int 0, .null, .int 0, .int 0, .double 0, .int 0, .int 0, .int 0])), (mb, .inr (1, [.int 0, .ref e0, .int 0]))] := hD
  refine lv_dup hx hb dX9_manyNow_69 rfl ?_
  refine lv_bipush (v := 6) hx hb dX9_manyNow_70 (by decide) ?_
  refine lv_aload_n hx hb dX9_manyNow_72 rfl (lv_at hl 0 rfl) ?_
  refine va_get (D := D) (ci := 11) (v := .int 0) (C := RX9) (T := TX9) (N := 15) hx hb hts (by decide +kernel) hown hK hP 3 rfl rfl 7 (by decide) (hts (.fieldLink RX9 186 "PickCellModel" "tool" "I") (by decide +kernel)) (fun _ h9 => h9) rfl dX9_manyNow_73 ?_
  refine va_iast hx hb hK hP hD hS 0 0 rfl rfl (by unfold vp_in; decide) dX9_manyNow_76 (fun H locs hP hD hS => ?_)
  have hP : va_P D vwCl [(q_1, .inl (cq_1, 13, .inl (upd (upd (upd (upd (upd (upd (upd (fun _ => 0) (0 : Int32).toNatClampNeg 0) (1 : Int32).toNatClampNeg 0) (2 : Int32).toNatClampNeg 0) (3 : Int32).toNatClampNeg 0) (4 : Int32).toNatClampNeg 0) (5 : Int32).toNatClampNeg (-1)) (6 : Int32).toNatClampNeg 0))), (mk9, .inr (1, [.int 0, .ref e0, .int 0])), (mt, .inr (1, [.int 0, .ref e0, .int 0])), (mm, .inr (11, [.int 0, .ref mk9, .ref mt, .ref mb, .int 0, .int 0, .int 0, .int 0, .null, .int 0, .int 0, .double 0, .int 0, .int 0, .int 0])), (mb, .inr (1, [.int 0, .ref e0, .int 0]))] H := hP
  have hD : va_D A [(q_1, .inl (cq_1, 13, .inl (upd (upd (upd (upd (upd (upd (upd (fun _ => 0) (0 : Int32).toNatClampNeg 0) (1 : Int32).toNatClampNeg 0) (2 : Int32).toNatClampNeg 0) (3 : Int32).toNatClampNeg 0) (4 : Int32).toNatClampNeg 0) (5 : Int32).toNatClampNeg (-1)) (6 : Int32).toNatClampNeg 0))), (mk9, .inr (1, [.int 0, .ref e0, .int 0])), (mt, .inr (1, [.int 0, .ref e0, .int 0])), (mm, .inr (11, [.int 0, .ref mk9, .ref mt, .ref mb, .int 0, .int 0, .int 0, .int 0, .null, .int 0, .int 0, .double 0, .int 0, .int 0, .int 0])), (mb, .inr (1, [.int 0, .ref e0, .int 0]))] := hD
  refine lv_dup hx hb dX9_manyNow_77 rfl ?_
  refine lv_bipush (v := 7) hx hb dX9_manyNow_78 (by decide) ?_
  refine lv_aload_n hx hb dX9_manyNow_80 rfl (lv_at hl 0 rfl) ?_
  refine va_get (D := D) (ci := 11) (v := .int 0) (C := RX9) (T := TX9) (N := 15) hx hb hts (by decide +kernel) hown hK hP 3 rfl rfl 5 (by decide) (hts (.fieldLink RX9 167 "PickCellModel" "armX" "I") (by decide +kernel)) (fun _ h9 => h9) rfl dX9_manyNow_81 ?_
  refine va_iast hx hb hK hP hD hS 0 0 rfl rfl (by unfold vp_in; decide) dX9_manyNow_84 (fun H locs hP hD hS => ?_)
  have hP : va_P D vwCl [(q_1, .inl (cq_1, 13, .inl (upd (upd (upd (upd (upd (upd (upd (upd (fun _ => 0) (0 : Int32).toNatClampNeg 0) (1 : Int32).toNatClampNeg 0) (2 : Int32).toNatClampNeg 0) (3 : Int32).toNatClampNeg 0) (4 : Int32).toNatClampNeg 0) (5 : Int32).toNatClampNeg (-1)) (6 : Int32).toNatClampNeg 0) (7 : Int32).toNatClampNeg 0))), (mk9, .inr (1, [.int 0, .ref e0, .int 0])), (mt, .inr (1, [.int 0, .ref e0, .int 0])), (mm, .inr (11, [.int 0, .ref mk9, .ref mt, .ref mb, .int 0, .int 0, .int 0, .int 0, .null, .int 0, .int 0, .double 0, .int 0, .int 0, .int 0])), (mb, .inr (1, [.int 0, .ref e0, .int 0]))] H := hP
  have hD : va_D A [(q_1, .inl (cq_1, 13, .inl (upd (upd (upd (upd (upd (upd (upd (upd (fun _ => 0) (0 : Int32).toNatClampNeg 0) (1 : Int32).toNatClampNeg 0) (2 : Int32).toNatClampNeg 0) (3 : Int32).toNatClampNeg 0) (4 : Int32).toNatClampNeg 0) (5 : Int32).toNatClampNeg (-1)) (6 : Int32).toNatClampNeg 0) (7 : Int32).toNatClampNeg 0))), (mk9, .inr (1, [.int 0, .ref e0, .int 0])), (mt, .inr (1, [.int 0, .ref e0, .int 0])), (mm, .inr (11, [.int 0, .ref mk9, .ref mt, .ref mb, .int 0, .int 0, .int 0, .int 0, .null, .int 0, .int 0, .double 0, .int 0, .int 0, .int 0])), (mb, .inr (1, [.int 0, .ref e0, .int 0]))] := hD
  refine lv_dup hx hb dX9_manyNow_85 rfl ?_
  refine lv_bipush (v := 8) hx hb dX9_manyNow_86 (by decide) ?_
  refine lv_aload_n hx hb dX9_manyNow_88 rfl (lv_at hl 0 rfl) ?_
  refine va_get (D := D) (ci := 11) (v := .int 0) (C := RX9) (T := TX9) (N := 15) hx hb hts (by decide +kernel) hown hK hP 3 rfl rfl 6 (by decide) (hts (.fieldLink RX9 174 "PickCellModel" "armY" "I") (by decide +kernel)) (fun _ h9 => h9) rfl dX9_manyNow_89 ?_
  refine va_iast hx hb hK hP hD hS 0 0 rfl rfl (by unfold vp_in; decide) dX9_manyNow_92 (fun H locs hP hD hS => ?_)
  have hP : va_P D vwCl [(q_1, .inl (cq_1, 13, .inl (upd (upd (upd (upd (upd (upd (upd (upd (upd (fun _ => 0) (0 : Int32).toNatClampNeg 0) (1 : Int32).toNatClampNeg 0) (2 : Int32).toNatClampNeg 0) (3 : Int32).toNatClampNeg 0) (4 : Int32).toNatClampNeg 0) (5 : Int32).toNatClampNeg (-1)) (6 : Int32).toNatClampNeg 0) (7 : Int32).toNatClampNeg 0) (8 : Int32).toNatClampNeg 0))), (mk9, .inr (1, [.int 0, .ref e0, .int 0])), (mt, .inr (1, [.int 0, .ref e0, .int 0])), (mm, .inr (11, [.int 0, .ref mk9, .ref mt, .ref mb, .int 0, .int 0, .int 0, .int 0, .null, .int 0, .int 0, .double 0, .int 0, .int 0, .int 0])), (mb, .inr (1, [.int 0, .ref e0, .int 0]))] H := hP
  have hD : va_D A [(q_1, .inl (cq_1, 13, .inl (upd (upd (upd (upd (upd (upd (upd (upd (upd (fun _ => 0) (0 : Int32).toNatClampNeg 0) (1 : Int32).toNatClampNeg 0) (2 : Int32).toNatClampNeg 0) (3 : Int32).toNatClampNeg 0) (4 : Int32).toNatClampNeg 0) (5 : Int32).toNatClampNeg (-1)) (6 : Int32).toNatClampNeg 0) (7 : Int32).toNatClampNeg 0) (8 : Int32).toNatClampNeg 0))), (mk9, .inr (1, [.int 0, .ref e0, .int 0])), (mt, .inr (1, [.int 0, .ref e0, .int 0])), (mm, .inr (11, [.int 0, .ref mk9, .ref mt, .ref mb, .int 0, .int 0, .int 0, .int 0, .null, .int 0, .int 0, .double 0, .int 0, .int 0, .int 0])), (mb, .inr (1, [.int 0, .ref e0, .int 0]))] := hD
  refine lv_dup hx hb dX9_manyNow_93 rfl ?_
  refine lv_bipush (v := 9) hx hb dX9_manyNow_94 (by decide) ?_
  refine lv_aload_n hx hb dX9_manyNow_96 rfl (lv_at hl 0 rfl) ?_
  refine va_get (D := D) (ci := 11) (v := .int 0) (C := RX9) (T := TX9) (N := 15) hx hb hts (by decide +kernel) hown hK hP 3 rfl rfl 12 (by decide) (hts (.fieldLink RX9 274 "PickCellModel" "draw" "I") (by decide +kernel)) (fun _ h9 => h9) rfl dX9_manyNow_97 ?_
  refine va_iast hx hb hK hP hD hS 0 0 rfl rfl (by unfold vp_in; decide) dX9_manyNow_100 (fun H locs hP hD hS => ?_)
  have hP : va_P D vwCl [(q_1, .inl (cq_1, 13, .inl (upd (upd (upd (upd (upd (upd (upd (upd (upd (upd (fun _ => 0) (0 : Int32).toNatClampNeg 0) (1 : Int32).toNatClampNeg 0) (2 : Int32).toNatClampNeg 0) (3 : Int32).toNatClampNeg 0) (4 : Int32).toNatClampNeg 0) (5 : Int32).toNatClampNeg (-1)) (6 : Int32).toNatClampNeg 0) (7 : Int32).toNatClampNeg 0) (8 : Int32).toNatClampNeg 0) (9 : Int32).toNatClampNeg 0))), (mk9, .inr (1, [.int 0, .ref e0, .int 0])), (mt, .inr (1, [.int 0, .ref e0, .int 0])), (mm, .inr (11, [.int 0, .ref mk9, .ref mt, .ref mb, .int 0, .int 0, .int 0, .int 0, .null, .int 0, .int 0, .double 0, .int 0, .int 0, .int 0])), (mb, .inr (1, [.int 0, .ref e0, .int 0]))] H := hP
  have hD : va_D A [(q_1, .inl (cq_1, 13, .inl (upd (upd (upd (upd (upd (upd (upd (upd (upd (upd (fun _ => 0) (0 : Int32).toNatClampNeg 0) (1 : Int32).toNatClampNeg 0) (2 : Int32).toNatClampNeg 0) (3 : Int32).toNatClampNeg 0) (4 : Int32).toNatClampNeg 0) (5 : Int32).toNatClampNeg (-1)) (6 : Int32).toNatClampNeg 0) (7 : Int32).toNatClampNeg 0) (8 : Int32).toNatClampNeg 0) (9 : Int32).toNatClampNeg 0))), (mk9, .inr (1, [.int 0, .ref e0, .int 0])), (mt, .inr (1, [.int 0, .ref e0, .int 0])), (mm, .inr (11, [.int 0, .ref mk9, .ref mt, .ref mb, .int 0, .int 0, .int 0, .int 0, .null, .int 0, .int 0, .double 0, .int 0, .int 0, .int 0])), (mb, .inr (1, [.int 0, .ref e0, .int 0]))] := hD
  refine lv_dup hx hb dX9_manyNow_101 rfl ?_
  refine lv_bipush (v := 10) hx hb dX9_manyNow_102 (by decide) ?_
  refine lv_aload_n hx hb dX9_manyNow_104 rfl (lv_at hl 0 rfl) ?_
  refine va_get (D := D) (ci := 11) (v := .int 0) (C := RX9) (T := TX9) (N := 15) hx hb hts (by decide +kernel) hown hK hP 3 rfl rfl 13 (by decide) (hts (.fieldLink RX9 277 "PickCellModel" "slips" "I") (by decide +kernel)) (fun _ h9 => h9) rfl dX9_manyNow_105 ?_
  refine va_iast hx hb hK hP hD hS 0 0 rfl rfl (by unfold vp_in; decide) dX9_manyNow_108 (fun H locs hP hD hS => ?_)
  have hP : va_P D vwCl [(q_1, .inl (cq_1, 13, .inl (upd (upd (upd (upd (upd (upd (upd (upd (upd (upd (upd (fun _ => 0) (0 : Int32).toNatClampNeg 0) (1 : Int32).toNatClampNeg 0) (2 : Int32).toNatClampNeg 0) (3 : Int32).toNatClampNeg 0) (4 : Int32).toNatClampNeg 0) (5 : Int32).toNatClampNeg (-1)) (6 : Int32).toNatClampNeg 0) (7 : Int32).toNatClampNeg 0) (8 : Int32).toNatClampNeg 0) (9 : Int32).toNatClampNeg 0) (10 : Int32).toNatClampNeg 0))), (mk9, .inr (1, [.int 0, .ref e0, .int 0])), (mt, .inr (1, [.int 0, .ref e0, .int 0])), (mm, .inr (11, [.int 0, .ref mk9, .ref mt, .ref mb, .int 0, .int 0, .int 0, .int 0, .null, .int 0, .int 0, .double 0, .int 0, .int 0, .int 0])), (mb, .inr (1, [.int 0, .ref e0, .int 0]))] H := hP
  have hD : va_D A [(q_1, .inl (cq_1, 13, .inl (upd (upd (upd (upd (upd (upd (upd (upd (upd (upd (upd (fun _ => 0) (0 : Int32).toNatClampNeg 0) (1 : Int32).toNatClampNeg 0) (2 : Int32).toNatClampNeg 0) (3 : Int32).toNatClampNeg 0) (4 : Int32).toNatClampNeg 0) (5 : Int32).toNatClampNeg (-1)) (6 : Int32).toNatClampNeg 0) (7 : Int32).toNatClampNeg 0) (8 : Int32).toNatClampNeg 0) (9 : Int32).toNatClampNeg 0) (10 : Int32).toNatClampNeg 0))), (mk9, .inr (1, [.int 0, .ref e0, .int 0])), (mt, .inr (1, [.int 0, .ref e0, .int 0])), (mm, .inr (11, [.int 0, .ref mk9, .ref mt, .ref mb, .int 0, .int 0, .int 0, .int 0, .null, .int 0, .int 0, .double 0, .int 0, .int 0, .int 0])), (mb, .inr (1, [.int 0, .ref e0, .int 0]))] := hD
  refine lv_dup hx hb dX9_manyNow_109 rfl ?_
  refine lv_bipush (v := 11) hx hb dX9_manyNow_110 (by decide) ?_
  refine lv_aload_n hx hb dX9_manyNow_112 rfl (lv_at hl 0 rfl) ?_
  refine va_get (D := D) (ci := 11) (v := .int 0) (C := RX9) (T := TX9) (N := 15) hx hb hts (by decide +kernel) hown hK hP 3 rfl rfl 14 (by decide) (hts (.fieldLink RX9 260 "PickCellModel" "hindered" "I") (by decide +kernel)) (fun _ h9 => h9) rfl dX9_manyNow_113 ?_
  refine va_iast hx hb hK hP hD hS 0 0 rfl rfl (by unfold vp_in; decide) dX9_manyNow_116 (fun H locs hP hD hS => ?_)
  have hP : va_P D vwCl [(q_1, .inl (cq_1, 13, .inl (upd (upd (upd (upd (upd (upd (upd (upd (upd (upd (upd (upd (fun _ => 0) (0 : Int32).toNatClampNeg 0) (1 : Int32).toNatClampNeg 0) (2 : Int32).toNatClampNeg 0) (3 : Int32).toNatClampNeg 0) (4 : Int32).toNatClampNeg 0) (5 : Int32).toNatClampNeg (-1)) (6 : Int32).toNatClampNeg 0) (7 : Int32).toNatClampNeg 0) (8 : Int32).toNatClampNeg 0) (9 : Int32).toNatClampNeg 0) (10 : Int32).toNatClampNeg 0) (11 : Int32).toNatClampNeg 0))), (mk9, .inr (1, [.int 0, .ref e0, .int 0])), (mt, .inr (1, [.int 0, .ref e0, .int 0])), (mm, .inr (11, [.int 0, .ref mk9, .ref mt, .ref mb, .int 0, .int 0, .int 0, .int 0, .null, .int 0, .int 0, .double 0, .int 0, .int 0, .int 0])), (mb, .inr (1, [.int 0, .ref e0, .int 0]))] H := hP
  have hD : va_D A [(q_1, .inl (cq_1, 13, .inl (upd (upd (upd (upd (upd (upd (upd (upd (upd (upd (upd (upd (fun _ => 0) (0 : Int32).toNatClampNeg 0) (1 : Int32).toNatClampNeg 0) (2 : Int32).toNatClampNeg 0) (3 : Int32).toNatClampNeg 0) (4 : Int32).toNatClampNeg 0) (5 : Int32).toNatClampNeg (-1)) (6 : Int32).toNatClampNeg 0) (7 : Int32).toNatClampNeg 0) (8 : Int32).toNatClampNeg 0) (9 : Int32).toNatClampNeg 0) (10 : Int32).toNatClampNeg 0) (11 : Int32).toNatClampNeg 0))), (mk9, .inr (1, [.int 0, .ref e0, .int 0])), (mt, .inr (1, [.int 0, .ref e0, .int 0])), (mm, .inr (11, [.int 0, .ref mk9, .ref mt, .ref mb, .int 0, .int 0, .int 0, .int 0, .null, .int 0, .int 0, .double 0, .int 0, .int 0, .int 0])), (mb, .inr (1, [.int 0, .ref e0, .int 0]))] := hD
  refine lv_dup hx hb dX9_manyNow_117 rfl ?_
  refine lv_bipush (v := 12) hx hb dX9_manyNow_118 (by decide) ?_
  refine lv_aload_n hx hb dX9_manyNow_120 rfl (lv_at hl 0 rfl) ?_
  refine kV_i (As := []) (rest := [.int 12, .ref q_1, .ref q_1]) (wr := [(q_1, .inl (cq_1, 13, .inl (upd (upd (upd (upd (upd (upd (upd (upd (upd (upd (upd (upd (fun _ => 0) (0 : Int32).toNatClampNeg 0) (1 : Int32).toNatClampNeg 0) (2 : Int32).toNatClampNeg 0) (3 : Int32).toNatClampNeg 0) (4 : Int32).toNatClampNeg 0) (5 : Int32).toNatClampNeg (-1)) (6 : Int32).toNatClampNeg 0) (7 : Int32).toNatClampNeg 0) (8 : Int32).toNatClampNeg 0) (9 : Int32).toNatClampNeg 0) (10 : Int32).toNatClampNeg 0) (11 : Int32).toNatClampNeg 0))), (mk9, .inr (1, [.int 0, .ref e0, .int 0])), (mb, .inr (1, [.int 0, .ref e0, .int 0]))]) ⟨hx, hb, hml, hown, hts⟩ (c_m_highest l D e0 _ mm mk9 mt mb) (cwV 0 hts gX9_manyNow_X9_highest rfl rfl rfl (by decide +kernel) ⟨Nat.le_of_ble_eq_true rfl, Nat.le_of_ble_eq_true rfl⟩) hP hD hK hS hA hE rfl [3, 2] [0, 1, 4] [] rfl rfl (by decide) (by decide) (by decide) rfl 11 3 rfl rfl rfl rfl hl.1 (Nat.le_of_ble_eq_true rfl) dX9_manyNow_121 ⟨Nat.le_of_ble_eq_true rfl, Nat.le_of_ble_eq_true rfl⟩ (fun r_7 u9 H locs hw hP hD hK hS => ?_)
  have hw : r_7 = 0 := hw
  subst hw
  have hP : va_P D vwCl [(q_1, .inl (cq_1, 13, .inl (upd (upd (upd (upd (upd (upd (upd (upd (upd (upd (upd (upd (fun _ => 0) (0 : Int32).toNatClampNeg 0) (1 : Int32).toNatClampNeg 0) (2 : Int32).toNatClampNeg 0) (3 : Int32).toNatClampNeg 0) (4 : Int32).toNatClampNeg 0) (5 : Int32).toNatClampNeg (-1)) (6 : Int32).toNatClampNeg 0) (7 : Int32).toNatClampNeg 0) (8 : Int32).toNatClampNeg 0) (9 : Int32).toNatClampNeg 0) (10 : Int32).toNatClampNeg 0) (11 : Int32).toNatClampNeg 0))), (mk9, .inr (1, [.int 0, .ref e0, .int 0])), (mb, .inr (1, [.int 0, .ref e0, .int 0])), (mm, .inr (11, [.int 0, .ref mk9, .ref mt, .ref mb, .int 0, .int 0, .int 0, .int 0, .null, .int 0, .int 0, .double 0, .int 0, .int 0, .int 0])), (mt, .inr (1, [.int 0, .ref e0, .int 0]))] H := hP
  have hD : va_D A [(q_1, .inl (cq_1, 13, .inl (upd (upd (upd (upd (upd (upd (upd (upd (upd (upd (upd (upd (fun _ => 0) (0 : Int32).toNatClampNeg 0) (1 : Int32).toNatClampNeg 0) (2 : Int32).toNatClampNeg 0) (3 : Int32).toNatClampNeg 0) (4 : Int32).toNatClampNeg 0) (5 : Int32).toNatClampNeg (-1)) (6 : Int32).toNatClampNeg 0) (7 : Int32).toNatClampNeg 0) (8 : Int32).toNatClampNeg 0) (9 : Int32).toNatClampNeg 0) (10 : Int32).toNatClampNeg 0) (11 : Int32).toNatClampNeg 0))), (mk9, .inr (1, [.int 0, .ref e0, .int 0])), (mb, .inr (1, [.int 0, .ref e0, .int 0])), (mm, .inr (11, [.int 0, .ref mk9, .ref mt, .ref mb, .int 0, .int 0, .int 0, .int 0, .null, .int 0, .int 0, .double 0, .int 0, .int 0, .int 0])), (mt, .inr (1, [.int 0, .ref e0, .int 0]))] := hD
  have hK : va_K D vwCl [(cq_1, .int)] s := hK
  refine va_iast hx hb hK hP hD hS 0 0 rfl rfl (by unfold vp_in; decide) dX9_manyNow_124 (fun H locs hP hD hS => ?_)
  have hP : va_P D vwCl [(q_1, .inl (cq_1, 13, .inl (upd (upd (upd (upd (upd (upd (upd (upd (upd (upd (upd (upd (upd (fun _ => 0) (0 : Int32).toNatClampNeg 0) (1 : Int32).toNatClampNeg 0) (2 : Int32).toNatClampNeg 0) (3 : Int32).toNatClampNeg 0) (4 : Int32).toNatClampNeg 0) (5 : Int32).toNatClampNeg (-1)) (6 : Int32).toNatClampNeg 0) (7 : Int32).toNatClampNeg 0) (8 : Int32).toNatClampNeg 0) (9 : Int32).toNatClampNeg 0) (10 : Int32).toNatClampNeg 0) (11 : Int32).toNatClampNeg 0) (12 : Int32).toNatClampNeg 0))), (mk9, .inr (1, [.int 0, .ref e0, .int 0])), (mb, .inr (1, [.int 0, .ref e0, .int 0])), (mm, .inr (11, [.int 0, .ref mk9, .ref mt, .ref mb, .int 0, .int 0, .int 0, .int 0, .null, .int 0, .int 0, .double 0, .int 0, .int 0, .int 0])), (mt, .inr (1, [.int 0, .ref e0, .int 0]))] H := hP
  have hD : va_D A [(q_1, .inl (cq_1, 13, .inl (upd (upd (upd (upd (upd (upd (upd (upd (upd (upd (upd (upd (upd (fun _ => 0) (0 : Int32).toNatClampNeg 0) (1 : Int32).toNatClampNeg 0) (2 : Int32).toNatClampNeg 0) (3 : Int32).toNatClampNeg 0) (4 : Int32).toNatClampNeg 0) (5 : Int32).toNatClampNeg (-1)) (6 : Int32).toNatClampNeg 0) (7 : Int32).toNatClampNeg 0) (8 : Int32).toNatClampNeg 0) (9 : Int32).toNatClampNeg 0) (10 : Int32).toNatClampNeg 0) (11 : Int32).toNatClampNeg 0) (12 : Int32).toNatClampNeg 0))), (mk9, .inr (1, [.int 0, .ref e0, .int 0])), (mb, .inr (1, [.int 0, .ref e0, .int 0])), (mm, .inr (11, [.int 0, .ref mk9, .ref mt, .ref mb, .int 0, .int 0, .int 0, .int 0, .null, .int 0, .int 0, .double 0, .int 0, .int 0, .int 0])), (mt, .inr (1, [.int 0, .ref e0, .int 0]))] := hD
  refine lv_astore_n (lv' := [(2, .ref q_1), (0, .ref mm), (1, .int p0)]) hx hb dX9_manyNow_125 rfl hl (by decide) rfl (fun ls hl => ?_)
  refine lv_aload_n hx hb dX9_manyNow_126 rfl (lv_at hl 0 rfl) ?_
  refine lv_iload_n hx hb dX9_manyNow_127 rfl (lv_at hl 2 rfl) ?_
  refine va_iald hx hb hK hP 0 0 rfl rfl (by obtain ⟨j, hj, rfl⟩ := in13 hv.1 hv.2; exact vp_in_nI (by omega) (by decide)) dX9_manyNow_128 ?_
  refine lv_topi (fun x_8 ex_8 => ?_)
  obtain rfl : x_8 = manyF p0 := ex_8.trans (by obtain ⟨j, hj, rfl⟩ := in13 hv.1 hv.2; rcases (show j = 0 ∨ j = 1 ∨ j = 2 ∨ j = 3 ∨ j = 4 ∨ j = 5 ∨ j = 6 ∨ j = 7 ∨ j = 8 ∨ j = 9 ∨ j = 10 ∨ j = 11 ∨ j = 12 by omega) with rfl | rfl | rfl | rfl | rfl | rfl | rfl | rfl | rfl | rfl | rfl | rfl | rfl <;> decide)
  exact end_i (v := (manyF p0)) hx hb hr rfl hlocks hP hD hK hS () rfl [3, 1, 4, 2] [] rfl (by decide) rfl (Nat.le_of_ble_eq_true rfl) (Nat.le_of_ble_eq_true rfl) dX9_manyNow_129
set_option maxHeartbeats 4000000 in
set_option maxRecDepth 100000 in
/-- the reference: many -/
theorem c_m_many (l : Launch) (D : va_G) (e0 sz : Nat) (mm mk9 mt mb : Nat) (p0 : Int32) : Ki (S := Int32) l yX9_many wsX9_many ({ frames := 5, cells := 4, slots := 25, locals := 98 } : Room) [.ref mm, .int p0] D [(mm, .inr (11, [.int 0, .ref mk9, .ref mt, .ref mb, .int 0, .int 0, .int 0, .int 0, .null, .int 0, .int 0, .double 0, .int 0, .int 0, .int 0])), (mk9, .inr (1, [.int 0, .ref e0, .int 0])), (mt, .inr (1, [.int 0, .ref e0, .int 0])), (mb, .inr (1, [.int 0, .ref e0, .int 0]))] [] e0 sz (fun (r t : Int32) => r = (if isW p0 0 12 = 0 then 0 else manyF p0) ∧ t = (if isW p0 0 12 = 0 then 1 else 0)) (fun (t : Int32) => [(mm, .inr (11, [.int t, .ref mk9, .ref mt, .ref mb, .int 0, .int 0, .int 0, .int 0, .null, .int 0, .int 0, .double 0, .int 0, .int 0, .int 0]))]) (fun _ => []) 4 25 := by
  refine Met.ofW (cc := cX9_many) (maxL := 2) (ret := (some .int)) (by decide) rfl ?_
  intro p e s m args below meth c s₁ B hml hv
  obtain ⟨rfl, hsz, hP, hK, hD0, hE⟩ := hv
  have hx := B.exec
  have hb := B.bytes
  have hr := B.returns
  have hts := atoms_spec (ws := wsX9_many) B.pre
  have hown : s.vm.findClass RX9 = some m.cls := findClass_of_methodNamed B.named
  have hlocks := B.notSynchronized
  subst hsz
  have hD := hD0.self (sz := s.heap.size)
  generalize hAe : va_A [(mm, .inr (11, [.int 0, .ref mk9, .ref mt, .ref mb, .int 0, .int 0, .int 0, .int 0, .null, .int 0, .int 0, .double 0, .int 0, .int 0, .int 0])), (mk9, .inr (1, [.int 0, .ref e0, .int 0])), (mt, .inr (1, [.int 0, .ref e0, .int 0])), (mb, .inr (1, [.int 0, .ref e0, .int 0]))] s.heap.size = A at hD hE ⊢
  have hA : ∀ q : Nat, s.heap.size ≤ q → A q := fun q h => by rw [← hAe]; exact Or.inr h
  have hS : va_S A s.heap s.heap [] := va_S.rf
  have hP : va_P D vwCl [(mm, .inr (11, [.int 0, .ref mk9, .ref mt, .ref mb, .int 0, .int 0, .int 0, .int 0, .null, .int 0, .int 0, .double 0, .int 0, .int 0, .int 0])), (mk9, .inr (1, [.int 0, .ref e0, .int 0])), (mt, .inr (1, [.int 0, .ref e0, .int 0])), (mb, .inr (1, [.int 0, .ref e0, .int 0]))] s.heap := hP
  have hl := lv_entry ([.ref mm, .int p0]) (n := 2) (Nat.le_of_ble_eq_true rfl)
  rw [lg_entry_eq]
  generalize (lg_sl ([.ref mm, .int p0]) ++ List.replicate (2 - (lg_sl ([.ref mm, .int p0])).length) Slot.unset).toArray = ls at hl ⊢
  have hl : lv_has ls 2 [(0, .ref mm), (1, .int p0)] := hl
  refine lv_aload_n hx hb dX9_many_0 rfl (lv_at hl 0 rfl) ?_
  refine lv_iload_n hx hb dX9_many_1 rfl (lv_at hl 1 rfl) ?_
  refine lv_iconst (v := 0) hx hb dX9_many_2 (by decide) ?_
  refine lv_bipush (v := 12) hx hb dX9_many_3 (by decide) ?_
  refine kS_i (As := [.int p0, .int 0, .int 12]) (rest := [.ref mm]) (wr := [(mm, .inr (11, [.int 0, .ref mk9, .ref mt, .ref mb, .int 0, .int 0, .int 0, .int 0, .null, .int 0, .int 0, .double 0, .int 0, .int 0, .int 0])), (mk9, .inr (1, [.int 0, .ref e0, .int 0])), (mt, .inr (1, [.int 0, .ref e0, .int 0])), (mb, .inr (1, [.int 0, .ref e0, .int 0]))]) ⟨hx, hb, hml, hown, hts⟩ (c_isIn l D e0 _ p0 0 12) (va_cwS 3 hts gX9_many_X9_isIn rfl rfl rfl (by decide +kernel) ⟨Nat.le_of_ble_eq_true rfl, Nat.le_of_ble_eq_true rfl⟩) hP hD hK hS hA hE rfl [] [0, 1, 2, 3] [] rfl rfl (by decide) (by decide) (by decide) rfl rfl hl.1 (Nat.le_of_ble_eq_true rfl) dX9_many_5 ⟨Nat.le_of_ble_eq_true rfl, Nat.le_of_ble_eq_true rfl⟩ (fun r_1 u9 H locs hw hP hD hK hS => ?_)
  have hw : r_1 = (isW p0 0 12) := hw
  subst hw
  have hP : va_P D vwCl [(mm, .inr (11, [.int 0, .ref mk9, .ref mt, .ref mb, .int 0, .int 0, .int 0, .int 0, .null, .int 0, .int 0, .double 0, .int 0, .int 0, .int 0])), (mk9, .inr (1, [.int 0, .ref e0, .int 0])), (mt, .inr (1, [.int 0, .ref e0, .int 0])), (mb, .inr (1, [.int 0, .ref e0, .int 0]))] H := hP
  have hD : va_D A [(mm, .inr (11, [.int 0, .ref mk9, .ref mt, .ref mb, .int 0, .int 0, .int 0, .int 0, .null, .int 0, .int 0, .double 0, .int 0, .int 0, .int 0])), (mk9, .inr (1, [.int 0, .ref e0, .int 0])), (mt, .inr (1, [.int 0, .ref e0, .int 0])), (mb, .inr (1, [.int 0, .ref e0, .int 0]))] := hD
  have hK : va_K D vwCl [] s := hK
  refine lv_if_ne (tgt := 15) hx hb dX9_many_8 (by decide) (fun c_8 => ?_) (fun c_8 => ?_)
  · refine lv_iconst (v := 0) hx hb dX9_many_15 (by decide) ?_
    refine lv_iconst (v := 1) hx hb dX9_many_16 (by decide) ?_
    refine kV_i (As := [.int 0, .int 1]) (rest := []) (wr := [(mk9, .inr (1, [.int 0, .ref e0, .int 0])), (mt, .inr (1, [.int 0, .ref e0, .int 0])), (mb, .inr (1, [.int 0, .ref e0, .int 0]))]) ⟨hx, hb, hml, hown, hts⟩ (c_start0 l D e0 _ mm mk9 mt mb) (cwV 2 hts gX9_many_X9_start rfl rfl rfl (by decide +kernel) ⟨Nat.le_of_ble_eq_true rfl, Nat.le_of_ble_eq_true rfl⟩) hP hD hK hS hA hE rfl [0] [1, 2, 3] [] rfl rfl (by decide) (by decide) (by decide) rfl 11 0 rfl rfl rfl rfl hl.1 (Nat.le_of_ble_eq_true rfl) dX9_many_17 ⟨Nat.le_of_ble_eq_true rfl, Nat.le_of_ble_eq_true rfl⟩ (fun r_2 u9 H locs hw hP hD hK hS => ?_)
    have hw : r_2 = 0 := hw
    subst hw
    have hP : va_P D vwCl [(mk9, .inr (1, [.int 0, .ref e0, .int 0])), (mt, .inr (1, [.int 0, .ref e0, .int 0])), (mb, .inr (1, [.int 0, .ref e0, .int 0])), (mm, .inr (11, [.int 0, .ref mk9, .ref mt, .ref mb, .int 0, .int 0, .int 0, .int 0, .null, .int 0, .int 0, .double 0, .int 0, .int 0, .int 0]))] H := hP
    have hD : va_D A [(mk9, .inr (1, [.int 0, .ref e0, .int 0])), (mt, .inr (1, [.int 0, .ref e0, .int 0])), (mb, .inr (1, [.int 0, .ref e0, .int 0])), (mm, .inr (11, [.int 0, .ref mk9, .ref mt, .ref mb, .int 0, .int 0, .int 0, .int 0, .null, .int 0, .int 0, .double 0, .int 0, .int 0, .int 0]))] := hD
    have hK : va_K D vwCl [] s := hK
    refine lv_if_eq (tgt := 27) hx hb dX9_many_20 (by decide) (fun _ => ?_) (fun h9 => absurd (by decide) h9)
    refine lv_aload_n hx hb dX9_many_27 rfl (lv_at hl 0 rfl) ?_
    refine lv_iload_n hx hb dX9_many_28 rfl (lv_at hl 1 rfl) ?_
    refine kV_i (As := [.int p0]) (rest := []) (wr := []) ⟨hx, hb, hml, hown, hts⟩ (c_m_manyNow l D e0 _ mm mk9 mt mb p0 (isW_ne c_8)) (cwV 1 hts gX9_many_X9_manyNow rfl rfl rfl (by decide +kernel) ⟨Nat.le_of_ble_eq_true rfl, Nat.le_of_ble_eq_true rfl⟩) hP hD hK hS hA hE rfl [3, 0, 1, 2] [] [] rfl rfl (by decide) (by decide) (by decide) rfl 11 3 rfl rfl rfl rfl hl.1 (Nat.le_of_ble_eq_true rfl) dX9_many_29 ⟨Nat.le_of_ble_eq_true rfl, Nat.le_of_ble_eq_true rfl⟩ (fun r_3 u9 H locs hw hP hD hK hS => ?_)
    have hw : r_3 = (manyF p0) := hw
    subst hw
    have hP : va_P D vwCl [(mm, .inr (11, [.int 0, .ref mk9, .ref mt, .ref mb, .int 0, .int 0, .int 0, .int 0, .null, .int 0, .int 0, .double 0, .int 0, .int 0, .int 0])), (mk9, .inr (1, [.int 0, .ref e0, .int 0])), (mt, .inr (1, [.int 0, .ref e0, .int 0])), (mb, .inr (1, [.int 0, .ref e0, .int 0]))] H := hP
    have hD : va_D A [(mm, .inr (11, [.int 0, .ref mk9, .ref mt, .ref mb, .int 0, .int 0, .int 0, .int 0, .null, .int 0, .int 0, .double 0, .int 0, .int 0, .int 0])), (mk9, .inr (1, [.int 0, .ref e0, .int 0])), (mt, .inr (1, [.int 0, .ref e0, .int 0])), (mb, .inr (1, [.int 0, .ref e0, .int 0]))] := hD
    have hK : va_K D vwCl [] s := hK
    exact end_i (v := (manyF p0)) hx hb hr rfl hlocks hP hD hK hS 0 (⟨(if_neg c_8).symm, (if_neg c_8).symm⟩) [0] [] rfl (by decide) rfl (Nat.le_of_ble_eq_true rfl) (Nat.le_of_ble_eq_true rfl) dX9_many_32
  · refine lv_iconst (v := 1) hx hb dX9_many_11 (by decide) ?_
    refine lv_goto (tgt := 16) hx hb dX9_many_12 (by decide) ?_
    refine lv_iconst (v := 1) hx hb dX9_many_16 (by decide) ?_
    refine kV_i (As := [.int 1, .int 1]) (rest := []) (wr := [(mk9, .inr (1, [.int 0, .ref e0, .int 0])), (mt, .inr (1, [.int 0, .ref e0, .int 0])), (mb, .inr (1, [.int 0, .ref e0, .int 0]))]) ⟨hx, hb, hml, hown, hts⟩ (c_start1 l D e0 _ mm mk9 mt mb) (cwV 2 hts gX9_many_X9_start rfl rfl rfl (by decide +kernel) ⟨Nat.le_of_ble_eq_true rfl, Nat.le_of_ble_eq_true rfl⟩) hP hD hK hS hA hE rfl [0] [1, 2, 3] [] rfl rfl (by decide) (by decide) (by decide) rfl 11 0 rfl rfl rfl rfl hl.1 (Nat.le_of_ble_eq_true rfl) dX9_many_17 ⟨Nat.le_of_ble_eq_true rfl, Nat.le_of_ble_eq_true rfl⟩ (fun r_4 u9 H locs hw hP hD hK hS => ?_)
    have hw : r_4 = 1 := hw
    subst hw
    have hP : va_P D vwCl [(mk9, .inr (1, [.int 0, .ref e0, .int 0])), (mt, .inr (1, [.int 0, .ref e0, .int 0])), (mb, .inr (1, [.int 0, .ref e0, .int 0])), (mm, .inr (11, [.int 1, .ref mk9, .ref mt, .ref mb, .int 0, .int 0, .int 0, .int 0, .null, .int 0, .int 0, .double 0, .int 0, .int 0, .int 0]))] H := hP
    have hD : va_D A [(mk9, .inr (1, [.int 0, .ref e0, .int 0])), (mt, .inr (1, [.int 0, .ref e0, .int 0])), (mb, .inr (1, [.int 0, .ref e0, .int 0])), (mm, .inr (11, [.int 1, .ref mk9, .ref mt, .ref mb, .int 0, .int 0, .int 0, .int 0, .null, .int 0, .int 0, .double 0, .int 0, .int 0, .int 0]))] := hD
    have hK : va_K D vwCl [] s := hK
    refine lv_if_eq (tgt := 27) hx hb dX9_many_20 (by decide) (fun h9 => absurd h9 (by decide)) (fun _ => ?_)
    refine lv_iconst (v := 0) hx hb dX9_many_23 (by decide) ?_
    refine lv_goto (tgt := 32) hx hb dX9_many_24 (by decide) ?_
    exact end_i (v := 0) hx hb hr rfl hlocks hP hD hK hS 1 (⟨(if_pos c_8).symm, (if_pos c_8).symm⟩) [3] [] rfl (by decide) rfl (Nat.le_of_ble_eq_true rfl) (Nat.le_of_ble_eq_true rfl) dX9_many_32
set_option maxHeartbeats 4000000 in
set_option maxRecDepth 100000 in
theorem c_m_add (l : Launch) (D : va_G) (e0 sz : Nat) (d v : Int64) : Kl (S := Unit) l yX9_add wsX9_add ({ frames := 0, cells := 0, slots := 0, locals := 0 } : Room) [.long d, .long v] D [] [] e0 sz (fun r _ => r = d * 31 + v) (fun _ => []) (fun _ => []) 0 0 := by
  refine Met.ofW (cc := cX9_add) (maxL := 4) (ret := (some .long)) (by decide) rfl ?_
  intro p e s m args below meth c s₁ B hml hv
  obtain ⟨rfl, hsz, hP, hK, hD0, hE⟩ := hv
  have hx := B.exec
  have hb := B.bytes
  have hr := B.returns
  have hts := atoms_spec (ws := wsX9_add) B.pre
  have hown : s.vm.findClass RX9 = some m.cls := findClass_of_methodNamed B.named
  have hlocks := B.notSynchronized
  subst hsz
  have hD := hD0.self (sz := s.heap.size)
  generalize hAe : va_A [] s.heap.size = A at hD hE ⊢
  have hA : ∀ q : Nat, s.heap.size ≤ q → A q := fun q h => by rw [← hAe]; exact Or.inr h
  have hS : va_S A s.heap s.heap [] := va_S.rf
  have hP : va_P D vwCl [] s.heap := hP
  have hl := lv_entry ([.long d, .long v]) (n := 4) (Nat.le_of_ble_eq_true rfl)
  rw [lg_entry_eq]
  generalize (lg_sl ([.long d, .long v]) ++ List.replicate (4 - (lg_sl ([.long d, .long v])).length) Slot.unset).toArray = ls at hl ⊢
  have hl : lv_has ls 4 [(0, .long d), (2, .long v)] := hl
  refine lv_lload_n hx hb dX9_add_0 rfl (lv_at hl 0 rfl) ?_
  refine lv_ldc2 (v := 31) hx hb hown (hts (.constantLong RX9 347 31) (by decide +kernel)) dX9_add_1 ?_
  refine lv_lmul hx hb dX9_add_4 ?_
  refine lv_topl (fun x_1 ex_1 => ?_)
  obtain rfl : x_1 = (d * 31) := ex_1.trans rfl
  refine lv_lload_n hx hb dX9_add_5 rfl (lv_at hl 1 rfl) ?_
  refine lv_ladd hx hb dX9_add_6 ?_
  refine lv_topl (fun x_2 ex_2 => ?_)
  obtain rfl : x_2 = (d * 31 + v) := ex_2.trans rfl
  exact end_l (v := (d * 31 + v)) hx hb hr hlocks hP hD hK hS () rfl [] [] rfl (by decide) rfl (Nat.le_of_ble_eq_true rfl) (Nat.le_of_ble_eq_true rfl) dX9_add_7
set_option maxHeartbeats 4000000 in
set_option maxRecDepth 100000 in
/-- the reference: digest of a new object -/
theorem c_m_digest (l : Launch) (D : va_G) (e0 sz : Nat) (mm mk9 mt mb : Nat) : Kl (S := Unit) l yX9_digest wsX9_digest ({ frames := 5, cells := 54, slots := 333, locals := 98 } : Room) [.ref mm] D [(mm, .inr (11, [.int 0, .ref mk9, .ref mt, .ref mb, .int 0, .int 0, .int 0, .int 0, .null, .int 0, .int 0, .double 0, .int 0, .int 0, .int 0])), (mk9, .inr (1, [.int 0, .ref e0, .int 0])), (mt, .inr (1, [.int 0, .ref e0, .int 0])), (mb, .inr (1, [.int 0, .ref e0, .int 0]))] [] e0 sz (fun r _ => r = (-3127751602413055288)) (fun _ => [(mm, .inr (11, [.int 0, .ref mk9, .ref mt, .ref mb, .int 0, .int 0, .int 0, .int 0, .null, .int 0, .int 0, .double 0, .int 0, .int 0, .int 0]))]) (fun _ => []) 54 333 := by
  refine Met.ofW (cc := cX9_digest) (maxL := 7) (ret := (some .long)) (by decide) rfl ?_
  intro p e s m args below meth c s₁ B hml hv
  obtain ⟨rfl, hsz, hP, hK, hD0, hE⟩ := hv
  have hx := B.exec
  have hb := B.bytes
  have hr := B.returns
  have hts := atoms_spec (ws := wsX9_digest) B.pre
  have hown : s.vm.findClass RX9 = some m.cls := findClass_of_methodNamed B.named
  have hlocks := B.notSynchronized
  subst hsz
  have hD := hD0.self (sz := s.heap.size)
  generalize hAe : va_A [(mm, .inr (11, [.int 0, .ref mk9, .ref mt, .ref mb, .int 0, .int 0, .int 0, .int 0, .null, .int 0, .int 0, .double 0, .int 0, .int 0, .int 0])), (mk9, .inr (1, [.int 0, .ref e0, .int 0])), (mt, .inr (1, [.int 0, .ref e0, .int 0])), (mb, .inr (1, [.int 0, .ref e0, .int 0]))] s.heap.size = A at hD hE ⊢
  have hA : ∀ q : Nat, s.heap.size ≤ q → A q := fun q h => by rw [← hAe]; exact Or.inr h
  have hS : va_S A s.heap s.heap [] := va_S.rf
  have hP : va_P D vwCl [(mm, .inr (11, [.int 0, .ref mk9, .ref mt, .ref mb, .int 0, .int 0, .int 0, .int 0, .null, .int 0, .int 0, .double 0, .int 0, .int 0, .int 0])), (mk9, .inr (1, [.int 0, .ref e0, .int 0])), (mt, .inr (1, [.int 0, .ref e0, .int 0])), (mb, .inr (1, [.int 0, .ref e0, .int 0]))] s.heap := hP
  have hl := lv_entry ([.ref mm]) (n := 7) (Nat.le_of_ble_eq_true rfl)
  rw [lg_entry_eq]
  generalize (lg_sl ([.ref mm]) ++ List.replicate (7 - (lg_sl ([.ref mm])).length) Slot.unset).toArray = ls at hl ⊢
  have hl : lv_has ls 7 [(0, .ref mm)] := hl
  refine lv_aload_n hx hb dX9_digest_0 rfl (lv_at hl 0 rfl) ?_
  refine lv_iconst (v := 0) hx hb dX9_digest_1 (by decide) ?_
  refine va_put (D := D) (ci := 11) (v := .int 0) (ty := .int) (C := RX9) (T := TX9) (N := 15) hx hb hts (by decide +kernel) tyX9 tyX9_ok nmX9 hown hK hP hD hS 0 rfl rfl 0 (by decide) (hts (.fieldLink RX9 22 "PickCellModel" "thrown" "I") (by decide +kernel)) (fun _ h9 => h9) rfl (by decide +kernel) rfl rfl (Nat.le_of_ble_eq_true rfl) dX9_digest_2 (fun H locs hP hD hS => ?_)
  have hP : va_P D vwCl [(mm, .inr (11, [.int 0, .ref mk9, .ref mt, .ref mb, .int 0, .int 0, .int 0, .int 0, .null, .int 0, .int 0, .double 0, .int 0, .int 0, .int 0])), (mk9, .inr (1, [.int 0, .ref e0, .int 0])), (mt, .inr (1, [.int 0, .ref e0, .int 0])), (mb, .inr (1, [.int 0, .ref e0, .int 0]))] H := hP
  have hD : va_D A [(mm, .inr (11, [.int 0, .ref mk9, .ref mt, .ref mb, .int 0, .int 0, .int 0, .int 0, .null, .int 0, .int 0, .double 0, .int 0, .int 0, .int 0])), (mk9, .inr (1, [.int 0, .ref e0, .int 0])), (mt, .inr (1, [.int 0, .ref e0, .int 0])), (mb, .inr (1, [.int 0, .ref e0, .int 0]))] := hD
  refine lv_ldc2 (v := 9609) hx hb hown (hts (.constantLong RX9 349 9609) (by decide +kernel)) dX9_digest_5 ?_
  refine lv_lstore_n (lv' := [(1, .long 9609), (0, .ref mm)]) hx hb dX9_digest_8 rfl hl (by decide) rfl (fun ls hl => ?_)
  refine lv_iconst (v := 0) hx hb dX9_digest_9 (by decide) ?_
  refine lv_istore_n (lv' := [(3, .int 0), (1, .long 9609), (0, .ref mm)]) hx hb dX9_digest_10 rfl hl (by decide) rfl (fun ls hl => ?_)
  refine lv_iload_n hx hb dX9_digest_11 rfl (lv_at hl 0 rfl) ?_
  refine lv_bipush (v := 13) hx hb dX9_digest_12 (by decide) ?_
  refine lv_icmp_ge (tgt := 34) hx hb dX9_digest_14 (by decide) (fun h9 => absurd h9 (by decide)) (fun _ => ?_)
  refine lv_lload_n hx hb dX9_digest_17 rfl (lv_at hl 1 rfl) ?_
  refine lv_aload_n hx hb dX9_digest_18 rfl (lv_at hl 2 rfl) ?_
  refine lv_iload_n hx hb dX9_digest_19 rfl (lv_at hl 0 rfl) ?_
  refine kV_i (As := [.int 0]) (rest := [.long 9609]) (wr := []) ⟨hx, hb, hml, hown, hts⟩ (c_m_manyNow l D e0 _ mm mk9 mt mb 0 (by decide)) (cwV 1 hts gX9_digest_X9_manyNow rfl rfl rfl (by decide +kernel) ⟨Nat.le_of_ble_eq_true rfl, Nat.le_of_ble_eq_true rfl⟩) hP hD hK hS hA hE rfl [0, 1, 2, 3] [] [] rfl rfl (by decide) (by decide) (by decide) rfl 11 0 rfl rfl rfl rfl hl.1 (Nat.le_of_ble_eq_true rfl) dX9_digest_20 ⟨Nat.le_of_ble_eq_true rfl, Nat.le_of_ble_eq_true rfl⟩ (fun r_1 u9 H locs hw hP hD hK hS => ?_)
  have hw : r_1 = 0 := hw.trans (by decide)
  subst hw
  have hP : va_P D vwCl [(mm, .inr (11, [.int 0, .ref mk9, .ref mt, .ref mb, .int 0, .int 0, .int 0, .int 0, .null, .int 0, .int 0, .double 0, .int 0, .int 0, .int 0])), (mk9, .inr (1, [.int 0, .ref e0, .int 0])), (mt, .inr (1, [.int 0, .ref e0, .int 0])), (mb, .inr (1, [.int 0, .ref e0, .int 0]))] H := hP
  have hD : va_D A [(mm, .inr (11, [.int 0, .ref mk9, .ref mt, .ref mb, .int 0, .int 0, .int 0, .int 0, .null, .int 0, .int 0, .double 0, .int 0, .int 0, .int 0])), (mk9, .inr (1, [.int 0, .ref e0, .int 0])), (mt, .inr (1, [.int 0, .ref e0, .int 0])), (mb, .inr (1, [.int 0, .ref e0, .int 0]))] := hD
  have hK : va_K D vwCl [] s := hK
  refine lv_i2l (v := 0) hx hb dX9_digest_23 (by decide) ?_
  refine kS_l (As := [.long 9609, .long 0]) (rest := []) (wr := [(mm, .inr (11, [.int 0, .ref mk9, .ref mt, .ref mb, .int 0, .int 0, .int 0, .int 0, .null, .int 0, .int 0, .double 0, .int 0, .int 0, .int 0])), (mk9, .inr (1, [.int 0, .ref e0, .int 0])), (mt, .inr (1, [.int 0, .ref e0, .int 0])), (mb, .inr (1, [.int 0, .ref e0, .int 0]))]) ⟨hx, hb, hml, hown, hts⟩ (c_m_add l D e0 _ 9609 0) (va_cwS 2 hts gX9_digest_X9_add rfl rfl rfl (by decide +kernel) ⟨Nat.le_of_ble_eq_true rfl, Nat.le_of_ble_eq_true rfl⟩) hP hD hK hS hA hE rfl [] [0, 1, 2, 3] [] rfl rfl (by decide) (by decide) (by decide) rfl rfl hl.1 (Nat.le_of_ble_eq_true rfl) dX9_digest_24 ⟨Nat.le_of_ble_eq_true rfl, Nat.le_of_ble_eq_true rfl⟩ (fun r_2 u9 H locs hw hP hD hK hS => ?_)
  have hw : r_2 = 297879 := hw.trans (by decide +kernel)
  subst hw
  have hP : va_P D vwCl [(mm, .inr (11, [.int 0, .ref mk9, .ref mt, .ref mb, .int 0, .int 0, .int 0, .int 0, .null, .int 0, .int 0, .double 0, .int 0, .int 0, .int 0])), (mk9, .inr (1, [.int 0, .ref e0, .int 0])), (mt, .inr (1, [.int 0, .ref e0, .int 0])), (mb, .inr (1, [.int 0, .ref e0, .int 0]))] H := hP
  have hD : va_D A [(mm, .inr (11, [.int 0, .ref mk9, .ref mt, .ref mb, .int 0, .int 0, .int 0, .int 0, .null, .int 0, .int 0, .double 0, .int 0, .int 0, .int 0])), (mk9, .inr (1, [.int 0, .ref e0, .int 0])), (mt, .inr (1, [.int 0, .ref e0, .int 0])), (mb, .inr (1, [.int 0, .ref e0, .int 0]))] := hD
  have hK : va_K D vwCl [] s := hK
  refine lv_lstore_n (lv' := [(1, .long 297879), (3, .int 0), (0, .ref mm)]) hx hb dX9_digest_27 rfl hl (by decide) rfl (fun ls hl => ?_)
  refine lv_iinc (v := 1) (lv' := [(3, .int 1), (1, .long 297879), (0, .ref mm)]) hx hb dX9_digest_28 hl (k := 1) rfl (by decide) (by decide) rfl (fun ls hl => ?_)
  refine lv_goto (tgt := 11) hx hb dX9_digest_31 (by decide) ?_
  refine lv_iload_n hx hb dX9_digest_11 rfl (lv_at hl 0 rfl) ?_
  refine lv_bipush (v := 13) hx hb dX9_digest_12 (by decide) ?_
  refine lv_icmp_ge (tgt := 34) hx hb dX9_digest_14 (by decide) (fun h9 => absurd h9 (by decide)) (fun _ => ?_)
  refine lv_lload_n hx hb dX9_digest_17 rfl (lv_at hl 1 rfl) ?_
  refine lv_aload_n hx hb dX9_digest_18 rfl (lv_at hl 2 rfl) ?_
  refine lv_iload_n hx hb dX9_digest_19 rfl (lv_at hl 0 rfl) ?_
  refine kV_i (As := [.int 1]) (rest := [.long 297879]) (wr := []) ⟨hx, hb, hml, hown, hts⟩ (c_m_manyNow l D e0 _ mm mk9 mt mb 1 (by decide)) (cwV 1 hts gX9_digest_X9_manyNow rfl rfl rfl (by decide +kernel) ⟨Nat.le_of_ble_eq_true rfl, Nat.le_of_ble_eq_true rfl⟩) hP hD hK hS hA hE rfl [0, 1, 2, 3] [] [] rfl rfl (by decide) (by decide) (by decide) rfl 11 0 rfl rfl rfl rfl hl.1 (Nat.le_of_ble_eq_true rfl) dX9_digest_20 ⟨Nat.le_of_ble_eq_true rfl, Nat.le_of_ble_eq_true rfl⟩ (fun r_3 u9 H locs hw hP hD hK hS => ?_)
  have hw : r_3 = 0 := hw.trans (by decide)
  subst hw
  have hP : va_P D vwCl [(mm, .inr (11, [.int 0, .ref mk9, .ref mt, .ref mb, .int 0, .int 0, .int 0, .int 0, .null, .int 0, .int 0, .double 0, .int 0, .int 0, .int 0])), (mk9, .inr (1, [.int 0, .ref e0, .int 0])), (mt, .inr (1, [.int 0, .ref e0, .int 0])), (mb, .inr (1, [.int 0, .ref e0, .int 0]))] H := hP
  have hD : va_D A [(mm, .inr (11, [.int 0, .ref mk9, .ref mt, .ref mb, .int 0, .int 0, .int 0, .int 0, .null, .int 0, .int 0, .double 0, .int 0, .int 0, .int 0])), (mk9, .inr (1, [.int 0, .ref e0, .int 0])), (mt, .inr (1, [.int 0, .ref e0, .int 0])), (mb, .inr (1, [.int 0, .ref e0, .int 0]))] := hD
  have hK : va_K D vwCl [] s := hK
  refine lv_i2l (v := 0) hx hb dX9_digest_23 (by decide) ?_
  refine kS_l (As := [.long 297879, .long 0]) (rest := []) (wr := [(mm, .inr (11, [.int 0, .ref mk9, .ref mt, .ref mb, .int 0, .int 0, .int 0, .int 0, .null, .int 0, .int 0, .double 0, .int 0, .int 0, .int 0])), (mk9, .inr (1, [.int 0, .ref e0, .int 0])), (mt, .inr (1, [.int 0, .ref e0, .int 0])), (mb, .inr (1, [.int 0, .ref e0, .int 0]))]) ⟨hx, hb, hml, hown, hts⟩ (c_m_add l D e0 _ 297879 0) (va_cwS 2 hts gX9_digest_X9_add rfl rfl rfl (by decide +kernel) ⟨Nat.le_of_ble_eq_true rfl, Nat.le_of_ble_eq_true rfl⟩) hP hD hK hS hA hE rfl [] [0, 1, 2, 3] [] rfl rfl (by decide) (by decide) (by decide) rfl rfl hl.1 (Nat.le_of_ble_eq_true rfl) dX9_digest_24 ⟨Nat.le_of_ble_eq_true rfl, Nat.le_of_ble_eq_true rfl⟩ (fun r_4 u9 H locs hw hP hD hK hS => ?_)
  have hw : r_4 = 9234249 := hw.trans (by decide +kernel)
  subst hw
  have hP : va_P D vwCl [(mm, .inr (11, [.int 0, .ref mk9, .ref mt, .ref mb, .int 0, .int 0, .int 0, .int 0, .null, .int 0, .int 0, .double 0, .int 0, .int 0, .int 0])), (mk9, .inr (1, [.int 0, .ref e0, .int 0])), (mt, .inr (1, [.int 0, .ref e0, .int 0])), (mb, .inr (1, [.int 0, .ref e0, .int 0]))] H := hP
  have hD : va_D A [(mm, .inr (11, [.int 0, .ref mk9, .ref mt, .ref mb, .int 0, .int 0, .int 0, .int 0, .null, .int 0, .int 0, .double 0, .int 0, .int 0, .int 0])), (mk9, .inr (1, [.int 0, .ref e0, .int 0])), (mt, .inr (1, [.int 0, .ref e0, .int 0])), (mb, .inr (1, [.int 0, .ref e0, .int 0]))] := hD
  have hK : va_K D vwCl [] s := hK
  refine lv_lstore_n (lv' := [(1, .long 9234249), (3, .int 1), (0, .ref mm)]) hx hb dX9_digest_27 rfl hl (by decide) rfl (fun ls hl => ?_)
  refine lv_iinc (v := 2) (lv' := [(3, .int 2), (1, .long 9234249), (0, .ref mm)]) hx hb dX9_digest_28 hl (k := 1) rfl (by decide) (by decide) rfl (fun ls hl => ?_)
  refine lv_goto (tgt := 11) hx hb dX9_digest_31 (by decide) ?_
  refine lv_iload_n hx hb dX9_digest_11 rfl (lv_at hl 0 rfl) ?_
  refine lv_bipush (v := 13) hx hb dX9_digest_12 (by decide) ?_
  refine lv_icmp_ge (tgt := 34) hx hb dX9_digest_14 (by decide) (fun h9 => absurd h9 (by decide)) (fun _ => ?_)
  refine lv_lload_n hx hb dX9_digest_17 rfl (lv_at hl 1 rfl) ?_
  refine lv_aload_n hx hb dX9_digest_18 rfl (lv_at hl 2 rfl) ?_
  refine lv_iload_n hx hb dX9_digest_19 rfl (lv_at hl 0 rfl) ?_
  refine kV_i (As := [.int 2]) (rest := [.long 9234249]) (wr := []) ⟨hx, hb, hml, hown, hts⟩ (c_m_manyNow l D e0 _ mm mk9 mt mb 2 (by decide)) (cwV 1 hts gX9_digest_X9_manyNow rfl rfl rfl (by decide +kernel) ⟨Nat.le_of_ble_eq_true rfl, Nat.le_of_ble_eq_true rfl⟩) hP hD hK hS hA hE rfl [0, 1, 2, 3] [] [] rfl rfl (by decide) (by decide) (by decide) rfl 11 0 rfl rfl rfl rfl hl.1 (Nat.le_of_ble_eq_true rfl) dX9_digest_20 ⟨Nat.le_of_ble_eq_true rfl, Nat.le_of_ble_eq_true rfl⟩ (fun r_5 u9 H locs hw hP hD hK hS => ?_)
  have hw : r_5 = 0 := hw.trans (by decide)
  subst hw
  have hP : va_P D vwCl [(mm, .inr (11, [.int 0, .ref mk9, .ref mt, .ref mb, .int 0, .int 0, .int 0, .int 0, .null, .int 0, .int 0, .double 0, .int 0, .int 0, .int 0])), (mk9, .inr (1, [.int 0, .ref e0, .int 0])), (mt, .inr (1, [.int 0, .ref e0, .int 0])), (mb, .inr (1, [.int 0, .ref e0, .int 0]))] H := hP
  have hD : va_D A [(mm, .inr (11, [.int 0, .ref mk9, .ref mt, .ref mb, .int 0, .int 0, .int 0, .int 0, .null, .int 0, .int 0, .double 0, .int 0, .int 0, .int 0])), (mk9, .inr (1, [.int 0, .ref e0, .int 0])), (mt, .inr (1, [.int 0, .ref e0, .int 0])), (mb, .inr (1, [.int 0, .ref e0, .int 0]))] := hD
  have hK : va_K D vwCl [] s := hK
  refine lv_i2l (v := 0) hx hb dX9_digest_23 (by decide) ?_
  refine kS_l (As := [.long 9234249, .long 0]) (rest := []) (wr := [(mm, .inr (11, [.int 0, .ref mk9, .ref mt, .ref mb, .int 0, .int 0, .int 0, .int 0, .null, .int 0, .int 0, .double 0, .int 0, .int 0, .int 0])), (mk9, .inr (1, [.int 0, .ref e0, .int 0])), (mt, .inr (1, [.int 0, .ref e0, .int 0])), (mb, .inr (1, [.int 0, .ref e0, .int 0]))]) ⟨hx, hb, hml, hown, hts⟩ (c_m_add l D e0 _ 9234249 0) (va_cwS 2 hts gX9_digest_X9_add rfl rfl rfl (by decide +kernel) ⟨Nat.le_of_ble_eq_true rfl, Nat.le_of_ble_eq_true rfl⟩) hP hD hK hS hA hE rfl [] [0, 1, 2, 3] [] rfl rfl (by decide) (by decide) (by decide) rfl rfl hl.1 (Nat.le_of_ble_eq_true rfl) dX9_digest_24 ⟨Nat.le_of_ble_eq_true rfl, Nat.le_of_ble_eq_true rfl⟩ (fun r_6 u9 H locs hw hP hD hK hS => ?_)
  have hw : r_6 = 286261719 := hw.trans (by decide +kernel)
  subst hw
  have hP : va_P D vwCl [(mm, .inr (11, [.int 0, .ref mk9, .ref mt, .ref mb, .int 0, .int 0, .int 0, .int 0, .null, .int 0, .int 0, .double 0, .int 0, .int 0, .int 0])), (mk9, .inr (1, [.int 0, .ref e0, .int 0])), (mt, .inr (1, [.int 0, .ref e0, .int 0])), (mb, .inr (1, [.int 0, .ref e0, .int 0]))] H := hP
  have hD : va_D A [(mm, .inr (11, [.int 0, .ref mk9, .ref mt, .ref mb, .int 0, .int 0, .int 0, .int 0, .null, .int 0, .int 0, .double 0, .int 0, .int 0, .int 0])), (mk9, .inr (1, [.int 0, .ref e0, .int 0])), (mt, .inr (1, [.int 0, .ref e0, .int 0])), (mb, .inr (1, [.int 0, .ref e0, .int 0]))] := hD
  have hK : va_K D vwCl [] s := hK
  refine lv_lstore_n (lv' := [(1, .long 286261719), (3, .int 2), (0, .ref mm)]) hx hb dX9_digest_27 rfl hl (by decide) rfl (fun ls hl => ?_)
  refine lv_iinc (v := 3) (lv' := [(3, .int 3), (1, .long 286261719), (0, .ref mm)]) hx hb dX9_digest_28 hl (k := 1) rfl (by decide) (by decide) rfl (fun ls hl => ?_)
  refine lv_goto (tgt := 11) hx hb dX9_digest_31 (by decide) ?_
  refine lv_iload_n hx hb dX9_digest_11 rfl (lv_at hl 0 rfl) ?_
  refine lv_bipush (v := 13) hx hb dX9_digest_12 (by decide) ?_
  refine lv_icmp_ge (tgt := 34) hx hb dX9_digest_14 (by decide) (fun h9 => absurd h9 (by decide)) (fun _ => ?_)
  refine lv_lload_n hx hb dX9_digest_17 rfl (lv_at hl 1 rfl) ?_
  refine lv_aload_n hx hb dX9_digest_18 rfl (lv_at hl 2 rfl) ?_
  refine lv_iload_n hx hb dX9_digest_19 rfl (lv_at hl 0 rfl) ?_
  refine kV_i (As := [.int 3]) (rest := [.long 286261719]) (wr := []) ⟨hx, hb, hml, hown, hts⟩ (c_m_manyNow l D e0 _ mm mk9 mt mb 3 (by decide)) (cwV 1 hts gX9_digest_X9_manyNow rfl rfl rfl (by decide +kernel) ⟨Nat.le_of_ble_eq_true rfl, Nat.le_of_ble_eq_true rfl⟩) hP hD hK hS hA hE rfl [0, 1, 2, 3] [] [] rfl rfl (by decide) (by decide) (by decide) rfl 11 0 rfl rfl rfl rfl hl.1 (Nat.le_of_ble_eq_true rfl) dX9_digest_20 ⟨Nat.le_of_ble_eq_true rfl, Nat.le_of_ble_eq_true rfl⟩ (fun r_7 u9 H locs hw hP hD hK hS => ?_)
  have hw : r_7 = 0 := hw.trans (by decide)
  subst hw
  have hP : va_P D vwCl [(mm, .inr (11, [.int 0, .ref mk9, .ref mt, .ref mb, .int 0, .int 0, .int 0, .int 0, .null, .int 0, .int 0, .double 0, .int 0, .int 0, .int 0])), (mk9, .inr (1, [.int 0, .ref e0, .int 0])), (mt, .inr (1, [.int 0, .ref e0, .int 0])), (mb, .inr (1, [.int 0, .ref e0, .int 0]))] H := hP
  have hD : va_D A [(mm, .inr (11, [.int 0, .ref mk9, .ref mt, .ref mb, .int 0, .int 0, .int 0, .int 0, .null, .int 0, .int 0, .double 0, .int 0, .int 0, .int 0])), (mk9, .inr (1, [.int 0, .ref e0, .int 0])), (mt, .inr (1, [.int 0, .ref e0, .int 0])), (mb, .inr (1, [.int 0, .ref e0, .int 0]))] := hD
  have hK : va_K D vwCl [] s := hK
  refine lv_i2l (v := 0) hx hb dX9_digest_23 (by decide) ?_
  refine kS_l (As := [.long 286261719, .long 0]) (rest := []) (wr := [(mm, .inr (11, [.int 0, .ref mk9, .ref mt, .ref mb, .int 0, .int 0, .int 0, .int 0, .null, .int 0, .int 0, .double 0, .int 0, .int 0, .int 0])), (mk9, .inr (1, [.int 0, .ref e0, .int 0])), (mt, .inr (1, [.int 0, .ref e0, .int 0])), (mb, .inr (1, [.int 0, .ref e0, .int 0]))]) ⟨hx, hb, hml, hown, hts⟩ (c_m_add l D e0 _ 286261719 0) (va_cwS 2 hts gX9_digest_X9_add rfl rfl rfl (by decide +kernel) ⟨Nat.le_of_ble_eq_true rfl, Nat.le_of_ble_eq_true rfl⟩) hP hD hK hS hA hE rfl [] [0, 1, 2, 3] [] rfl rfl (by decide) (by decide) (by decide) rfl rfl hl.1 (Nat.le_of_ble_eq_true rfl) dX9_digest_24 ⟨Nat.le_of_ble_eq_true rfl, Nat.le_of_ble_eq_true rfl⟩ (fun r_8 u9 H locs hw hP hD hK hS => ?_)
  have hw : r_8 = 8874113289 := hw.trans (by decide +kernel)
  subst hw
  have hP : va_P D vwCl [(mm, .inr (11, [.int 0, .ref mk9, .ref mt, .ref mb, .int 0, .int 0, .int 0, .int 0, .null, .int 0, .int 0, .double 0, .int 0, .int 0, .int 0])), (mk9, .inr (1, [.int 0, .ref e0, .int 0])), (mt, .inr (1, [.int 0, .ref e0, .int 0])), (mb, .inr (1, [.int 0, .ref e0, .int 0]))] H := hP
  have hD : va_D A [(mm, .inr (11, [.int 0, .ref mk9, .ref mt, .ref mb, .int 0, .int 0, .int 0, .int 0, .null, .int 0, .int 0, .double 0, .int 0, .int 0, .int 0])), (mk9, .inr (1, [.int 0, .ref e0, .int 0])), (mt, .inr (1, [.int 0, .ref e0, .int 0])), (mb, .inr (1, [.int 0, .ref e0, .int 0]))] := hD
  have hK : va_K D vwCl [] s := hK
  refine lv_lstore_n (lv' := [(1, .long 8874113289), (3, .int 3), (0, .ref mm)]) hx hb dX9_digest_27 rfl hl (by decide) rfl (fun ls hl => ?_)
  refine lv_iinc (v := 4) (lv' := [(3, .int 4), (1, .long 8874113289), (0, .ref mm)]) hx hb dX9_digest_28 hl (k := 1) rfl (by decide) (by decide) rfl (fun ls hl => ?_)
  refine lv_goto (tgt := 11) hx hb dX9_digest_31 (by decide) ?_
  refine lv_iload_n hx hb dX9_digest_11 rfl (lv_at hl 0 rfl) ?_
  refine lv_bipush (v := 13) hx hb dX9_digest_12 (by decide) ?_
  refine lv_icmp_ge (tgt := 34) hx hb dX9_digest_14 (by decide) (fun h9 => absurd h9 (by decide)) (fun _ => ?_)
  refine lv_lload_n hx hb dX9_digest_17 rfl (lv_at hl 1 rfl) ?_
  refine lv_aload_n hx hb dX9_digest_18 rfl (lv_at hl 2 rfl) ?_
  refine lv_iload_n hx hb dX9_digest_19 rfl (lv_at hl 0 rfl) ?_
  refine kV_i (As := [.int 4]) (rest := [.long 8874113289]) (wr := []) ⟨hx, hb, hml, hown, hts⟩ (c_m_manyNow l D e0 _ mm mk9 mt mb 4 (by decide)) (cwV 1 hts gX9_digest_X9_manyNow rfl rfl rfl (by decide +kernel) ⟨Nat.le_of_ble_eq_true rfl, Nat.le_of_ble_eq_true rfl⟩) hP hD hK hS hA hE rfl [0, 1, 2, 3] [] [] rfl rfl (by decide) (by decide) (by decide) rfl 11 0 rfl rfl rfl rfl hl.1 (Nat.le_of_ble_eq_true rfl) dX9_digest_20 ⟨Nat.le_of_ble_eq_true rfl, Nat.le_of_ble_eq_true rfl⟩ (fun r_9 u9 H locs hw hP hD hK hS => ?_)
  have hw : r_9 = 0 := hw.trans (by decide)
  subst hw
  have hP : va_P D vwCl [(mm, .inr (11, [.int 0, .ref mk9, .ref mt, .ref mb, .int 0, .int 0, .int 0, .int 0, .null, .int 0, .int 0, .double 0, .int 0, .int 0, .int 0])), (mk9, .inr (1, [.int 0, .ref e0, .int 0])), (mt, .inr (1, [.int 0, .ref e0, .int 0])), (mb, .inr (1, [.int 0, .ref e0, .int 0]))] H := hP
  have hD : va_D A [(mm, .inr (11, [.int 0, .ref mk9, .ref mt, .ref mb, .int 0, .int 0, .int 0, .int 0, .null, .int 0, .int 0, .double 0, .int 0, .int 0, .int 0])), (mk9, .inr (1, [.int 0, .ref e0, .int 0])), (mt, .inr (1, [.int 0, .ref e0, .int 0])), (mb, .inr (1, [.int 0, .ref e0, .int 0]))] := hD
  have hK : va_K D vwCl [] s := hK
  refine lv_i2l (v := 0) hx hb dX9_digest_23 (by decide) ?_
  refine kS_l (As := [.long 8874113289, .long 0]) (rest := []) (wr := [(mm, .inr (11, [.int 0, .ref mk9, .ref mt, .ref mb, .int 0, .int 0, .int 0, .int 0, .null, .int 0, .int 0, .double 0, .int 0, .int 0, .int 0])), (mk9, .inr (1, [.int 0, .ref e0, .int 0])), (mt, .inr (1, [.int 0, .ref e0, .int 0])), (mb, .inr (1, [.int 0, .ref e0, .int 0]))]) ⟨hx, hb, hml, hown, hts⟩ (c_m_add l D e0 _ 8874113289 0) (va_cwS 2 hts gX9_digest_X9_add rfl rfl rfl (by decide +kernel) ⟨Nat.le_of_ble_eq_true rfl, Nat.le_of_ble_eq_true rfl⟩) hP hD hK hS hA hE rfl [] [0, 1, 2, 3] [] rfl rfl (by decide) (by decide) (by decide) rfl rfl hl.1 (Nat.le_of_ble_eq_true rfl) dX9_digest_24 ⟨Nat.le_of_ble_eq_true rfl, Nat.le_of_ble_eq_true rfl⟩ (fun r_10 u9 H locs hw hP hD hK hS => ?_)
  have hw : r_10 = 275097511959 := hw.trans (by decide +kernel)
  subst hw
  have hP : va_P D vwCl [(mm, .inr (11, [.int 0, .ref mk9, .ref mt, .ref mb, .int 0, .int 0, .int 0, .int 0, .null, .int 0, .int 0, .double 0, .int 0, .int 0, .int 0])), (mk9, .inr (1, [.int 0, .ref e0, .int 0])), (mt, .inr (1, [.int 0, .ref e0, .int 0])), (mb, .inr (1, [.int 0, .ref e0, .int 0]))] H := hP
  have hD : va_D A [(mm, .inr (11, [.int 0, .ref mk9, .ref mt, .ref mb, .int 0, .int 0, .int 0, .int 0, .null, .int 0, .int 0, .double 0, .int 0, .int 0, .int 0])), (mk9, .inr (1, [.int 0, .ref e0, .int 0])), (mt, .inr (1, [.int 0, .ref e0, .int 0])), (mb, .inr (1, [.int 0, .ref e0, .int 0]))] := hD
  have hK : va_K D vwCl [] s := hK
  refine lv_lstore_n (lv' := [(1, .long 275097511959), (3, .int 4), (0, .ref mm)]) hx hb dX9_digest_27 rfl hl (by decide) rfl (fun ls hl => ?_)
  refine lv_iinc (v := 5) (lv' := [(3, .int 5), (1, .long 275097511959), (0, .ref mm)]) hx hb dX9_digest_28 hl (k := 1) rfl (by decide) (by decide) rfl (fun ls hl => ?_)
  refine lv_goto (tgt := 11) hx hb dX9_digest_31 (by decide) ?_
  refine lv_iload_n hx hb dX9_digest_11 rfl (lv_at hl 0 rfl) ?_
  refine lv_bipush (v := 13) hx hb dX9_digest_12 (by decide) ?_
  refine lv_icmp_ge (tgt := 34) hx hb dX9_digest_14 (by decide) (fun h9 => absurd h9 (by decide)) (fun _ => ?_)
  refine lv_lload_n hx hb dX9_digest_17 rfl (lv_at hl 1 rfl) ?_
  refine lv_aload_n hx hb dX9_digest_18 rfl (lv_at hl 2 rfl) ?_
  refine lv_iload_n hx hb dX9_digest_19 rfl (lv_at hl 0 rfl) ?_
  refine kV_i (As := [.int 5]) (rest := [.long 275097511959]) (wr := []) ⟨hx, hb, hml, hown, hts⟩ (c_m_manyNow l D e0 _ mm mk9 mt mb 5 (by decide)) (cwV 1 hts gX9_digest_X9_manyNow rfl rfl rfl (by decide +kernel) ⟨Nat.le_of_ble_eq_true rfl, Nat.le_of_ble_eq_true rfl⟩) hP hD hK hS hA hE rfl [0, 1, 2, 3] [] [] rfl rfl (by decide) (by decide) (by decide) rfl 11 0 rfl rfl rfl rfl hl.1 (Nat.le_of_ble_eq_true rfl) dX9_digest_20 ⟨Nat.le_of_ble_eq_true rfl, Nat.le_of_ble_eq_true rfl⟩ (fun r_11 u9 H locs hw hP hD hK hS => ?_)
  have hw : r_11 = (-1) := hw.trans (by decide)
  subst hw
  have hP : va_P D vwCl [(mm, .inr (11, [.int 0, .ref mk9, .ref mt, .ref mb, .int 0, .int 0, .int 0, .int 0, .null, .int 0, .int 0, .double 0, .int 0, .int 0, .int 0])), (mk9, .inr (1, [.int 0, .ref e0, .int 0])), (mt, .inr (1, [.int 0, .ref e0, .int 0])), (mb, .inr (1, [.int 0, .ref e0, .int 0]))] H := hP
  have hD : va_D A [(mm, .inr (11, [.int 0, .ref mk9, .ref mt, .ref mb, .int 0, .int 0, .int 0, .int 0, .null, .int 0, .int 0, .double 0, .int 0, .int 0, .int 0])), (mk9, .inr (1, [.int 0, .ref e0, .int 0])), (mt, .inr (1, [.int 0, .ref e0, .int 0])), (mb, .inr (1, [.int 0, .ref e0, .int 0]))] := hD
  have hK : va_K D vwCl [] s := hK
  refine lv_i2l (v := (-1)) hx hb dX9_digest_23 (by decide) ?_
  refine kS_l (As := [.long 275097511959, .long (-1)]) (rest := []) (wr := [(mm, .inr (11, [.int 0, .ref mk9, .ref mt, .ref mb, .int 0, .int 0, .int 0, .int 0, .null, .int 0, .int 0, .double 0, .int 0, .int 0, .int 0])), (mk9, .inr (1, [.int 0, .ref e0, .int 0])), (mt, .inr (1, [.int 0, .ref e0, .int 0])), (mb, .inr (1, [.int 0, .ref e0, .int 0]))]) ⟨hx, hb, hml, hown, hts⟩ (c_m_add l D e0 _ 275097511959 (-1)) (va_cwS 2 hts gX9_digest_X9_add rfl rfl rfl (by decide +kernel) ⟨Nat.le_of_ble_eq_true rfl, Nat.le_of_ble_eq_true rfl⟩) hP hD hK hS hA hE rfl [] [0, 1, 2, 3] [] rfl rfl (by decide) (by decide) (by decide) rfl rfl hl.1 (Nat.le_of_ble_eq_true rfl) dX9_digest_24 ⟨Nat.le_of_ble_eq_true rfl, Nat.le_of_ble_eq_true rfl⟩ (fun r_12 u9 H locs hw hP hD hK hS => ?_)
  have hw : r_12 = 8528022870728 := hw.trans (by decide +kernel)
  subst hw
  have hP : va_P D vwCl [(mm, .inr (11, [.int 0, .ref mk9, .ref mt, .ref mb, .int 0, .int 0, .int 0, .int 0, .null, .int 0, .int 0, .double 0, .int 0, .int 0, .int 0])), (mk9, .inr (1, [.int 0, .ref e0, .int 0])), (mt, .inr (1, [.int 0, .ref e0, .int 0])), (mb, .inr (1, [.int 0, .ref e0, .int 0]))] H := hP
  have hD : va_D A [(mm, .inr (11, [.int 0, .ref mk9, .ref mt, .ref mb, .int 0, .int 0, .int 0, .int 0, .null, .int 0, .int 0, .double 0, .int 0, .int 0, .int 0])), (mk9, .inr (1, [.int 0, .ref e0, .int 0])), (mt, .inr (1, [.int 0, .ref e0, .int 0])), (mb, .inr (1, [.int 0, .ref e0, .int 0]))] := hD
  have hK : va_K D vwCl [] s := hK
  refine lv_lstore_n (lv' := [(1, .long 8528022870728), (3, .int 5), (0, .ref mm)]) hx hb dX9_digest_27 rfl hl (by decide) rfl (fun ls hl => ?_)
  refine lv_iinc (v := 6) (lv' := [(3, .int 6), (1, .long 8528022870728), (0, .ref mm)]) hx hb dX9_digest_28 hl (k := 1) rfl (by decide) (by decide) rfl (fun ls hl => ?_)
  refine lv_goto (tgt := 11) hx hb dX9_digest_31 (by decide) ?_
  refine lv_iload_n hx hb dX9_digest_11 rfl (lv_at hl 0 rfl) ?_
  refine lv_bipush (v := 13) hx hb dX9_digest_12 (by decide) ?_
  refine lv_icmp_ge (tgt := 34) hx hb dX9_digest_14 (by decide) (fun h9 => absurd h9 (by decide)) (fun _ => ?_)
  refine lv_lload_n hx hb dX9_digest_17 rfl (lv_at hl 1 rfl) ?_
  refine lv_aload_n hx hb dX9_digest_18 rfl (lv_at hl 2 rfl) ?_
  refine lv_iload_n hx hb dX9_digest_19 rfl (lv_at hl 0 rfl) ?_
  refine kV_i (As := [.int 6]) (rest := [.long 8528022870728]) (wr := []) ⟨hx, hb, hml, hown, hts⟩ (c_m_manyNow l D e0 _ mm mk9 mt mb 6 (by decide)) (cwV 1 hts gX9_digest_X9_manyNow rfl rfl rfl (by decide +kernel) ⟨Nat.le_of_ble_eq_true rfl, Nat.le_of_ble_eq_true rfl⟩) hP hD hK hS hA hE rfl [0, 1, 2, 3] [] [] rfl rfl (by decide) (by decide) (by decide) rfl 11 0 rfl rfl rfl rfl hl.1 (Nat.le_of_ble_eq_true rfl) dX9_digest_20 ⟨Nat.le_of_ble_eq_true rfl, Nat.le_of_ble_eq_true rfl⟩ (fun r_13 u9 H locs hw hP hD hK hS => ?_)
  have hw : r_13 = 0 := hw.trans (by decide)
  subst hw
  have hP : va_P D vwCl [(mm, .inr (11, [.int 0, .ref mk9, .ref mt, .ref mb, .int 0, .int 0, .int 0, .int 0, .null, .int 0, .int 0, .double 0, .int 0, .int 0, .int 0])), (mk9, .inr (1, [.int 0, .ref e0, .int 0])), (mt, .inr (1, [.int 0, .ref e0, .int 0])), (mb, .inr (1, [.int 0, .ref e0, .int 0]))] H := hP
  have hD : va_D A [(mm, .inr (11, [.int 0, .ref mk9, .ref mt, .ref mb, .int 0, .int 0, .int 0, .int 0, .null, .int 0, .int 0, .double 0, .int 0, .int 0, .int 0])), (mk9, .inr (1, [.int 0, .ref e0, .int 0])), (mt, .inr (1, [.int 0, .ref e0, .int 0])), (mb, .inr (1, [.int 0, .ref e0, .int 0]))] := hD
  have hK : va_K D vwCl [] s := hK
  refine lv_i2l (v := 0) hx hb dX9_digest_23 (by decide) ?_
  refine kS_l (As := [.long 8528022870728, .long 0]) (rest := []) (wr := [(mm, .inr (11, [.int 0, .ref mk9, .ref mt, .ref mb, .int 0, .int 0, .int 0, .int 0, .null, .int 0, .int 0, .double 0, .int 0, .int 0, .int 0])), (mk9, .inr (1, [.int 0, .ref e0, .int 0])), (mt, .inr (1, [.int 0, .ref e0, .int 0])), (mb, .inr (1, [.int 0, .ref e0, .int 0]))]) ⟨hx, hb, hml, hown, hts⟩ (c_m_add l D e0 _ 8528022870728 0) (va_cwS 2 hts gX9_digest_X9_add rfl rfl rfl (by decide +kernel) ⟨Nat.le_of_ble_eq_true rfl, Nat.le_of_ble_eq_true rfl⟩) hP hD hK hS hA hE rfl [] [0, 1, 2, 3] [] rfl rfl (by decide) (by decide) (by decide) rfl rfl hl.1 (Nat.le_of_ble_eq_true rfl) dX9_digest_24 ⟨Nat.le_of_ble_eq_true rfl, Nat.le_of_ble_eq_true rfl⟩ (fun r_14 u9 H locs hw hP hD hK hS => ?_)
  have hw : r_14 = 264368708992568 := hw.trans (by decide +kernel)
  subst hw
  have hP : va_P D vwCl [(mm, .inr (11, [.int 0, .ref mk9, .ref mt, .ref mb, .int 0, .int 0, .int 0, .int 0, .null, .int 0, .int 0, .double 0, .int 0, .int 0, .int 0])), (mk9, .inr (1, [.int 0, .ref e0, .int 0])), (mt, .inr (1, [.int 0, .ref e0, .int 0])), (mb, .inr (1, [.int 0, .ref e0, .int 0]))] H := hP
  have hD : va_D A [(mm, .inr (11, [.int 0, .ref mk9, .ref mt, .ref mb, .int 0, .int 0, .int 0, .int 0, .null, .int 0, .int 0, .double 0, .int 0, .int 0, .int 0])), (mk9, .inr (1, [.int 0, .ref e0, .int 0])), (mt, .inr (1, [.int 0, .ref e0, .int 0])), (mb, .inr (1, [.int 0, .ref e0, .int 0]))] := hD
  have hK : va_K D vwCl [] s := hK
  refine lv_lstore_n (lv' := [(1, .long 264368708992568), (3, .int 6), (0, .ref mm)]) hx hb dX9_digest_27 rfl hl (by decide) rfl (fun ls hl => ?_)
  refine lv_iinc (v := 7) (lv' := [(3, .int 7), (1, .long 264368708992568), (0, .ref mm)]) hx hb dX9_digest_28 hl (k := 1) rfl (by decide) (by decide) rfl (fun ls hl => ?_)
  refine lv_goto (tgt := 11) hx hb dX9_digest_31 (by decide) ?_
  refine lv_iload_n hx hb dX9_digest_11 rfl (lv_at hl 0 rfl) ?_
  refine lv_bipush (v := 13) hx hb dX9_digest_12 (by decide) ?_
  refine lv_icmp_ge (tgt := 34) hx hb dX9_digest_14 (by decide) (fun h9 => absurd h9 (by decide)) (fun _ => ?_)
  refine lv_lload_n hx hb dX9_digest_17 rfl (lv_at hl 1 rfl) ?_
  refine lv_aload_n hx hb dX9_digest_18 rfl (lv_at hl 2 rfl) ?_
  refine lv_iload_n hx hb dX9_digest_19 rfl (lv_at hl 0 rfl) ?_
  refine kV_i (As := [.int 7]) (rest := [.long 264368708992568]) (wr := []) ⟨hx, hb, hml, hown, hts⟩ (c_m_manyNow l D e0 _ mm mk9 mt mb 7 (by decide)) (cwV 1 hts gX9_digest_X9_manyNow rfl rfl rfl (by decide +kernel) ⟨Nat.le_of_ble_eq_true rfl, Nat.le_of_ble_eq_true rfl⟩) hP hD hK hS hA hE rfl [0, 1, 2, 3] [] [] rfl rfl (by decide) (by decide) (by decide) rfl 11 0 rfl rfl rfl rfl hl.1 (Nat.le_of_ble_eq_true rfl) dX9_digest_20 ⟨Nat.le_of_ble_eq_true rfl, Nat.le_of_ble_eq_true rfl⟩ (fun r_15 u9 H locs hw hP hD hK hS => ?_)
  have hw : r_15 = 0 := hw.trans (by decide)
  subst hw
  have hP : va_P D vwCl [(mm, .inr (11, [.int 0, .ref mk9, .ref mt, .ref mb, .int 0, .int 0, .int 0, .int 0, .null, .int 0, .int 0, .double 0, .int 0, .int 0, .int 0])), (mk9, .inr (1, [.int 0, .ref e0, .int 0])), (mt, .inr (1, [.int 0, .ref e0, .int 0])), (mb, .inr (1, [.int 0, .ref e0, .int 0]))] H := hP
  have hD : va_D A [(mm, .inr (11, [.int 0, .ref mk9, .ref mt, .ref mb, .int 0, .int 0, .int 0, .int 0, .null, .int 0, .int 0, .double 0, .int 0, .int 0, .int 0])), (mk9, .inr (1, [.int 0, .ref e0, .int 0])), (mt, .inr (1, [.int 0, .ref e0, .int 0])), (mb, .inr (1, [.int 0, .ref e0, .int 0]))] := hD
  have hK : va_K D vwCl [] s := hK
  refine lv_i2l (v := 0) hx hb dX9_digest_23 (by decide) ?_
  refine kS_l (As := [.long 264368708992568, .long 0]) (rest := []) (wr := [(mm, .inr (11, [.int 0, .ref mk9, .ref mt, .ref mb, .int 0, .int 0, .int 0, .int 0, .null, .int 0, .int 0, .double 0, .int 0, .int 0, .int 0])), (mk9, .inr (1, [.int 0, .ref e0, .int 0])), (mt, .inr (1, [.int 0, .ref e0, .int 0])), (mb, .inr (1, [.int 0, .ref e0, .int 0]))]) ⟨hx, hb, hml, hown, hts⟩ (c_m_add l D e0 _ 264368708992568 0) (va_cwS 2 hts gX9_digest_X9_add rfl rfl rfl (by decide +kernel) ⟨Nat.le_of_ble_eq_true rfl, Nat.le_of_ble_eq_true rfl⟩) hP hD hK hS hA hE rfl [] [0, 1, 2, 3] [] rfl rfl (by decide) (by decide) (by decide) rfl rfl hl.1 (Nat.le_of_ble_eq_true rfl) dX9_digest_24 ⟨Nat.le_of_ble_eq_true rfl, Nat.le_of_ble_eq_true rfl⟩ (fun r_16 u9 H locs hw hP hD hK hS => ?_)
  have hw : r_16 = 8195429978769608 := hw.trans (by decide +kernel)
  subst hw
  have hP : va_P D vwCl [(mm, .inr (11, [.int 0, .ref mk9, .ref mt, .ref mb, .int 0, .int 0, .int 0, .int 0, .null, .int 0, .int 0, .double 0, .int 0, .int 0, .int 0])), (mk9, .inr (1, [.int 0, .ref e0, .int 0])), (mt, .inr (1, [.int 0, .ref e0, .int 0])), (mb, .inr (1, [.int 0, .ref e0, .int 0]))] H := hP
  have hD : va_D A [(mm, .inr (11, [.int 0, .ref mk9, .ref mt, .ref mb, .int 0, .int 0, .int 0, .int 0, .null, .int 0, .int 0, .double 0, .int 0, .int 0, .int 0])), (mk9, .inr (1, [.int 0, .ref e0, .int 0])), (mt, .inr (1, [.int 0, .ref e0, .int 0])), (mb, .inr (1, [.int 0, .ref e0, .int 0]))] := hD
  have hK : va_K D vwCl [] s := hK
  refine lv_lstore_n (lv' := [(1, .long 8195429978769608), (3, .int 7), (0, .ref mm)]) hx hb dX9_digest_27 rfl hl (by decide) rfl (fun ls hl => ?_)
  refine lv_iinc (v := 8) (lv' := [(3, .int 8), (1, .long 8195429978769608), (0, .ref mm)]) hx hb dX9_digest_28 hl (k := 1) rfl (by decide) (by decide) rfl (fun ls hl => ?_)
  refine lv_goto (tgt := 11) hx hb dX9_digest_31 (by decide) ?_
  refine lv_iload_n hx hb dX9_digest_11 rfl (lv_at hl 0 rfl) ?_
  refine lv_bipush (v := 13) hx hb dX9_digest_12 (by decide) ?_
  refine lv_icmp_ge (tgt := 34) hx hb dX9_digest_14 (by decide) (fun h9 => absurd h9 (by decide)) (fun _ => ?_)
  refine lv_lload_n hx hb dX9_digest_17 rfl (lv_at hl 1 rfl) ?_
  refine lv_aload_n hx hb dX9_digest_18 rfl (lv_at hl 2 rfl) ?_
  refine lv_iload_n hx hb dX9_digest_19 rfl (lv_at hl 0 rfl) ?_
  refine kV_i (As := [.int 8]) (rest := [.long 8195429978769608]) (wr := []) ⟨hx, hb, hml, hown, hts⟩ (c_m_manyNow l D e0 _ mm mk9 mt mb 8 (by decide)) (cwV 1 hts gX9_digest_X9_manyNow rfl rfl rfl (by decide +kernel) ⟨Nat.le_of_ble_eq_true rfl, Nat.le_of_ble_eq_true rfl⟩) hP hD hK hS hA hE rfl [0, 1, 2, 3] [] [] rfl rfl (by decide) (by decide) (by decide) rfl 11 0 rfl rfl rfl rfl hl.1 (Nat.le_of_ble_eq_true rfl) dX9_digest_20 ⟨Nat.le_of_ble_eq_true rfl, Nat.le_of_ble_eq_true rfl⟩ (fun r_17 u9 H locs hw hP hD hK hS => ?_)
  have hw : r_17 = 0 := hw.trans (by decide)
  subst hw
  have hP : va_P D vwCl [(mm, .inr (11, [.int 0, .ref mk9, .ref mt, .ref mb, .int 0, .int 0, .int 0, .int 0, .null, .int 0, .int 0, .double 0, .int 0, .int 0, .int 0])), (mk9, .inr (1, [.int 0, .ref e0, .int 0])), (mt, .inr (1, [.int 0, .ref e0, .int 0])), (mb, .inr (1, [.int 0, .ref e0, .int 0]))] H := hP
  have hD : va_D A [(mm, .inr (11, [.int 0, .ref mk9, .ref mt, .ref mb, .int 0, .int 0, .int 0, .int 0, .null, .int 0, .int 0, .double 0, .int 0, .int 0, .int 0])), (mk9, .inr (1, [.int 0, .ref e0, .int 0])), (mt, .inr (1, [.int 0, .ref e0, .int 0])), (mb, .inr (1, [.int 0, .ref e0, .int 0]))] := hD
  have hK : va_K D vwCl [] s := hK
  refine lv_i2l (v := 0) hx hb dX9_digest_23 (by decide) ?_
  refine kS_l (As := [.long 8195429978769608, .long 0]) (rest := []) (wr := [(mm, .inr (11, [.int 0, .ref mk9, .ref mt, .ref mb, .int 0, .int 0, .int 0, .int 0, .null, .int 0, .int 0, .double 0, .int 0, .int 0, .int 0])), (mk9, .inr (1, [.int 0, .ref e0, .int 0])), (mt, .inr (1, [.int 0, .ref e0, .int 0])), (mb, .inr (1, [.int 0, .ref e0, .int 0]))]) ⟨hx, hb, hml, hown, hts⟩ (c_m_add l D e0 _ 8195429978769608 0) (va_cwS 2 hts gX9_digest_X9_add rfl rfl rfl (by decide +kernel) ⟨Nat.le_of_ble_eq_true rfl, Nat.le_of_ble_eq_true rfl⟩) hP hD hK hS hA hE rfl [] [0, 1, 2, 3] [] rfl rfl (by decide) (by decide) (by decide) rfl rfl hl.1 (Nat.le_of_ble_eq_true rfl) dX9_digest_24 ⟨Nat.le_of_ble_eq_true rfl, Nat.le_of_ble_eq_true rfl⟩ (fun r_18 u9 H locs hw hP hD hK hS => ?_)
  have hw : r_18 = 254058329341857848 := hw.trans (by decide +kernel)
  subst hw
  have hP : va_P D vwCl [(mm, .inr (11, [.int 0, .ref mk9, .ref mt, .ref mb, .int 0, .int 0, .int 0, .int 0, .null, .int 0, .int 0, .double 0, .int 0, .int 0, .int 0])), (mk9, .inr (1, [.int 0, .ref e0, .int 0])), (mt, .inr (1, [.int 0, .ref e0, .int 0])), (mb, .inr (1, [.int 0, .ref e0, .int 0]))] H := hP
  have hD : va_D A [(mm, .inr (11, [.int 0, .ref mk9, .ref mt, .ref mb, .int 0, .int 0, .int 0, .int 0, .null, .int 0, .int 0, .double 0, .int 0, .int 0, .int 0])), (mk9, .inr (1, [.int 0, .ref e0, .int 0])), (mt, .inr (1, [.int 0, .ref e0, .int 0])), (mb, .inr (1, [.int 0, .ref e0, .int 0]))] := hD
  have hK : va_K D vwCl [] s := hK
  refine lv_lstore_n (lv' := [(1, .long 254058329341857848), (3, .int 8), (0, .ref mm)]) hx hb dX9_digest_27 rfl hl (by decide) rfl (fun ls hl => ?_)
  refine lv_iinc (v := 9) (lv' := [(3, .int 9), (1, .long 254058329341857848), (0, .ref mm)]) hx hb dX9_digest_28 hl (k := 1) rfl (by decide) (by decide) rfl (fun ls hl => ?_)
  refine lv_goto (tgt := 11) hx hb dX9_digest_31 (by decide) ?_
  refine lv_iload_n hx hb dX9_digest_11 rfl (lv_at hl 0 rfl) ?_
  refine lv_bipush (v := 13) hx hb dX9_digest_12 (by decide) ?_
  refine lv_icmp_ge (tgt := 34) hx hb dX9_digest_14 (by decide) (fun h9 => absurd h9 (by decide)) (fun _ => ?_)
  refine lv_lload_n hx hb dX9_digest_17 rfl (lv_at hl 1 rfl) ?_
  refine lv_aload_n hx hb dX9_digest_18 rfl (lv_at hl 2 rfl) ?_
  refine lv_iload_n hx hb dX9_digest_19 rfl (lv_at hl 0 rfl) ?_
  refine kV_i (As := [.int 9]) (rest := [.long 254058329341857848]) (wr := []) ⟨hx, hb, hml, hown, hts⟩ (c_m_manyNow l D e0 _ mm mk9 mt mb 9 (by decide)) (cwV 1 hts gX9_digest_X9_manyNow rfl rfl rfl (by decide +kernel) ⟨Nat.le_of_ble_eq_true rfl, Nat.le_of_ble_eq_true rfl⟩) hP hD hK hS hA hE rfl [0, 1, 2, 3] [] [] rfl rfl (by decide) (by decide) (by decide) rfl 11 0 rfl rfl rfl rfl hl.1 (Nat.le_of_ble_eq_true rfl) dX9_digest_20 ⟨Nat.le_of_ble_eq_true rfl, Nat.le_of_ble_eq_true rfl⟩ (fun r_19 u9 H locs hw hP hD hK hS => ?_)
  have hw : r_19 = 0 := hw.trans (by decide)
  subst hw
  have hP : va_P D vwCl [(mm, .inr (11, [.int 0, .ref mk9, .ref mt, .ref mb, .int 0, .int 0, .int 0, .int 0, .null, .int 0, .int 0, .double 0, .int 0, .int 0, .int 0])), (mk9, .inr (1, [.int 0, .ref e0, .int 0])), (mt, .inr (1, [.int 0, .ref e0, .int 0])), (mb, .inr (1, [.int 0, .ref e0, .int 0]))] H := hP
  have hD : va_D A [(mm, .inr (11, [.int 0, .ref mk9, .ref mt, .ref mb, .int 0, .int 0, .int 0, .int 0, .null, .int 0, .int 0, .double 0, .int 0, .int 0, .int 0])), (mk9, .inr (1, [.int 0, .ref e0, .int 0])), (mt, .inr (1, [.int 0, .ref e0, .int 0])), (mb, .inr (1, [.int 0, .ref e0, .int 0]))] := hD
  have hK : va_K D vwCl [] s := hK
  refine lv_i2l (v := 0) hx hb dX9_digest_23 (by decide) ?_
  refine kS_l (As := [.long 254058329341857848, .long 0]) (rest := []) (wr := [(mm, .inr (11, [.int 0, .ref mk9, .ref mt, .ref mb, .int 0, .int 0, .int 0, .int 0, .null, .int 0, .int 0, .double 0, .int 0, .int 0, .int 0])), (mk9, .inr (1, [.int 0, .ref e0, .int 0])), (mt, .inr (1, [.int 0, .ref e0, .int 0])), (mb, .inr (1, [.int 0, .ref e0, .int 0]))]) ⟨hx, hb, hml, hown, hts⟩ (c_m_add l D e0 _ 254058329341857848 0) (va_cwS 2 hts gX9_digest_X9_add rfl rfl rfl (by decide +kernel) ⟨Nat.le_of_ble_eq_true rfl, Nat.le_of_ble_eq_true rfl⟩) hP hD hK hS hA hE rfl [] [0, 1, 2, 3] [] rfl rfl (by decide) (by decide) (by decide) rfl rfl hl.1 (Nat.le_of_ble_eq_true rfl) dX9_digest_24 ⟨Nat.le_of_ble_eq_true rfl, Nat.le_of_ble_eq_true rfl⟩ (fun r_20 u9 H locs hw hP hD hK hS => ?_)
  have hw : r_20 = 7875808209597593288 := hw.trans (by decide +kernel)
  subst hw
  have hP : va_P D vwCl [(mm, .inr (11, [.int 0, .ref mk9, .ref mt, .ref mb, .int 0, .int 0, .int 0, .int 0, .null, .int 0, .int 0, .double 0, .int 0, .int 0, .int 0])), (mk9, .inr (1, [.int 0, .ref e0, .int 0])), (mt, .inr (1, [.int 0, .ref e0, .int 0])), (mb, .inr (1, [.int 0, .ref e0, .int 0]))] H := hP
  have hD : va_D A [(mm, .inr (11, [.int 0, .ref mk9, .ref mt, .ref mb, .int 0, .int 0, .int 0, .int 0, .null, .int 0, .int 0, .double 0, .int 0, .int 0, .int 0])), (mk9, .inr (1, [.int 0, .ref e0, .int 0])), (mt, .inr (1, [.int 0, .ref e0, .int 0])), (mb, .inr (1, [.int 0, .ref e0, .int 0]))] := hD
  have hK : va_K D vwCl [] s := hK
  refine lv_lstore_n (lv' := [(1, .long 7875808209597593288), (3, .int 9), (0, .ref mm)]) hx hb dX9_digest_27 rfl hl (by decide) rfl (fun ls hl => ?_)
  refine lv_iinc (v := 10) (lv' := [(3, .int 10), (1, .long 7875808209597593288), (0, .ref mm)]) hx hb dX9_digest_28 hl (k := 1) rfl (by decide) (by decide) rfl (fun ls hl => ?_)
  refine lv_goto (tgt := 11) hx hb dX9_digest_31 (by decide) ?_
  refine lv_iload_n hx hb dX9_digest_11 rfl (lv_at hl 0 rfl) ?_
  refine lv_bipush (v := 13) hx hb dX9_digest_12 (by decide) ?_
  refine lv_icmp_ge (tgt := 34) hx hb dX9_digest_14 (by decide) (fun h9 => absurd h9 (by decide)) (fun _ => ?_)
  refine lv_lload_n hx hb dX9_digest_17 rfl (lv_at hl 1 rfl) ?_
  refine lv_aload_n hx hb dX9_digest_18 rfl (lv_at hl 2 rfl) ?_
  refine lv_iload_n hx hb dX9_digest_19 rfl (lv_at hl 0 rfl) ?_
  refine kV_i (As := [.int 10]) (rest := [.long 7875808209597593288]) (wr := []) ⟨hx, hb, hml, hown, hts⟩ (c_m_manyNow l D e0 _ mm mk9 mt mb 10 (by decide)) (cwV 1 hts gX9_digest_X9_manyNow rfl rfl rfl (by decide +kernel) ⟨Nat.le_of_ble_eq_true rfl, Nat.le_of_ble_eq_true rfl⟩) hP hD hK hS hA hE rfl [0, 1, 2, 3] [] [] rfl rfl (by decide) (by decide) (by decide) rfl 11 0 rfl rfl rfl rfl hl.1 (Nat.le_of_ble_eq_true rfl) dX9_digest_20 ⟨Nat.le_of_ble_eq_true rfl, Nat.le_of_ble_eq_true rfl⟩ (fun r_21 u9 H locs hw hP hD hK hS => ?_)
  have hw : r_21 = 0 := hw.trans (by decide)
  subst hw
  have hP : va_P D vwCl [(mm, .inr (11, [.int 0, .ref mk9, .ref mt, .ref mb, .int 0, .int 0, .int 0, .int 0, .null, .int 0, .int 0, .double 0, .int 0, .int 0, .int 0])), (mk9, .inr (1, [.int 0, .ref e0, .int 0])), (mt, .inr (1, [.int 0, .ref e0, .int 0])), (mb, .inr (1, [.int 0, .ref e0, .int 0]))] H := hP
  have hD : va_D A [(mm, .inr (11, [.int 0, .ref mk9, .ref mt, .ref mb, .int 0, .int 0, .int 0, .int 0, .null, .int 0, .int 0, .double 0, .int 0, .int 0, .int 0])), (mk9, .inr (1, [.int 0, .ref e0, .int 0])), (mt, .inr (1, [.int 0, .ref e0, .int 0])), (mb, .inr (1, [.int 0, .ref e0, .int 0]))] := hD
  have hK : va_K D vwCl [] s := hK
  refine lv_i2l (v := 0) hx hb dX9_digest_23 (by decide) ?_
  refine kS_l (As := [.long 7875808209597593288, .long 0]) (rest := []) (wr := [(mm, .inr (11, [.int 0, .ref mk9, .ref mt, .ref mb, .int 0, .int 0, .int 0, .int 0, .null, .int 0, .int 0, .double 0, .int 0, .int 0, .int 0])), (mk9, .inr (1, [.int 0, .ref e0, .int 0])), (mt, .inr (1, [.int 0, .ref e0, .int 0])), (mb, .inr (1, [.int 0, .ref e0, .int 0]))]) ⟨hx, hb, hml, hown, hts⟩ (c_m_add l D e0 _ 7875808209597593288 0) (va_cwS 2 hts gX9_digest_X9_add rfl rfl rfl (by decide +kernel) ⟨Nat.le_of_ble_eq_true rfl, Nat.le_of_ble_eq_true rfl⟩) hP hD hK hS hA hE rfl [] [0, 1, 2, 3] [] rfl rfl (by decide) (by decide) (by decide) rfl rfl hl.1 (Nat.le_of_ble_eq_true rfl) dX9_digest_24 ⟨Nat.le_of_ble_eq_true rfl, Nat.le_of_ble_eq_true rfl⟩ (fun r_22 u9 H locs hw hP hD hK hS => ?_)
  have hw : r_22 = 4342381539301220920 := hw.trans (by decide +kernel)
  subst hw
  have hP : va_P D vwCl [(mm, .inr (11, [.int 0, .ref mk9, .ref mt, .ref mb, .int 0, .int 0, .int 0, .int 0, .null, .int 0, .int 0, .double 0, .int 0, .int 0, .int 0])), (mk9, .inr (1, [.int 0, .ref e0, .int 0])), (mt, .inr (1, [.int 0, .ref e0, .int 0])), (mb, .inr (1, [.int 0, .ref e0, .int 0]))] H := hP
  have hD : va_D A [(mm, .inr (11, [.int 0, .ref mk9, .ref mt, .ref mb, .int 0, .int 0, .int 0, .int 0, .null, .int 0, .int 0, .double 0, .int 0, .int 0, .int 0])), (mk9, .inr (1, [.int 0, .ref e0, .int 0])), (mt, .inr (1, [.int 0, .ref e0, .int 0])), (mb, .inr (1, [.int 0, .ref e0, .int 0]))] := hD
  have hK : va_K D vwCl [] s := hK
  refine lv_lstore_n (lv' := [(1, .long 4342381539301220920), (3, .int 10), (0, .ref mm)]) hx hb dX9_digest_27 rfl hl (by decide) rfl (fun ls hl => ?_)
  refine lv_iinc (v := 11) (lv' := [(3, .int 11), (1, .long 4342381539301220920), (0, .ref mm)]) hx hb dX9_digest_28 hl (k := 1) rfl (by decide) (by decide) rfl (fun ls hl => ?_)
  refine lv_goto (tgt := 11) hx hb dX9_digest_31 (by decide) ?_
  refine lv_iload_n hx hb dX9_digest_11 rfl (lv_at hl 0 rfl) ?_
  refine lv_bipush (v := 13) hx hb dX9_digest_12 (by decide) ?_
  refine lv_icmp_ge (tgt := 34) hx hb dX9_digest_14 (by decide) (fun h9 => absurd h9 (by decide)) (fun _ => ?_)
  refine lv_lload_n hx hb dX9_digest_17 rfl (lv_at hl 1 rfl) ?_
  refine lv_aload_n hx hb dX9_digest_18 rfl (lv_at hl 2 rfl) ?_
  refine lv_iload_n hx hb dX9_digest_19 rfl (lv_at hl 0 rfl) ?_
  refine kV_i (As := [.int 11]) (rest := [.long 4342381539301220920]) (wr := []) ⟨hx, hb, hml, hown, hts⟩ (c_m_manyNow l D e0 _ mm mk9 mt mb 11 (by decide)) (cwV 1 hts gX9_digest_X9_manyNow rfl rfl rfl (by decide +kernel) ⟨Nat.le_of_ble_eq_true rfl, Nat.le_of_ble_eq_true rfl⟩) hP hD hK hS hA hE rfl [0, 1, 2, 3] [] [] rfl rfl (by decide) (by decide) (by decide) rfl 11 0 rfl rfl rfl rfl hl.1 (Nat.le_of_ble_eq_true rfl) dX9_digest_20 ⟨Nat.le_of_ble_eq_true rfl, Nat.le_of_ble_eq_true rfl⟩ (fun r_23 u9 H locs hw hP hD hK hS => ?_)
  have hw : r_23 = 0 := hw.trans (by decide)
  subst hw
  have hP : va_P D vwCl [(mm, .inr (11, [.int 0, .ref mk9, .ref mt, .ref mb, .int 0, .int 0, .int 0, .int 0, .null, .int 0, .int 0, .double 0, .int 0, .int 0, .int 0])), (mk9, .inr (1, [.int 0, .ref e0, .int 0])), (mt, .inr (1, [.int 0, .ref e0, .int 0])), (mb, .inr (1, [.int 0, .ref e0, .int 0]))] H := hP
  have hD : va_D A [(mm, .inr (11, [.int 0, .ref mk9, .ref mt, .ref mb, .int 0, .int 0, .int 0, .int 0, .null, .int 0, .int 0, .double 0, .int 0, .int 0, .int 0])), (mk9, .inr (1, [.int 0, .ref e0, .int 0])), (mt, .inr (1, [.int 0, .ref e0, .int 0])), (mb, .inr (1, [.int 0, .ref e0, .int 0]))] := hD
  have hK : va_K D vwCl [] s := hK
  refine lv_i2l (v := 0) hx hb dX9_digest_23 (by decide) ?_
  refine kS_l (As := [.long 4342381539301220920, .long 0]) (rest := []) (wr := [(mm, .inr (11, [.int 0, .ref mk9, .ref mt, .ref mb, .int 0, .int 0, .int 0, .int 0, .null, .int 0, .int 0, .double 0, .int 0, .int 0, .int 0])), (mk9, .inr (1, [.int 0, .ref e0, .int 0])), (mt, .inr (1, [.int 0, .ref e0, .int 0])), (mb, .inr (1, [.int 0, .ref e0, .int 0]))]) ⟨hx, hb, hml, hown, hts⟩ (c_m_add l D e0 _ 4342381539301220920 0) (va_cwS 2 hts gX9_digest_X9_add rfl rfl rfl (by decide +kernel) ⟨Nat.le_of_ble_eq_true rfl, Nat.le_of_ble_eq_true rfl⟩) hP hD hK hS hA hE rfl [] [0, 1, 2, 3] [] rfl rfl (by decide) (by decide) (by decide) rfl rfl hl.1 (Nat.le_of_ble_eq_true rfl) dX9_digest_24 ⟨Nat.le_of_ble_eq_true rfl, Nat.le_of_ble_eq_true rfl⟩ (fun r_24 u9 H locs hw hP hD hK hS => ?_)
  have hw : r_24 = 5486619202370987208 := hw.trans (by decide +kernel)
  subst hw
  have hP : va_P D vwCl [(mm, .inr (11, [.int 0, .ref mk9, .ref mt, .ref mb, .int 0, .int 0, .int 0, .int 0, .null, .int 0, .int 0, .double 0, .int 0, .int 0, .int 0])), (mk9, .inr (1, [.int 0, .ref e0, .int 0])), (mt, .inr (1, [.int 0, .ref e0, .int 0])), (mb, .inr (1, [.int 0, .ref e0, .int 0]))] H := hP
  have hD : va_D A [(mm, .inr (11, [.int 0, .ref mk9, .ref mt, .ref mb, .int 0, .int 0, .int 0, .int 0, .null, .int 0, .int 0, .double 0, .int 0, .int 0, .int 0])), (mk9, .inr (1, [.int 0, .ref e0, .int 0])), (mt, .inr (1, [.int 0, .ref e0, .int 0])), (mb, .inr (1, [.int 0, .ref e0, .int 0]))] := hD
  have hK : va_K D vwCl [] s := hK
  refine lv_lstore_n (lv' := [(1, .long 5486619202370987208), (3, .int 11), (0, .ref mm)]) hx hb dX9_digest_27 rfl hl (by decide) rfl (fun ls hl => ?_)
  refine lv_iinc (v := 12) (lv' := [(3, .int 12), (1, .long 5486619202370987208), (0, .ref mm)]) hx hb dX9_digest_28 hl (k := 1) rfl (by decide) (by decide) rfl (fun ls hl => ?_)
  refine lv_goto (tgt := 11) hx hb dX9_digest_31 (by decide) ?_
  refine lv_iload_n hx hb dX9_digest_11 rfl (lv_at hl 0 rfl) ?_
  refine lv_bipush (v := 13) hx hb dX9_digest_12 (by decide) ?_
  refine lv_icmp_ge (tgt := 34) hx hb dX9_digest_14 (by decide) (fun h9 => absurd h9 (by decide)) (fun _ => ?_)
  refine lv_lload_n hx hb dX9_digest_17 rfl (lv_at hl 1 rfl) ?_
  refine lv_aload_n hx hb dX9_digest_18 rfl (lv_at hl 2 rfl) ?_
  refine lv_iload_n hx hb dX9_digest_19 rfl (lv_at hl 0 rfl) ?_
  refine kV_i (As := [.int 12]) (rest := [.long 5486619202370987208]) (wr := []) ⟨hx, hb, hml, hown, hts⟩ (c_m_manyNow l D e0 _ mm mk9 mt mb 12 (by decide)) (cwV 1 hts gX9_digest_X9_manyNow rfl rfl rfl (by decide +kernel) ⟨Nat.le_of_ble_eq_true rfl, Nat.le_of_ble_eq_true rfl⟩) hP hD hK hS hA hE rfl [0, 1, 2, 3] [] [] rfl rfl (by decide) (by decide) (by decide) rfl 11 0 rfl rfl rfl rfl hl.1 (Nat.le_of_ble_eq_true rfl) dX9_digest_20 ⟨Nat.le_of_ble_eq_true rfl, Nat.le_of_ble_eq_true rfl⟩ (fun r_25 u9 H locs hw hP hD hK hS => ?_)
  have hw : r_25 = 0 := hw.trans (by decide)
  subst hw
  have hP : va_P D vwCl [(mm, .inr (11, [.int 0, .ref mk9, .ref mt, .ref mb, .int 0, .int 0, .int 0, .int 0, .null, .int 0, .int 0, .double 0, .int 0, .int 0, .int 0])), (mk9, .inr (1, [.int 0, .ref e0, .int 0])), (mt, .inr (1, [.int 0, .ref e0, .int 0])), (mb, .inr (1, [.int 0, .ref e0, .int 0]))] H := hP
  have hD : va_D A [(mm, .inr (11, [.int 0, .ref mk9, .ref mt, .ref mb, .int 0, .int 0, .int 0, .int 0, .null, .int 0, .int 0, .double 0, .int 0, .int 0, .int 0])), (mk9, .inr (1, [.int 0, .ref e0, .int 0])), (mt, .inr (1, [.int 0, .ref e0, .int 0])), (mb, .inr (1, [.int 0, .ref e0, .int 0]))] := hD
  have hK : va_K D vwCl [] s := hK
  refine lv_i2l (v := 0) hx hb dX9_digest_23 (by decide) ?_
  refine kS_l (As := [.long 5486619202370987208, .long 0]) (rest := []) (wr := [(mm, .inr (11, [.int 0, .ref mk9, .ref mt, .ref mb, .int 0, .int 0, .int 0, .int 0, .null, .int 0, .int 0, .double 0, .int 0, .int 0, .int 0])), (mk9, .inr (1, [.int 0, .ref e0, .int 0])), (mt, .inr (1, [.int 0, .ref e0, .int 0])), (mb, .inr (1, [.int 0, .ref e0, .int 0]))]) ⟨hx, hb, hml, hown, hts⟩ (c_m_add l D e0 _ 5486619202370987208 0) (va_cwS 2 hts gX9_digest_X9_add rfl rfl rfl (by decide +kernel) ⟨Nat.le_of_ble_eq_true rfl, Nat.le_of_ble_eq_true rfl⟩) hP hD hK hS hA hE rfl [] [0, 1, 2, 3] [] rfl rfl (by decide) (by decide) (by decide) rfl rfl hl.1 (Nat.le_of_ble_eq_true rfl) dX9_digest_24 ⟨Nat.le_of_ble_eq_true rfl, Nat.le_of_ble_eq_true rfl⟩ (fun r_26 u9 H locs hw hP hD hK hS => ?_)
  have hw : r_26 = 4064498610114638904 := hw.trans (by decide +kernel)
  subst hw
  have hP : va_P D vwCl [(mm, .inr (11, [.int 0, .ref mk9, .ref mt, .ref mb, .int 0, .int 0, .int 0, .int 0, .null, .int 0, .int 0, .double 0, .int 0, .int 0, .int 0])), (mk9, .inr (1, [.int 0, .ref e0, .int 0])), (mt, .inr (1, [.int 0, .ref e0, .int 0])), (mb, .inr (1, [.int 0, .ref e0, .int 0]))] H := hP
  have hD : va_D A [(mm, .inr (11, [.int 0, .ref mk9, .ref mt, .ref mb, .int 0, .int 0, .int 0, .int 0, .null, .int 0, .int 0, .double 0, .int 0, .int 0, .int 0])), (mk9, .inr (1, [.int 0, .ref e0, .int 0])), (mt, .inr (1, [.int 0, .ref e0, .int 0])), (mb, .inr (1, [.int 0, .ref e0, .int 0]))] := hD
  have hK : va_K D vwCl [] s := hK
  refine lv_lstore_n (lv' := [(1, .long 4064498610114638904), (3, .int 12), (0, .ref mm)]) hx hb dX9_digest_27 rfl hl (by decide) rfl (fun ls hl => ?_)
  refine lv_iinc (v := 13) (lv' := [(3, .int 13), (1, .long 4064498610114638904), (0, .ref mm)]) hx hb dX9_digest_28 hl (k := 1) rfl (by decide) (by decide) rfl (fun ls hl => ?_)
  refine lv_goto (tgt := 11) hx hb dX9_digest_31 (by decide) ?_
  refine lv_iload_n hx hb dX9_digest_11 rfl (lv_at hl 0 rfl) ?_
  refine lv_bipush (v := 13) hx hb dX9_digest_12 (by decide) ?_
  refine lv_icmp_ge (tgt := 34) hx hb dX9_digest_14 (by decide) (fun _ => ?_) (fun h9 => absurd (by decide) h9)
  refine lv_lload_n hx hb dX9_digest_34 rfl (lv_at hl 1 rfl) ?_
  refine lv_aload_n hx hb dX9_digest_35 rfl (lv_at hl 2 rfl) ?_
  refine va_get (D := D) (ci := 11) (v := .double 0) (C := RX9) (T := TX9) (N := 15) hx hb hts (by decide +kernel) hown hK hP 0 rfl rfl 11 (by decide) (hts (.fieldLink RX9 252 "PickCellModel" "clock" "D") (by decide +kernel)) (fun _ h9 => h9) rfl dX9_digest_36 ?_
  refine lv_ldc2d (v := 4616189618054758400) hx hb hown (hts (.constantDouble RX9 265 4616189618054758400) (by decide +kernel)) dX9_digest_39 ?_
  refine lv_dmul hx hb dX9_digest_42 (by unfold vf_n64; decide +kernel) ?_
  refine lv_topd (fun x_27 ex_27 => ?_)
  obtain rfl : x_27 = 0 := ex_27.trans (by decide +kernel)
  refine lv_d2l hx hb dX9_digest_43 ?_
  refine lv_topl (fun x_28 ex_28 => ?_)
  obtain rfl : x_28 = 0 := ex_28.trans (by decide +kernel)
  refine kS_l (As := [.long 4064498610114638904, .long 0]) (rest := []) (wr := [(mm, .inr (11, [.int 0, .ref mk9, .ref mt, .ref mb, .int 0, .int 0, .int 0, .int 0, .null, .int 0, .int 0, .double 0, .int 0, .int 0, .int 0])), (mk9, .inr (1, [.int 0, .ref e0, .int 0])), (mt, .inr (1, [.int 0, .ref e0, .int 0])), (mb, .inr (1, [.int 0, .ref e0, .int 0]))]) ⟨hx, hb, hml, hown, hts⟩ (c_m_add l D e0 _ 4064498610114638904 0) (va_cwS 2 hts gX9_digest_X9_add rfl rfl rfl (by decide +kernel) ⟨Nat.le_of_ble_eq_true rfl, Nat.le_of_ble_eq_true rfl⟩) hP hD hK hS hA hE rfl [] [0, 1, 2, 3] [] rfl rfl (by decide) (by decide) (by decide) rfl rfl hl.1 (Nat.le_of_ble_eq_true rfl) dX9_digest_44 ⟨Nat.le_of_ble_eq_true rfl, Nat.le_of_ble_eq_true rfl⟩ (fun r_29 u9 H locs hw hP hD hK hS => ?_)
  have hw : r_29 = (-3127751602413055288) := hw.trans (by decide +kernel)
  subst hw
  have hP : va_P D vwCl [(mm, .inr (11, [.int 0, .ref mk9, .ref mt, .ref mb, .int 0, .int 0, .int 0, .int 0, .null, .int 0, .int 0, .double 0, .int 0, .int 0, .int 0])), (mk9, .inr (1, [.int 0, .ref e0, .int 0])), (mt, .inr (1, [.int 0, .ref e0, .int 0])), (mb, .inr (1, [.int 0, .ref e0, .int 0]))] H := hP
  have hD : va_D A [(mm, .inr (11, [.int 0, .ref mk9, .ref mt, .ref mb, .int 0, .int 0, .int 0, .int 0, .null, .int 0, .int 0, .double 0, .int 0, .int 0, .int 0])), (mk9, .inr (1, [.int 0, .ref e0, .int 0])), (mt, .inr (1, [.int 0, .ref e0, .int 0])), (mb, .inr (1, [.int 0, .ref e0, .int 0]))] := hD
  have hK : va_K D vwCl [] s := hK
  refine lv_lstore_n (lv' := [(1, .long (-3127751602413055288)), (3, .int 13), (0, .ref mm)]) hx hb dX9_digest_47 rfl hl (by decide) rfl (fun ls hl => ?_)
  refine lv_iconst (v := 0) hx hb dX9_digest_48 (by decide) ?_
  refine lv_istore_n (lv' := [(3, .int 0), (1, .long (-3127751602413055288)), (0, .ref mm)]) hx hb dX9_digest_49 rfl hl (by decide) rfl (fun ls hl => ?_)
  refine lv_iload_n hx hb dX9_digest_50 rfl (lv_at hl 0 rfl) ?_
  refine lv_aload_n hx hb dX9_digest_51 rfl (lv_at hl 2 rfl) ?_
  refine va_get (D := D) (ci := 11) (v := .ref mk9) (C := RX9) (T := TX9) (N := 15) hx hb hts (by decide +kernel) hown hK hP 0 rfl rfl 1 (by decide) (hts (.fieldLink RX9 10 "PickCellModel" "kinds" "Ljava/util/ArrayList;") (by decide +kernel)) (fun _ h9 => h9) rfl dX9_digest_52 ?_
  refine kV_i (As := []) (rest := [.int 0]) (wr := [(mm, .inr (11, [.int 0, .ref mk9, .ref mt, .ref mb, .int 0, .int 0, .int 0, .int 0, .null, .int 0, .int 0, .double 0, .int 0, .int 0, .int 0])), (mt, .inr (1, [.int 0, .ref e0, .int 0])), (mb, .inr (1, [.int 0, .ref e0, .int 0]))]) ⟨hx, hb, hml, hown, hts⟩ (c_size l D e0 _ mk9 0 0 (.ref e0)) (cwV 0 hts gX9_digest_Jx4a65c_size_8abf5 rfl rfl rfl (by decide +kernel) ⟨Nat.le_of_ble_eq_true rfl, Nat.le_of_ble_eq_true rfl⟩) hP hD hK hS hA hE rfl [1] [0, 2, 3] [] rfl rfl (by decide) (by decide) (by decide) rfl 1 1 rfl rfl rfl rfl hl.1 (Nat.le_of_ble_eq_true rfl) dX9_digest_55 ⟨Nat.le_of_ble_eq_true rfl, Nat.le_of_ble_eq_true rfl⟩ (fun r_30 u9 H locs hw hP hD hK hS => ?_)
  have hw : r_30 = 0 := hw
  subst hw
  have hP : va_P D vwCl [(mm, .inr (11, [.int 0, .ref mk9, .ref mt, .ref mb, .int 0, .int 0, .int 0, .int 0, .null, .int 0, .int 0, .double 0, .int 0, .int 0, .int 0])), (mt, .inr (1, [.int 0, .ref e0, .int 0])), (mb, .inr (1, [.int 0, .ref e0, .int 0])), (mk9, .inr (1, [.int 0, .ref e0, .int 0]))] H := hP
  have hD : va_D A [(mm, .inr (11, [.int 0, .ref mk9, .ref mt, .ref mb, .int 0, .int 0, .int 0, .int 0, .null, .int 0, .int 0, .double 0, .int 0, .int 0, .int 0])), (mt, .inr (1, [.int 0, .ref e0, .int 0])), (mb, .inr (1, [.int 0, .ref e0, .int 0])), (mk9, .inr (1, [.int 0, .ref e0, .int 0]))] := hD
  have hK : va_K D vwCl [] s := hK
  refine lv_icmp_ge (tgt := 89) hx hb dX9_digest_58 (by decide) (fun _ => ?_) (fun h9 => absurd (by decide) h9)
  refine lv_aload_n hx hb dX9_digest_89 rfl (lv_at hl 2 rfl) ?_
  refine va_get (D := D) (ci := 11) (v := .ref mt) (C := RX9) (T := TX9) (N := 15) hx hb hts (by decide +kernel) hown hK hP 0 rfl rfl 2 (by decide) (hts (.fieldLink RX9 16 "PickCellModel" "things" "Ljava/util/ArrayList;") (by decide +kernel)) (fun _ h9 => h9) rfl dX9_digest_90 ?_
  refine kV_q (As := []) (rest := []) (wr := [(mm, .inr (11, [.int 0, .ref mk9, .ref mt, .ref mb, .int 0, .int 0, .int 0, .int 0, .null, .int 0, .int 0, .double 0, .int 0, .int 0, .int 0])), (mb, .inr (1, [.int 0, .ref e0, .int 0])), (mk9, .inr (1, [.int 0, .ref e0, .int 0]))]) ⟨hx, hb, hml, hown, hts⟩ (c_iter l D e0 _ mt) (cwV 0 hts gX9_digest_Jx4a65c_iterator_32c93 rfl rfl rfl (by decide +kernel) ⟨Nat.le_of_ble_eq_true rfl, Nat.le_of_ble_eq_true rfl⟩) hP hD hK hS hA hE rfl [1] [0, 2, 3] [] rfl rfl (by decide) (by decide) (by decide) rfl 1 1 rfl rfl rfl rfl hl.1 (Nat.le_of_ble_eq_true rfl) dX9_digest_93 ⟨Nat.le_of_ble_eq_true rfl, Nat.le_of_ble_eq_true rfl⟩ (fun r_31 u9 H locs hw hP hD hK hS => ?_)
  obtain ⟨it_32, eit_32⟩ : ∃ z : Nat, z = u9 := ⟨_, rfl⟩
  rw [← eit_32] at hw hP hD
  have hw : r_31 = some it_32 := hw
  subst hw
  refine W.eq (g2 := F0 m 96 ls [.ref it_32]) rfl ?_
  have hP : va_P D vwCl [(mm, .inr (11, [.int 0, .ref mk9, .ref mt, .ref mb, .int 0, .int 0, .int 0, .int 0, .null, .int 0, .int 0, .double 0, .int 0, .int 0, .int 0])), (mb, .inr (1, [.int 0, .ref e0, .int 0])), (mk9, .inr (1, [.int 0, .ref e0, .int 0])), (it_32, .inr (0, [.int 0, .int (-1), .int 0, .ref mt])), (mt, .inr (1, [.int 0, .ref e0, .int 0]))] H := hP
  have hD : va_D A [(mm, .inr (11, [.int 0, .ref mk9, .ref mt, .ref mb, .int 0, .int 0, .int 0, .int 0, .null, .int 0, .int 0, .double 0, .int 0, .int 0, .int 0])), (mb, .inr (1, [.int 0, .ref e0, .int 0])), (mk9, .inr (1, [.int 0, .ref e0, .int 0])), (it_32, .inr (0, [.int 0, .int (-1), .int 0, .ref mt])), (mt, .inr (1, [.int 0, .ref e0, .int 0]))] := hD
  have hK : va_K D vwCl [] s := hK
  refine lv_astore_n (lv' := [(3, .ref it_32), (1, .long (-3127751602413055288)), (0, .ref mm)]) hx hb dX9_digest_96 rfl hl (by decide) rfl (fun ls hl => ?_)
  refine lv_aload_n hx hb dX9_digest_97 rfl (lv_at hl 0 rfl) ?_
  obtain ⟨cI9, hat9⟩ := classAt_of (hts (.instantiable RJx35411 4) (by decide +kernel))
  refine kF_i (As := []) (rest := []) (wr := [(mm, .inr (11, [.int 0, .ref mk9, .ref mt, .ref mb, .int 0, .int 0, .int 0, .int 0, .null, .int 0, .int 0, .double 0, .int 0, .int 0, .int 0])), (mb, .inr (1, [.int 0, .ref e0, .int 0])), (mk9, .inr (1, [.int 0, .ref e0, .int 0]))]) ⟨hx, hb, hml, hown, hts⟩ (c_hasNext l D e0 _ it_32 mt) (va_cwF 0 hts gX9_digest_Jx35411_hasNext_aae02_f42Jx35411 rfl rfl rfl hE.2.2.2.2.2.2.2.2 (by decide +kernel) ⟨Nat.le_of_ble_eq_true rfl, Nat.le_of_ble_eq_true rfl⟩) hP hD hK hS hA hE rfl [3, 4] [0, 1, 2] [] rfl rfl (by decide) (by decide) (by decide) rfl hat9 0 3 rfl rfl rfl rfl hl.1 (Nat.le_of_ble_eq_true rfl) dX9_digest_98 ⟨Nat.le_of_ble_eq_true rfl, Nat.le_of_ble_eq_true rfl⟩ (fun r_33 u9 H locs hw hP hD hK hS => ?_)
  have hw : r_33 = 0 := hw
  subst hw
  have hP : va_P D vwCl [(mm, .inr (11, [.int 0, .ref mk9, .ref mt, .ref mb, .int 0, .int 0, .int 0, .int 0, .null, .int 0, .int 0, .double 0, .int 0, .int 0, .int 0])), (mb, .inr (1, [.int 0, .ref e0, .int 0])), (mk9, .inr (1, [.int 0, .ref e0, .int 0])), (it_32, .inr (0, [.int 0, .int (-1), .int 0, .ref mt])), (mt, .inr (1, [.int 0, .ref e0, .int 0]))] H := hP
  have hD : va_D A [(mm, .inr (11, [.int 0, .ref mk9, .ref mt, .ref mb, .int 0, .int 0, .int 0, .int 0, .null, .int 0, .int 0, .double 0, .int 0, .int 0, .int 0])), (mb, .inr (1, [.int 0, .ref e0, .int 0])), (mk9, .inr (1, [.int 0, .ref e0, .int 0])), (it_32, .inr (0, [.int 0, .int (-1), .int 0, .ref mt])), (mt, .inr (1, [.int 0, .ref e0, .int 0]))] := hD
  have hK : va_K D vwCl [] s := hK
  refine lv_if_eq (tgt := 191) hx hb dX9_digest_103 (by decide) (fun _ => ?_) (fun h9 => absurd (by decide) h9)
  refine lv_aload_n hx hb dX9_digest_191 rfl (lv_at hl 2 rfl) ?_
  refine va_get (D := D) (ci := 11) (v := .ref mb) (C := RX9) (T := TX9) (N := 15) hx hb hts (by decide +kernel) hown hK hP 0 rfl rfl 3 (by decide) (hts (.fieldLink RX9 19 "PickCellModel" "boxes" "Ljava/util/ArrayList;") (by decide +kernel)) (fun _ h9 => h9) rfl dX9_digest_192 ?_
  refine kV_q (As := []) (rest := []) (wr := [(mm, .inr (11, [.int 0, .ref mk9, .ref mt, .ref mb, .int 0, .int 0, .int 0, .int 0, .null, .int 0, .int 0, .double 0, .int 0, .int 0, .int 0])), (mk9, .inr (1, [.int 0, .ref e0, .int 0])), (it_32, .inr (0, [.int 0, .int (-1), .int 0, .ref mt])), (mt, .inr (1, [.int 0, .ref e0, .int 0]))]) ⟨hx, hb, hml, hown, hts⟩ (c_iter l D e0 _ mb) (cwV 0 hts gX9_digest_Jx4a65c_iterator_32c93 rfl rfl rfl (by decide +kernel) ⟨Nat.le_of_ble_eq_true rfl, Nat.le_of_ble_eq_true rfl⟩) hP hD hK hS hA hE rfl [1] [0, 2, 3, 4] [] rfl rfl (by decide) (by decide) (by decide) rfl 1 1 rfl rfl rfl rfl hl.1 (Nat.le_of_ble_eq_true rfl) dX9_digest_195 ⟨Nat.le_of_ble_eq_true rfl, Nat.le_of_ble_eq_true rfl⟩ (fun r_34 u9 H locs hw hP hD hK hS => ?_)
  obtain ⟨it_35, eit_35⟩ : ∃ z : Nat, z = u9 := ⟨_, rfl⟩
  rw [← eit_35] at hw hP hD
  have hw : r_34 = some it_35 := hw
  subst hw
  refine W.eq (g2 := F0 m 198 ls [.ref it_35]) rfl ?_
  have hP : va_P D vwCl [(mm, .inr (11, [.int 0, .ref mk9, .ref mt, .ref mb, .int 0, .int 0, .int 0, .int 0, .null, .int 0, .int 0, .double 0, .int 0, .int 0, .int 0])), (mk9, .inr (1, [.int 0, .ref e0, .int 0])), (it_32, .inr (0, [.int 0, .int (-1), .int 0, .ref mt])), (mt, .inr (1, [.int 0, .ref e0, .int 0])), (it_35, .inr (0, [.int 0, .int (-1), .int 0, .ref mb])), (mb, .inr (1, [.int 0, .ref e0, .int 0]))] H := hP
  have hD : va_D A [(mm, .inr (11, [.int 0, .ref mk9, .ref mt, .ref mb, .int 0, .int 0, .int 0, .int 0, .null, .int 0, .int 0, .double 0, .int 0, .int 0, .int 0])), (mk9, .inr (1, [.int 0, .ref e0, .int 0])), (it_32, .inr (0, [.int 0, .int (-1), .int 0, .ref mt])), (mt, .inr (1, [.int 0, .ref e0, .int 0])), (it_35, .inr (0, [.int 0, .int (-1), .int 0, .ref mb])), (mb, .inr (1, [.int 0, .ref e0, .int 0]))] := hD
  have hK : va_K D vwCl [] s := hK
  refine lv_astore_n (lv' := [(3, .ref it_35), (1, .long (-3127751602413055288)), (0, .ref mm)]) hx hb dX9_digest_198 rfl hl (by decide) rfl (fun ls hl => ?_)
  refine lv_aload_n hx hb dX9_digest_199 rfl (lv_at hl 0 rfl) ?_
  obtain ⟨cI9, hat9⟩ := classAt_of (hts (.instantiable RJx35411 4) (by decide +kernel))
  refine kF_i (As := []) (rest := []) (wr := [(mm, .inr (11, [.int 0, .ref mk9, .ref mt, .ref mb, .int 0, .int 0, .int 0, .int 0, .null, .int 0, .int 0, .double 0, .int 0, .int 0, .int 0])), (mk9, .inr (1, [.int 0, .ref e0, .int 0])), (it_32, .inr (0, [.int 0, .int (-1), .int 0, .ref mt])), (mt, .inr (1, [.int 0, .ref e0, .int 0]))]) ⟨hx, hb, hml, hown, hts⟩ (c_hasNext l D e0 _ it_35 mb) (va_cwF 0 hts gX9_digest_Jx35411_hasNext_aae02_f42Jx35411 rfl rfl rfl hE.2.2.2.2.2.2.2.2 (by decide +kernel) ⟨Nat.le_of_ble_eq_true rfl, Nat.le_of_ble_eq_true rfl⟩) hP hD hK hS hA hE rfl [4, 5] [0, 1, 2, 3] [] rfl rfl (by decide) (by decide) (by decide) rfl hat9 0 4 rfl rfl rfl rfl hl.1 (Nat.le_of_ble_eq_true rfl) dX9_digest_200 ⟨Nat.le_of_ble_eq_true rfl, Nat.le_of_ble_eq_true rfl⟩ (fun r_36 u9 H locs hw hP hD hK hS => ?_)
  have hw : r_36 = 0 := hw
  subst hw
  have hP : va_P D vwCl [(mm, .inr (11, [.int 0, .ref mk9, .ref mt, .ref mb, .int 0, .int 0, .int 0, .int 0, .null, .int 0, .int 0, .double 0, .int 0, .int 0, .int 0])), (mk9, .inr (1, [.int 0, .ref e0, .int 0])), (it_32, .inr (0, [.int 0, .int (-1), .int 0, .ref mt])), (mt, .inr (1, [.int 0, .ref e0, .int 0])), (it_35, .inr (0, [.int 0, .int (-1), .int 0, .ref mb])), (mb, .inr (1, [.int 0, .ref e0, .int 0]))] H := hP
  have hD : va_D A [(mm, .inr (11, [.int 0, .ref mk9, .ref mt, .ref mb, .int 0, .int 0, .int 0, .int 0, .null, .int 0, .int 0, .double 0, .int 0, .int 0, .int 0])), (mk9, .inr (1, [.int 0, .ref e0, .int 0])), (it_32, .inr (0, [.int 0, .int (-1), .int 0, .ref mt])), (mt, .inr (1, [.int 0, .ref e0, .int 0])), (it_35, .inr (0, [.int 0, .int (-1), .int 0, .ref mb])), (mb, .inr (1, [.int 0, .ref e0, .int 0]))] := hD
  have hK : va_K D vwCl [] s := hK
  refine lv_if_eq (tgt := 300) hx hb dX9_digest_205 (by decide) (fun _ => ?_) (fun h9 => absurd (by decide) h9)
  refine lv_lload_n hx hb dX9_digest_300 rfl (lv_at hl 1 rfl) ?_
  exact end_l (v := (-3127751602413055288)) hx hb hr hlocks hP hD hK hS () rfl [0] [] rfl (by decide) rfl (Nat.le_of_ble_eq_true rfl) (Nat.le_of_ble_eq_true rfl) dX9_digest_301
