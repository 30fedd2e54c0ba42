set_option maxRecDepth 20000 in
theorem ggX1_seenAt_X5_areInBin : GoodIn wsX1_seenAt wsX5_areInBin := goodIn_r _ [4] (by decide +kernel) (by decide +kernel)
set_option maxRecDepth 20000 in
theorem gX1_seenAt_X5_areInBin_n104 : GoodIn wsX1_seenAt (wsX5_areInBin) := ggX1_seenAt_X5_areInBin
theorem dX1_seenAt_0 : decode cX1_seenAt 0 = .ok (.iload_n 1, 1) := by decide +kernel
theorem dX1_seenAt_1 : decode cX1_seenAt 1 = .ok (.iload_n 2, 1) := by decide +kernel
theorem dX1_seenAt_2 : decode cX1_seenAt 2 = .ok (.iconst 1, 1) := by decide +kernel
theorem dX1_seenAt_3 : decode cX1_seenAt 3 = .ok (.iconst 1, 1) := by decide +kernel
theorem dX1_seenAt_4 : decode cX1_seenAt 4 = .ok (.invokestatic 104, 3) := by decide +kernel
theorem dX1_seenAt_7 : decode cX1_seenAt 7 = .ok (.ifCond .eq 17, 3) := by decide +kernel
theorem dX1_seenAt_10 : decode cX1_seenAt 10 = .ok (.aload_n 0, 1) := by decide +kernel
theorem dX1_seenAt_11 : decode cX1_seenAt 11 = .ok (.getfield 22, 3) := by decide +kernel
theorem dX1_seenAt_14 : decode cX1_seenAt 14 = .ok (.iload_n 2, 1) := by decide +kernel
theorem dX1_seenAt_15 : decode cX1_seenAt 15 = .ok (.bipush 6, 2) := by decide +kernel
theorem dX1_seenAt_17 : decode cX1_seenAt 17 = .ok (.imul, 1) := by decide +kernel
theorem dX1_seenAt_18 : decode cX1_seenAt 18 = .ok (.iload_n 1, 1) := by decide +kernel
theorem dX1_seenAt_19 : decode cX1_seenAt 19 = .ok (.iadd, 1) := by decide +kernel
theorem dX1_seenAt_20 : decode cX1_seenAt 20 = .ok (.iaload, 1) := by decide +kernel
theorem dX1_seenAt_21 : decode cX1_seenAt 21 = .ok (.goto 4, 3) := by decide +kernel
theorem dX1_seenAt_25 : decode cX1_seenAt 25 = .ok (.ireturn, 1) := by decide +kernel
set_option maxRecDepth 20000 in
theorem ggX5_kind_X5_isWithin : GoodIn wsX5_kind wsX5_isWithin := goodIn_r _ [12] (by decide +kernel) (by decide +kernel)
set_option maxRecDepth 20000 in
theorem gX5_kind_X5_isWithin : GoodIn wsX5_kind (va_wsS RX5 47 yX5_isWithin wsX5_isWithin) := goodIn_app (goodIn_of _ (by decide +kernel)) ggX5_kind_X5_isWithin
set_option maxRecDepth 20000 in
theorem ggX5_kind_Jx4a65c_size_8abf5 : GoodIn wsX5_kind wsJx4a65c_size_8abf5 := goodIn_r _ [17, 18, 101, 102, 103] (by decide +kernel) (by decide +kernel)
set_option maxRecDepth 20000 in
theorem gX5_kind_Jx4a65c_size_8abf5 : GoodIn wsX5_kind (wsV RX5 58 RJx4a65c yJx4a65c_size_8abf5 wsJx4a65c_size_8abf5) := goodIn_app (goodIn_of _ (by decide +kernel)) ggX5_kind_Jx4a65c_size_8abf5
set_option maxRecDepth 20000 in
theorem ggX5_kind_X3_init : GoodIn wsX5_kind wsX3_init := goodIn_r _ [21, 22, 23, 24, 25, 26, 27, 28, 29, 30, 31, 94, 95, 96, 97, 98, 99, 100] (by decide +kernel) (by decide +kernel)
set_option maxRecDepth 20000 in
theorem gX5_kind_X3_init : GoodIn wsX5_kind (wsX3_init) := ggX5_kind_X3_init
set_option maxRecDepth 20000 in
theorem ggX5_kind_Jx4a65c_add_9ea2d : GoodIn wsX5_kind wsJx4a65c_add_9ea2d := goodIn_r _ [35, 36, 37, 38, 18, 39, 40, 41, 16, 42, 43, 44, 45, 46, 47, 48, 49, 50, 51, 52, 53, 54, 55, 56, 57, 58, 59, 60, 61, 62, 63, 64, 65, 66, 67, 68, 69, 70, 71, 72, 73, 74, 75, 76, 77, 78, 79, 80, 81, 82, 83, 84, 85, 101, 102, 103] (by decide +kernel) (by decide +kernel)
set_option maxRecDepth 20000 in
theorem gX5_kind_Jx4a65c_add_9ea2d : GoodIn wsX5_kind (wsV RX5 72 RJx4a65c yJx4a65c_add_9ea2d wsJx4a65c_add_9ea2d) := goodIn_app (goodIn_of _ (by decide +kernel)) ggX5_kind_Jx4a65c_add_9ea2d
theorem dX5_kind_0 : decode cX5_kind 0 = .ok (.iload_n 1, 1) := by decide +kernel
theorem dX5_kind_1 : decode cX5_kind 1 = .ok (.iconst 1, 1) := by decide +kernel
theorem dX5_kind_2 : decode cX5_kind 2 = .ok (.iconst 3, 1) := by decide +kernel
theorem dX5_kind_3 : decode cX5_kind 3 = .ok (.invokestatic 47, 3) := by decide +kernel
theorem dX5_kind_6 : decode cX5_kind 6 = .ok (.ifCond .eq 25, 3) := by decide +kernel
theorem dX5_kind_9 : decode cX5_kind 9 = .ok (.iload_n 2, 1) := by decide +kernel
theorem dX5_kind_10 : decode cX5_kind 10 = .ok (.iconst 1, 1) := by decide +kernel
theorem dX5_kind_11 : decode cX5_kind 11 = .ok (.iconst 3, 1) := by decide +kernel
theorem dX5_kind_12 : decode cX5_kind 12 = .ok (.invokestatic 47, 3) := by decide +kernel
theorem dX5_kind_15 : decode cX5_kind 15 = .ok (.ifCond .eq 16, 3) := by decide +kernel
theorem dX5_kind_18 : decode cX5_kind 18 = .ok (.iload_n 3, 1) := by decide +kernel
theorem dX5_kind_19 : decode cX5_kind 19 = .ok (.iconst 1, 1) := by decide +kernel
theorem dX5_kind_20 : decode cX5_kind 20 = .ok (.iconst 4, 1) := by decide +kernel
theorem dX5_kind_21 : decode cX5_kind 21 = .ok (.invokestatic 47, 3) := by decide +kernel
theorem dX5_kind_24 : decode cX5_kind 24 = .ok (.ifCond .eq 7, 3) := by decide +kernel
theorem dX5_kind_27 : decode cX5_kind 27 = .ok (.iconst 1, 1) := by decide +kernel
theorem dX5_kind_28 : decode cX5_kind 28 = .ok (.goto 4, 3) := by decide +kernel
theorem dX5_kind_31 : decode cX5_kind 31 = .ok (.iconst 0, 1) := by decide +kernel
theorem dX5_kind_32 : decode cX5_kind 32 = .ok (.istore 7, 2) := by decide +kernel
theorem dX5_kind_34 : decode cX5_kind 34 = .ok (.iload 4, 2) := by decide +kernel
theorem dX5_kind_36 : decode cX5_kind 36 = .ok (.iconst 1, 1) := by decide +kernel
theorem dX5_kind_37 : decode cX5_kind 37 = .ok (.bipush 60, 2) := by decide +kernel
theorem dX5_kind_39 : decode cX5_kind 39 = .ok (.invokestatic 47, 3) := by decide +kernel
theorem dX5_kind_42 : decode cX5_kind 42 = .ok (.ifCond .eq 29, 3) := by decide +kernel
theorem dX5_kind_45 : decode cX5_kind 45 = .ok (.iload 5, 2) := by decide +kernel
theorem dX5_kind_47 : decode cX5_kind 47 = .ok (.iconst 0, 1) := by decide +kernel
theorem dX5_kind_48 : decode cX5_kind 48 = .ok (.iconst 2, 1) := by decide +kernel
theorem dX5_kind_49 : decode cX5_kind 49 = .ok (.invokestatic 47, 3) := by decide +kernel
theorem dX5_kind_52 : decode cX5_kind 52 = .ok (.ifCond .eq 19, 3) := by decide +kernel
theorem dX5_kind_55 : decode cX5_kind 55 = .ok (.iload 6, 2) := by decide +kernel
theorem dX5_kind_57 : decode cX5_kind 57 = .ok (.iconst 0, 1) := by decide +kernel
theorem dX5_kind_58 : decode cX5_kind 58 = .ok (.sipush 200, 3) := by decide +kernel
theorem dX5_kind_61 : decode cX5_kind 61 = .ok (.invokestatic 47, 3) := by decide +kernel
theorem dX5_kind_64 : decode cX5_kind 64 = .ok (.ifCond .eq 7, 3) := by decide +kernel
theorem dX5_kind_67 : decode cX5_kind 67 = .ok (.iconst 1, 1) := by decide +kernel
theorem dX5_kind_68 : decode cX5_kind 68 = .ok (.goto 4, 3) := by decide +kernel
theorem dX5_kind_71 : decode cX5_kind 71 = .ok (.iconst 0, 1) := by decide +kernel
theorem dX5_kind_72 : decode cX5_kind 72 = .ok (.istore 8, 2) := by decide +kernel
theorem dX5_kind_74 : decode cX5_kind 74 = .ok (.iload 7, 2) := by decide +kernel
theorem dX5_kind_76 : decode cX5_kind 76 = .ok (.ifCond .eq 8, 3) := by decide +kernel
theorem dX5_kind_79 : decode cX5_kind 79 = .ok (.iload 8, 2) := by decide +kernel
theorem dX5_kind_81 : decode cX5_kind 81 = .ok (.ifCond .ne 13, 3) := by decide +kernel
theorem dX5_kind_84 : decode cX5_kind 84 = .ok (.new 51, 3) := by decide +kernel
theorem dX5_kind_87 : decode cX5_kind 87 = .ok (.dup, 1) := by decide +kernel
theorem dX5_kind_88 : decode cX5_kind 88 = .ok (.ldc 53, 2) := by decide +kernel
theorem dX5_kind_90 : decode cX5_kind 90 = .ok (.invokespecial 55, 3) := by decide +kernel
theorem dX5_kind_93 : decode cX5_kind 93 = .ok (.athrow, 1) := by decide +kernel
theorem dX5_kind_94 : decode cX5_kind 94 = .ok (.aload_n 0, 1) := by decide +kernel
theorem dX5_kind_95 : decode cX5_kind 95 = .ok (.getfield 10, 3) := by decide +kernel
theorem dX5_kind_98 : decode cX5_kind 98 = .ok (.invokevirtual 58, 3) := by decide +kernel
theorem dX5_kind_101 : decode cX5_kind 101 = .ok (.iconst 5, 1) := by decide +kernel
theorem dX5_kind_102 : decode cX5_kind 102 = .ok (.if_icmp .lt 13, 3) := by decide +kernel
theorem dX5_kind_115 : decode cX5_kind 115 = .ok (.aload_n 0, 1) := by decide +kernel
theorem dX5_kind_116 : decode cX5_kind 116 = .ok (.getfield 10, 3) := by decide +kernel
theorem dX5_kind_119 : decode cX5_kind 119 = .ok (.invokevirtual 58, 3) := by decide +kernel
theorem dX5_kind_122 : decode cX5_kind 122 = .ok (.istore 9, 2) := by decide +kernel
theorem dX5_kind_124 : decode cX5_kind 124 = .ok (.aload_n 0, 1) := by decide +kernel
theorem dX5_kind_125 : decode cX5_kind 125 = .ok (.getfield 10, 3) := by decide +kernel
theorem dX5_kind_128 : decode cX5_kind 128 = .ok (.new 67, 3) := by decide +kernel
theorem dX5_kind_131 : decode cX5_kind 131 = .ok (.dup, 1) := by decide +kernel
theorem dX5_kind_132 : decode cX5_kind 132 = .ok (.iload 9, 2) := by decide +kernel
theorem dX5_kind_134 : decode cX5_kind 134 = .ok (.iload_n 1, 1) := by decide +kernel
theorem dX5_kind_135 : decode cX5_kind 135 = .ok (.iload_n 2, 1) := by decide +kernel
theorem dX5_kind_136 : decode cX5_kind 136 = .ok (.iload_n 3, 1) := by decide +kernel
theorem dX5_kind_137 : decode cX5_kind 137 = .ok (.iload 4, 2) := by decide +kernel
theorem dX5_kind_139 : decode cX5_kind 139 = .ok (.iload 5, 2) := by decide +kernel
theorem dX5_kind_141 : decode cX5_kind 141 = .ok (.iload 6, 2) := by decide +kernel
theorem dX5_kind_143 : decode cX5_kind 143 = .ok (.invokespecial 69, 3) := by decide +kernel
theorem dX5_kind_146 : decode cX5_kind 146 = .ok (.invokevirtual 72, 3) := by decide +kernel
theorem dX5_kind_149 : decode cX5_kind 149 = .ok (.pop, 1) := by decide +kernel
theorem dX5_kind_150 : decode cX5_kind 150 = .ok (.iload 9, 2) := by decide +kernel
theorem dX5_kind_152 : decode cX5_kind 152 = .ok (.ireturn, 1) := by decide +kernel
theorem dX5_person_0 : decode cX5_person 0 = .ok (.aload_n 0, 1) := by decide +kernel
theorem dX5_person_1 : decode cX5_person 1 = .ok (.getfield 33, 3) := by decide +kernel
theorem dX5_person_4 : decode cX5_person 4 = .ok (.istore_n 3, 1) := by decide +kernel
theorem dX5_person_5 : decode cX5_person 5 = .ok (.aload_n 0, 1) := by decide +kernel
theorem dX5_person_6 : decode cX5_person 6 = .ok (.iload_n 1, 1) := by decide +kernel
theorem dX5_person_7 : decode cX5_person 7 = .ok (.putfield 33, 3) := by decide +kernel
theorem dX5_person_10 : decode cX5_person 10 = .ok (.aload_n 0, 1) := by decide +kernel
theorem dX5_person_11 : decode cX5_person 11 = .ok (.getfield 29, 3) := by decide +kernel
theorem dX5_person_14 : decode cX5_person 14 = .ok (.iload_n 2, 1) := by decide +kernel
theorem dX5_person_15 : decode cX5_person 15 = .ok (.putfield 137, 3) := by decide +kernel
theorem dX5_person_18 : decode cX5_person 18 = .ok (.iload_n 3, 1) := by decide +kernel
theorem dX5_person_19 : decode cX5_person 19 = .ok (.ireturn, 1) := by decide +kernel
set_option maxRecDepth 20000 in
theorem ggX5_box_X5_isWithin : GoodIn wsX5_box wsX5_isWithin := goodIn_r _ [13] (by decide +kernel) (by decide +kernel)
set_option maxRecDepth 20000 in
theorem gX5_box_X5_isWithin : GoodIn wsX5_box (va_wsS RX5 47 yX5_isWithin wsX5_isWithin) := goodIn_app (goodIn_of _ (by decide +kernel)) ggX5_box_X5_isWithin
set_option maxRecDepth 20000 in
theorem ggX5_box_X5_wishesUnknownKind : GoodIn wsX5_box wsX5_wishesUnknownKind := goodIn_r _ [17, 18, 19, 20, 21, 22, 23, 24, 104, 105, 106, 107, 108, 109, 110, 111, 116, 117, 118] (by decide +kernel) (by decide +kernel)
set_option maxRecDepth 20000 in
theorem gX5_box_X5_wishesUnknownKind : GoodIn wsX5_box (wsV RX5 141 RX5 yX5_wishesUnknownKind wsX5_wishesUnknownKind) := goodIn_app (goodIn_of _ (by decide +kernel)) ggX5_box_X5_wishesUnknownKind
theorem dX5_box_0 : decode cX5_box 0 = .ok (.iload_n 1, 1) := by decide +kernel
theorem dX5_box_1 : decode cX5_box 1 = .ok (.iconst 1, 1) := by decide +kernel
theorem dX5_box_2 : decode cX5_box 2 = .ok (.ldc 140, 2) := by decide +kernel
theorem dX5_box_4 : decode cX5_box 4 = .ok (.invokestatic 47, 3) := by decide +kernel
theorem dX5_box_7 : decode cX5_box 7 = .ok (.ifCond .eq 11, 3) := by decide +kernel
theorem dX5_box_10 : decode cX5_box 10 = .ok (.aload_n 0, 1) := by decide +kernel
theorem dX5_box_11 : decode cX5_box 11 = .ok (.iload_n 1, 1) := by decide +kernel
theorem dX5_box_12 : decode cX5_box 12 = .ok (.invokevirtual 141, 3) := by decide +kernel
theorem dX5_box_15 : decode cX5_box 15 = .ok (.ifCond .eq 13, 3) := by decide +kernel
theorem dX5_box_18 : decode cX5_box 18 = .ok (.new 51, 3) := by decide +kernel
theorem dX5_box_21 : decode cX5_box 21 = .ok (.dup, 1) := by decide +kernel
theorem dX5_box_22 : decode cX5_box 22 = .ok (.ldc 145, 2) := by decide +kernel
theorem dX5_box_24 : decode cX5_box 24 = .ok (.invokespecial 55, 3) := by decide +kernel
theorem dX5_box_27 : decode cX5_box 27 = .ok (.athrow, 1) := by decide +kernel
theorem dX5_clock_0 : decode cX5_clock 0 = .ok (.aload_n 0, 1) := by decide +kernel
theorem dX5_clock_1 : decode cX5_clock 1 = .ok (.getfield 29, 3) := by decide +kernel
theorem dX5_clock_4 : decode cX5_clock 4 = .ok (.getfield 266, 3) := by decide +kernel
theorem dX5_clock_7 : decode cX5_clock 7 = .ok (.dreturn, 1) := by decide +kernel
set_option maxRecDepth 20000 in
theorem ggX5_seen_X5_areInBin : GoodIn wsX5_seen wsX5_areInBin := goodIn_r _ [7] (by decide +kernel) (by decide +kernel)
set_option maxRecDepth 20000 in
theorem gX5_seen_X5_areInBin : GoodIn wsX5_seen (va_wsS RX5 86 yX5_areInBin wsX5_areInBin) := goodIn_app (goodIn_of _ (by decide +kernel)) ggX5_seen_X5_areInBin
set_option maxRecDepth 20000 in
theorem ggX5_seen_X1_seenAt : GoodIn wsX5_seen wsX1_seenAt := goodIn_r _ [12, 13, 5, 6, 7, 22, 23, 24, 25] (by decide +kernel) (by decide +kernel)
set_option maxRecDepth 20000 in
theorem gX5_seen_X1_seenAt : GoodIn wsX5_seen (wsV RX5 275 RX1 yX1_seenAt wsX1_seenAt) := goodIn_app (goodIn_of _ (by decide +kernel)) ggX5_seen_X1_seenAt
theorem dX5_seen_0 : decode cX5_seen 0 = .ok (.iload_n 1, 1) := by decide +kernel
theorem dX5_seen_1 : decode cX5_seen 1 = .ok (.iload_n 2, 1) := by decide +kernel
theorem dX5_seen_2 : decode cX5_seen 2 = .ok (.iconst 1, 1) := by decide +kernel
theorem dX5_seen_3 : decode cX5_seen 3 = .ok (.iconst 1, 1) := by decide +kernel
theorem dX5_seen_4 : decode cX5_seen 4 = .ok (.invokestatic 86, 3) := by decide +kernel
theorem dX5_seen_7 : decode cX5_seen 7 = .ok (.ifCond .ne 14, 3) := by decide +kernel
theorem dX5_seen_10 : decode cX5_seen 10 = .ok (.new 270, 3) := by decide +kernel
theorem dX5_seen_13 : decode cX5_seen 13 = .ok (.dup, 1) := by decide +kernel
theorem dX5_seen_14 : decode cX5_seen 14 = .ok (.ldc_w 272, 3) := by decide +kernel
theorem dX5_seen_17 : decode cX5_seen 17 = .ok (.invokespecial 274, 3) := by decide +kernel
theorem dX5_seen_20 : decode cX5_seen 20 = .ok (.athrow, 1) := by decide +kernel
theorem dX5_seen_21 : decode cX5_seen 21 = .ok (.aload_n 0, 1) := by decide +kernel
theorem dX5_seen_22 : decode cX5_seen 22 = .ok (.getfield 19, 3) := by decide +kernel
theorem dX5_seen_25 : decode cX5_seen 25 = .ok (.iload_n 1, 1) := by decide +kernel
theorem dX5_seen_26 : decode cX5_seen 26 = .ok (.iload_n 2, 1) := by decide +kernel
theorem dX5_seen_27 : decode cX5_seen 27 = .ok (.invokevirtual 275, 3) := by decide +kernel
theorem dX5_seen_30 : decode cX5_seen 30 = .ok (.ireturn, 1) := by decide +kernel
set_option maxRecDepth 20000 in
theorem ggX5_digest_X5_many : GoodIn wsX5_digest wsX5_many := goodIn_ca (goodIn_r _ [15, 16, 17, 6, 7, 8, 10, 3, 18, 19, 20, 21, 22, 23, 24, 25, 26, 27, 28, 29, 30, 31, 32, 33, 34, 35, 36, 37, 38, 39, 40, 41, 42, 43, 44, 45, 46, 47, 48, 49, 50, 51, 52, 53, 54, 55, 56, 57, 58, 59, 60, 61, 62, 63, 14, 64, 65, 66, 67, 68, 69, 70, 71, 72, 73, 74, 75, 76, 77, 78, 79, 80, 81, 82, 83, 84, 85, 86, 311, 312, 313, 314, 315, 316, 317, 318, 325, 326, 327, 328, 319, 320, 321, 322, 323, 324, 329, 330, 331, 332, 333, 334, 335, 336, 337, 338, 339, 340, 341, 342, 343, 344, 345] (by decide +kernel) (by decide +kernel)) (goodIn_sub (fun _ h => List.mem_cons_of_mem _ (List.mem_append_left _ (List.mem_append_right _ h))) (by decide +kernel))
set_option maxRecDepth 20000 in
theorem gX5_digest_X5_many : GoodIn wsX5_digest (wsV RX5 321 RX5 yX5_many wsX5_many) := goodIn_app (goodIn_of _ (by decide +kernel)) ggX5_digest_X5_many
set_option maxRecDepth 20000 in
theorem ggX5_digest_Jx4a65c_size_8abf5 : GoodIn wsX5_digest wsJx4a65c_size_8abf5 := goodIn_r _ [28, 29, 329, 330, 331] (by decide +kernel) (by decide +kernel)
set_option maxRecDepth 20000 in
theorem gX5_digest_Jx4a65c_size_8abf5 : GoodIn wsX5_digest (wsV RX5 58 RJx4a65c yJx4a65c_size_8abf5 wsJx4a65c_size_8abf5) := goodIn_app (goodIn_of _ (by decide +kernel)) ggX5_digest_Jx4a65c_size_8abf5
theorem dX5_digest_0 : decode cX5_digest 0 = .ok (.ldc2_w 317, 3) := by decide +kernel
theorem dX5_digest_3 : decode cX5_digest 3 = .ok (.lstore_n 1, 1) := by decide +kernel
theorem dX5_digest_4 : decode cX5_digest 4 = .ok (.iconst 0, 1) := by decide +kernel
theorem dX5_digest_5 : decode cX5_digest 5 = .ok (.istore_n 3, 1) := by decide +kernel
theorem dX5_digest_6 : decode cX5_digest 6 = .ok (.iload_n 3, 1) := by decide +kernel
theorem dX5_digest_7 : decode cX5_digest 7 = .ok (.bipush 12, 2) := by decide +kernel
theorem dX5_digest_9 : decode cX5_digest 9 = .ok (.if_icmp .gt 22, 3) := by decide +kernel
theorem dX5_digest_12 : decode cX5_digest 12 = .ok (.lload_n 1, 1) := by decide +kernel
theorem dX5_digest_13 : decode cX5_digest 13 = .ok (.ldc2_w 319, 3) := by decide +kernel
theorem dX5_digest_16 : decode cX5_digest 16 = .ok (.lmul, 1) := by decide +kernel
theorem dX5_digest_17 : decode cX5_digest 17 = .ok (.aload_n 0, 1) := by decide +kernel
theorem dX5_digest_18 : decode cX5_digest 18 = .ok (.iload_n 3, 1) := by decide +kernel
theorem dX5_digest_19 : decode cX5_digest 19 = .ok (.invokevirtual 321, 3) := by decide +kernel
theorem dX5_digest_22 : decode cX5_digest 22 = .ok (.i2l, 1) := by decide +kernel
theorem dX5_digest_23 : decode cX5_digest 23 = .ok (.ladd, 1) := by decide +kernel
theorem dX5_digest_24 : decode cX5_digest 24 = .ok (.lstore_n 1, 1) := by decide +kernel
theorem dX5_digest_25 : decode cX5_digest 25 = .ok (.iinc 3 1, 3) := by decide +kernel
theorem dX5_digest_28 : decode cX5_digest 28 = .ok (.goto (-22), 3) := by decide +kernel
theorem dX5_digest_31 : decode cX5_digest 31 = .ok (.lload_n 1, 1) := by decide +kernel
theorem dX5_digest_32 : decode cX5_digest 32 = .ok (.ldc2_w 319, 3) := by decide +kernel
theorem dX5_digest_35 : decode cX5_digest 35 = .ok (.lmul, 1) := by decide +kernel
theorem dX5_digest_36 : decode cX5_digest 36 = .ok (.aload_n 0, 1) := by decide +kernel
theorem dX5_digest_37 : decode cX5_digest 37 = .ok (.getfield 29, 3) := by decide +kernel
theorem dX5_digest_40 : decode cX5_digest 40 = .ok (.getfield 266, 3) := by decide +kernel
theorem dX5_digest_43 : decode cX5_digest 43 = .ok (.ldc2_w 324, 3) := by decide +kernel
theorem dX5_digest_46 : decode cX5_digest 46 = .ok (.dmul, 1) := by decide +kernel
theorem dX5_digest_47 : decode cX5_digest 47 = .ok (.d2l, 1) := by decide +kernel
theorem dX5_digest_48 : decode cX5_digest 48 = .ok (.ladd, 1) := by decide +kernel
theorem dX5_digest_49 : decode cX5_digest 49 = .ok (.lstore_n 1, 1) := by decide +kernel
theorem dX5_digest_50 : decode cX5_digest 50 = .ok (.iconst 0, 1) := by decide +kernel
theorem dX5_digest_51 : decode cX5_digest 51 = .ok (.istore_n 3, 1) := by decide +kernel
theorem dX5_digest_52 : decode cX5_digest 52 = .ok (.iload_n 3, 1) := by decide +kernel
theorem dX5_digest_53 : decode cX5_digest 53 = .ok (.aload_n 0, 1) := by decide +kernel
theorem dX5_digest_54 : decode cX5_digest 54 = .ok (.getfield 10, 3) := by decide +kernel
theorem dX5_digest_57 : decode cX5_digest 57 = .ok (.invokevirtual 58, 3) := by decide +kernel
theorem dX5_digest_60 : decode cX5_digest 60 = .ok (.if_icmp .ge 37, 3) := by decide +kernel
theorem dX5_digest_97 : decode cX5_digest 97 = .ok (.iconst 0, 1) := by decide +kernel
theorem dX5_digest_98 : decode cX5_digest 98 = .ok (.istore_n 3, 1) := by decide +kernel
theorem dX5_digest_99 : decode cX5_digest 99 = .ok (.iload_n 3, 1) := by decide +kernel
theorem dX5_digest_100 : decode cX5_digest 100 = .ok (.aload_n 0, 1) := by decide +kernel
theorem dX5_digest_101 : decode cX5_digest 101 = .ok (.getfield 19, 3) := by decide +kernel
theorem dX5_digest_104 : decode cX5_digest 104 = .ok (.getfield 92, 3) := by decide +kernel
theorem dX5_digest_107 : decode cX5_digest 107 = .ok (.invokevirtual 58, 3) := by decide +kernel
theorem dX5_digest_110 : decode cX5_digest 110 = .ok (.if_icmp .ge 29, 3) := by decide +kernel
theorem dX5_digest_139 : decode cX5_digest 139 = .ok (.iconst 0, 1) := by decide +kernel
theorem dX5_digest_140 : decode cX5_digest 140 = .ok (.istore_n 3, 1) := by decide +kernel
theorem dX5_digest_141 : decode cX5_digest 141 = .ok (.iload_n 3, 1) := by decide +kernel
theorem dX5_digest_142 : decode cX5_digest 142 = .ok (.aload_n 0, 1) := by decide +kernel
theorem dX5_digest_143 : decode cX5_digest 143 = .ok (.getfield 23, 3) := by decide +kernel
theorem dX5_digest_146 : decode cX5_digest 146 = .ok (.invokevirtual 58, 3) := by decide +kernel
theorem dX5_digest_149 : decode cX5_digest 149 = .ok (.if_icmp .ge 16, 3) := by decide +kernel
theorem dX5_digest_165 : decode cX5_digest 165 = .ok (.lload_n 1, 1) := by decide +kernel
theorem dX5_digest_166 : decode cX5_digest 166 = .ok (.lreturn, 1) := by decide +kernel
set_option maxRecDepth 20000 in
theorem ggX5_wishesUnknownKind_Jx4a65c_size_8abf5 : GoodIn wsX5_wishesUnknownKind wsJx4a65c_size_8abf5 := goodIn_r _ [6, 7, 16, 17, 18] (by decide +kernel) (by decide +kernel)
set_option maxRecDepth 20000 in
theorem gX5_wishesUnknownKind_Jx4a65c_size_8abf5 : GoodIn wsX5_wishesUnknownKind (wsV RX5 58 RJx4a65c yJx4a65c_size_8abf5 wsJx4a65c_size_8abf5) := goodIn_app (goodIn_of _ (by decide +kernel)) ggX5_wishesUnknownKind_Jx4a65c_size_8abf5
theorem dX5_wishesUnknownKind_0 : decode cX5_wishesUnknownKind 0 = .ok (.iload_n 1, 1) := by decide +kernel
theorem dX5_wishesUnknownKind_1 : decode cX5_wishesUnknownKind 1 = .ok (.istore_n 2, 1) := by decide +kernel
theorem dX5_wishesUnknownKind_2 : decode cX5_wishesUnknownKind 2 = .ok (.iconst 0, 1) := by decide +kernel
theorem dX5_wishesUnknownKind_3 : decode cX5_wishesUnknownKind 3 = .ok (.istore_n 3, 1) := by decide +kernel
theorem dX5_wishesUnknownKind_4 : decode cX5_wishesUnknownKind 4 = .ok (.iload_n 3, 1) := by decide +kernel
theorem dX5_wishesUnknownKind_5 : decode cX5_wishesUnknownKind 5 = .ok (.aload_n 0, 1) := by decide +kernel
theorem dX5_wishesUnknownKind_6 : decode cX5_wishesUnknownKind 6 = .ok (.getfield 10, 3) := by decide +kernel
theorem dX5_wishesUnknownKind_9 : decode cX5_wishesUnknownKind 9 = .ok (.invokevirtual 58, 3) := by decide +kernel
theorem dX5_wishesUnknownKind_12 : decode cX5_wishesUnknownKind 12 = .ok (.if_icmp .ge 14, 3) := by decide +kernel
theorem dX5_wishesUnknownKind_26 : decode cX5_wishesUnknownKind 26 = .ok (.iload_n 2, 1) := by decide +kernel
theorem dX5_wishesUnknownKind_27 : decode cX5_wishesUnknownKind 27 = .ok (.ifCond .le 7, 3) := by decide +kernel
theorem dX5_wishesUnknownKind_30 : decode cX5_wishesUnknownKind 30 = .ok (.iconst 1, 1) := by decide +kernel
theorem dX5_wishesUnknownKind_31 : decode cX5_wishesUnknownKind 31 = .ok (.goto 4, 3) := by decide +kernel
theorem dX5_wishesUnknownKind_35 : decode cX5_wishesUnknownKind 35 = .ok (.ireturn, 1) := by decide +kernel
set_option maxHeartbeats 4000000 in
set_option maxRecDepth 100000 in
/-- wishesUnknownKind(order) without kinds -/
theorem c_wishesUnknownKind (l : Launch) (D : va_G) (e0 sz : Nat) (x xk xb xo xa : Nat) (near : Int32) (p0 : Int32) (h0 : ¬ p0 ≤ 0) : Ki (S := Unit) l yX5_wishesUnknownKind wsX5_wishesUnknownKind ({ frames := 1, cells := 0, slots := 0, locals := 20 } : Room) [.ref x, .int p0] D [(x, .inr (7, [.ref xk, .ref xb, .ref xo, .ref xa, .int near, .int 0, .int 0, .int 0])), (xk, .inr (1, [.int 0, .ref e0, .int 0]))] [] e0 sz (fun r _ => r = 1) (fun _ => [(x, .inr (7, [.ref xk, .ref xb, .ref xo, .ref xa, .int near, .int 0, .int 0, .int 0])), (xk, .inr (1, [.int 0, .ref e0, .int 0]))]) (fun _ => []) 0 0 := by
  refine Met.ofW (cc := cX5_wishesUnknownKind) (maxL := 4) (ret := (some .boolean)) (by decide) rfl ?_
  intro p e s m args below meth c s₁ B hml hv
  obtain ⟨rfl, hsz, hP, hK, hD0, hE⟩ := hv
  have hx := B.exec
  have hb := B.bytes
  have hr := B.returns
  have hts := atoms_spec (ws := wsX5_wishesUnknownKind) B.pre
  have hown : s.vm.findClass RX5 = some m.cls := findClass_of_methodNamed B.named
  have hlocks := B.notSynchronized
  subst hsz
  have hD := hD0.self (sz := s.heap.size)
  generalize hAe : va_A [(x, .inr (7, [.ref xk, .ref xb, .ref xo, .ref xa, .int near, .int 0, .int 0, .int 0])), (xk, .inr (1, [.int 0, .ref e0, .int 0]))] s.heap.size = A at hD hE ⊢
  have hA : ∀ q : Nat, s.heap.size ≤ q → A q := fun q h => by rw [← hAe]; exact Or.inr h
  have hS : va_S A s.heap s.heap [] := va_S.rf
  have hP : va_P D vwCl [(x, .inr (7, [.ref xk, .ref xb, .ref xo, .ref xa, .int near, .int 0, .int 0, .int 0])), (xk, .inr (1, [.int 0, .ref e0, .int 0]))] s.heap := hP
  have hl := lv_entry ([.ref x, .int p0]) (n := 4) (Nat.le_of_ble_eq_true rfl)
  rw [lg_entry_eq]
  generalize (lg_sl ([.ref x, .int p0]) ++ List.replicate (4 - (lg_sl ([.ref x, .int p0])).length) Slot.unset).toArray = ls at hl ⊢
  have hl : lv_has ls 4 [(0, .ref x), (1, .int p0)] := hl
  refine lv_iload_n hx hb dX5_wishesUnknownKind_0 rfl (lv_at hl 1 rfl) ?_
  refine lv_istore_n (lv' := [(2, .int p0), (0, .ref x), (1, .int p0)]) hx hb dX5_wishesUnknownKind_1 rfl hl (by decide) rfl (fun ls hl => ?_)
  refine lv_iconst (v := 0) hx hb dX5_wishesUnknownKind_2 (by decide) ?_
  refine lv_istore_n (lv' := [(3, .int 0), (2, .int p0), (0, .ref x), (1, .int p0)]) hx hb dX5_wishesUnknownKind_3 rfl hl (by decide) rfl (fun ls hl => ?_)
  refine lv_iload_n hx hb dX5_wishesUnknownKind_4 rfl (lv_at hl 0 rfl) ?_
  refine lv_aload_n hx hb dX5_wishesUnknownKind_5 rfl (lv_at hl 2 rfl) ?_
  refine va_get (D := D) (ci := 7) (v := .ref xk) (C := RX5) (T := TX5) (N := 8) hx hb hts (by decide +kernel) hown hK hP 0 rfl rfl 0 (by decide) (hts (.fieldLink RX5 10 "PickCell" "kinds" "Ljava/util/ArrayList;") (by decide +kernel)) (fun _ h9 => h9) rfl dX5_wishesUnknownKind_6 ?_
  refine kV_i (As := []) (rest := [.int 0]) (wr := [(x, .inr (7, [.ref xk, .ref xb, .ref xo, .ref xa, .int near, .int 0, .int 0, .int 0]))]) ⟨hx, hb, hml, hown, hts⟩ (c_size l D e0 _ xk 0 0 (.ref e0)) (cwV 0 hts gX5_wishesUnknownKind_Jx4a65c_size_8abf5 rfl rfl rfl (by decide +kernel) ⟨Nat.le_of_ble_eq_true rfl, Nat.le_of_ble_eq_true rfl⟩) hP hD hK hS hA hE rfl [1] [0] [] rfl rfl (by decide) (by decide) (by decide) rfl 1 1 rfl rfl rfl rfl hl.1 (Nat.le_of_ble_eq_true rfl) dX5_wishesUnknownKind_9 ⟨Nat.le_of_ble_eq_true rfl, Nat.le_of_ble_eq_true rfl⟩ (fun r_1 u9 H locs hw hP hD hK hS => ?_)
  have hw : r_1 = 0 := hw
  subst hw
  have hP : va_P D vwCl [(x, .inr (7, [.ref xk, .ref xb, .ref xo, .ref xa, .int near, .int 0, .int 0, .int 0])), (xk, .inr (1, [.int 0, .ref e0, .int 0]))] H := hP
  have hD : va_D A [(x, .inr (7, [.ref xk, .ref xb, .ref xo, .ref xa, .int near, .int 0, .int 0, .int 0])), (xk, .inr (1, [.int 0, .ref e0, .int 0]))] := hD
  have hK : va_K D vwCl [] s := hK
  refine lv_icmp_ge (tgt := 26) hx hb dX5_wishesUnknownKind_12 (by decide) (fun _ => ?_) (fun h9 => absurd (by decide) h9)
  refine lv_iload_n hx hb dX5_wishesUnknownKind_26 rfl (lv_at hl 1 rfl) ?_
  refine lv_if_le (tgt := 34) hx hb dX5_wishesUnknownKind_27 (by decide) (fun h9 => False.elim (h0 h9)) (fun c_27 => ?_)
  refine lv_iconst (v := 1) hx hb dX5_wishesUnknownKind_30 (by decide) ?_
  refine lv_goto (tgt := 35) hx hb dX5_wishesUnknownKind_31 (by decide) ?_
  exact end_i (v := 1) hx hb hr rfl hlocks hP hD hK hS () rfl [0, 1] [] rfl (by decide) rfl (Nat.le_of_ble_eq_true rfl) (Nat.le_of_ble_eq_true rfl) dX5_wishesUnknownKind_35
set_option maxHeartbeats 4000000 in
set_option maxRecDepth 100000 in
/-- box(order) without kinds -/
theorem c_box (l : Launch) (hl9 : l.stackTraces = false) (D : va_G) (e0 sz : Nat) (x xk xb xo xa : Nat) (near : Int32) (p0 : Int32) : KT l yX5_box wsX5_box ({ frames := 6, cells := 1, slots := 6, locals := 84 } : Room) [.ref x, .int p0] D [(x, .inr (7, [.ref xk, .ref xb, .ref xo, .ref xa, .int near, .int 0, .int 0, .int 0])), (xk, .inr (1, [.int 0, .ref e0, .int 0]))] [] e0 sz "java/lang/IllegalArgumentException" 1 6 := by
  refine vx_ofW (cc := cX5_box) (maxL := 3) (ret := (some .int)) (by decide) rfl ?_
  intro p e s m args below meth c s₁ B hml ht0 hv
  obtain ⟨rfl, hsz, hP, hK, hD0, hE⟩ := hv
  have hx := B.exec
  have hb := B.bytes
  have hr := B.returns
  have hts := atoms_spec (ws := wsX5_box) B.pre
  have hown : s.vm.findClass RX5 = some m.cls := findClass_of_methodNamed B.named
  have hlocks := B.notSynchronized
  subst hsz
  have hD := hD0.self (sz := s.heap.size)
  generalize hAe : va_A [(x, .inr (7, [.ref xk, .ref xb, .ref xo, .ref xa, .int near, .int 0, .int 0, .int 0])), (xk, .inr (1, [.int 0, .ref e0, .int 0]))] s.heap.size = A at hD hE ⊢
  have hA : ∀ q : Nat, s.heap.size ≤ q → A q := fun q h => by rw [← hAe]; exact Or.inr h
  have hS : va_S A s.heap s.heap [] := va_S.rf
  have hP : va_P D vwCl [(x, .inr (7, [.ref xk, .ref xb, .ref xo, .ref xa, .int near, .int 0, .int 0, .int 0])), (xk, .inr (1, [.int 0, .ref e0, .int 0]))] s.heap := hP
  have hl := lv_entry ([.ref x, .int p0]) (n := 3) (Nat.le_of_ble_eq_true rfl)
  rw [lg_entry_eq]
  generalize (lg_sl ([.ref x, .int p0]) ++ List.replicate (3 - (lg_sl ([.ref x, .int p0])).length) Slot.unset).toArray = ls at hl ⊢
  have hl : lv_has ls 3 [(0, .ref x), (1, .int p0)] := hl
  refine lv_iload_n hx hb dX5_box_0 rfl (lv_at hl 1 rfl) ?_
  refine lv_iconst (v := 1) hx hb dX5_box_1 (by decide) ?_
  refine lv_ldc hx hb hown (hts (.constant RX5 140 99999) (by decide +kernel)) dX5_box_2 ?_
  refine kS_i (As := [.int p0, .int 1, .int 99999]) (rest := []) (wr := [(x, .inr (7, [.ref xk, .ref xb, .ref xo, .ref xa, .int near, .int 0, .int 0, .int 0])), (xk, .inr (1, [.int 0, .ref e0, .int 0]))]) ⟨hx, hb, hml, hown, hts⟩ (c_isWithin l D e0 _ p0 1 99999) (va_cwS 3 hts gX5_box_X5_isWithin rfl rfl rfl (by decide +kernel) ⟨Nat.le_of_ble_eq_true rfl, Nat.le_of_ble_eq_true rfl⟩) hP hD hK hS hA hE rfl [] [0, 1] [] rfl rfl (by decide) (by decide) (by decide) rfl rfl hl.1 (Nat.le_of_ble_eq_true rfl) dX5_box_4 ⟨Nat.le_of_ble_eq_true rfl, Nat.le_of_ble_eq_true rfl⟩ (fun r_1 u9 H locs hw hP hD hK hS => ?_)
  have hw : r_1 = (isW p0 1 99999) := hw
  subst hw
  have hP : va_P D vwCl [(x, .inr (7, [.ref xk, .ref xb, .ref xo, .ref xa, .int near, .int 0, .int 0, .int 0])), (xk, .inr (1, [.int 0, .ref e0, .int 0]))] H := hP
  have hD : va_D A [(x, .inr (7, [.ref xk, .ref xb, .ref xo, .ref xa, .int near, .int 0, .int 0, .int 0])), (xk, .inr (1, [.int 0, .ref e0, .int 0]))] := hD
  have hK : va_K D vwCl [] s := hK
  refine lv_if_eq (tgt := 18) hx hb dX5_box_7 (by decide) (fun c_7 => ?_) (fun c_7 => ?_)
  · exact kthrow (X := "java/lang/IllegalArgumentException") (tx := "no such order can be") (ik := 51) (is := 145) (ic := 55) ⟨hx, hb, hml, hown, hts⟩ hl9 hS hE (by decide) (by decide +kernel) (by decide +kernel) (by decide +kernel) (by decide +kernel) (by decide +kernel) (by decide +kernel) hl.1 dX5_box_18 dX5_box_21 dX5_box_22 dX5_box_24 dX5_box_27 ht0 (Nat.le_of_ble_eq_true rfl) (Nat.le_of_ble_eq_true rfl) (Nat.le_of_ble_eq_true rfl) (Nat.le_of_ble_eq_true rfl) hlocks trivial (Nat.le_of_ble_eq_true rfl) (Nat.le_of_ble_eq_true rfl)
  · refine lv_aload_n hx hb dX5_box_10 rfl (lv_at hl 0 rfl) ?_
    refine lv_iload_n hx hb dX5_box_11 rfl (lv_at hl 1 rfl) ?_
    refine kV_i (As := [.int p0]) (rest := []) (wr := []) ⟨hx, hb, hml, hown, hts⟩ (c_wishesUnknownKind l D e0 _ x xk xb xo xa near p0 (isW_pos c_7)) (cwV 1 hts gX5_box_X5_wishesUnknownKind rfl rfl rfl (by decide +kernel) ⟨Nat.le_of_ble_eq_true rfl, Nat.le_of_ble_eq_true rfl⟩) hP hD hK hS hA hE rfl [0, 1] [] [] rfl rfl (by decide) (by decide) (by decide) rfl 7 0 rfl rfl rfl rfl hl.1 (Nat.le_of_ble_eq_true rfl) dX5_box_12 ⟨Nat.le_of_ble_eq_true rfl, Nat.le_of_ble_eq_true rfl⟩ (fun r_2 u9 H locs hw hP hD hK hS => ?_)
    have hw : r_2 = 1 := hw
    subst hw
    have hP : va_P D vwCl [(x, .inr (7, [.ref xk, .ref xb, .ref xo, .ref xa, .int near, .int 0, .int 0, .int 0])), (xk, .inr (1, [.int 0, .ref e0, .int 0]))] H := hP
    have hD : va_D A [(x, .inr (7, [.ref xk, .ref xb, .ref xo, .ref xa, .int near, .int 0, .int 0, .int 0])), (xk, .inr (1, [.int 0, .ref e0, .int 0]))] := hD
    have hK : va_K D vwCl [] s := hK
    refine lv_if_eq (tgt := 28) hx hb dX5_box_15 (by decide) (fun h9 => absurd h9 (by decide)) (fun _ => ?_)
    exact kthrow (X := "java/lang/IllegalArgumentException") (tx := "no such order can be") (ik := 51) (is := 145) (ic := 55) ⟨hx, hb, hml, hown, hts⟩ hl9 hS hE (by decide) (by decide +kernel) (by decide +kernel) (by decide +kernel) (by decide +kernel) (by decide +kernel) (by decide +kernel) hl.1 dX5_box_18 dX5_box_21 dX5_box_22 dX5_box_24 dX5_box_27 ht0 (Nat.le_of_ble_eq_true rfl) (Nat.le_of_ble_eq_true rfl) (Nat.le_of_ble_eq_true rfl) (Nat.le_of_ble_eq_true rfl) hlocks trivial (Nat.le_of_ble_eq_true rfl) (Nat.le_of_ble_eq_true rfl)
set_option maxHeartbeats 4000000 in
set_option maxRecDepth 100000 in
/-- person: nobody was near -/
theorem c_person (l : Launch) (D : va_G) (e0 sz : Nat) (x xk xb xo xa : Nat) (p0 p1 : Int32) (hb0 : p0 = 0 ∨ p0 = 1) (hb1 : p1 = 0 ∨ p1 = 1) : Ki (S := Unit) l yX5_person wsX5_person ({ frames := 0, cells := 0, slots := 0, locals := 0 } : Room) [.ref x, .int p0, .int p1] D [(x, .inr (7, [.ref xk, .ref xb, .ref xo, .ref xa, .int 0, .int 0, .int 0, .int 0])), (xa, .inr (2, [.int 0, .int 0, .int 0, .null, .int 0, .double 0]))] [] e0 sz (fun r _ => r = 0) (fun _ => []) (fun _ => []) 0 0 := by
  refine Met.ofW (cc := cX5_person) (maxL := 4) (ret := (some .boolean)) (by decide) rfl ?_
  intro p e s m args below meth c s₁ B hml hv
  obtain ⟨rfl, hsz, hP, hK, hD0, hE⟩ := hv
  have hx := B.exec
  have hb := B.bytes
  have hr := B.returns
  have hts := atoms_spec (ws := wsX5_person) B.pre
  have hown : s.vm.findClass RX5 = some m.cls := findClass_of_methodNamed B.named
  have hlocks := B.notSynchronized
  subst hsz
  have hD := hD0.self (sz := s.heap.size)
  generalize hAe : va_A [(x, .inr (7, [.ref xk, .ref xb, .ref xo, .ref xa, .int 0, .int 0, .int 0, .int 0])), (xa, .inr (2, [.int 0, .int 0, .int 0, .null, .int 0, .double 0]))] s.heap.size = A at hD hE ⊢
  have hA : ∀ q : Nat, s.heap.size ≤ q → A q := fun q h => by rw [← hAe]; exact Or.inr h
  have hS : va_S A s.heap s.heap [] := va_S.rf
  have hP : va_P D vwCl [(x, .inr (7, [.ref xk, .ref xb, .ref xo, .ref xa, .int 0, .int 0, .int 0, .int 0])), (xa, .inr (2, [.int 0, .int 0, .int 0, .null, .int 0, .double 0]))] s.heap := hP
  have hl := lv_entry ([.ref x, .int p0, .int p1]) (n := 4) (Nat.le_of_ble_eq_true rfl)
  rw [lg_entry_eq]
  generalize (lg_sl ([.ref x, .int p0, .int p1]) ++ List.replicate (4 - (lg_sl ([.ref x, .int p0, .int p1])).length) Slot.unset).toArray = ls at hl ⊢
  have hl : lv_has ls 4 [(0, .ref x), (1, .int p0), (2, .int p1)] := hl
  refine lv_aload_n hx hb dX5_person_0 rfl (lv_at hl 0 rfl) ?_
  refine va_get (D := D) (ci := 7) (v := .int 0) (C := RX5) (T := TX5) (N := 8) hx hb hts (by decide +kernel) hown hK hP 0 rfl rfl 4 (by decide) (hts (.fieldLink RX5 33 "PickCell" "personIsNear" "Z") (by decide +kernel)) (fun _ h9 => h9) rfl dX5_person_1 ?_
  refine lv_istore_n (lv' := [(3, .int 0), (0, .ref x), (1, .int p0), (2, .int p1)]) hx hb dX5_person_4 rfl hl (by decide) rfl (fun ls hl => ?_)
  refine lv_aload_n hx hb dX5_person_5 rfl (lv_at hl 1 rfl) ?_
  refine lv_iload_n hx hb dX5_person_6 rfl (lv_at hl 2 rfl) ?_
  refine va_put (D := D) (ci := 7) (v := .int p0) (ty := .boolean) (C := RX5) (T := TX5) (N := 8) hx hb hts (by decide +kernel) tyX5 tyX5_ok nmX5 hown hK hP hD hS 0 rfl rfl 4 (by decide) (hts (.fieldLink RX5 33 "PickCell" "personIsNear" "Z") (by decide +kernel)) (fun _ h9 => h9) rfl (by decide +kernel) (bool_nar hb0) (bool_fit hb0) (Nat.le_of_ble_eq_true rfl) dX5_person_7 (fun H locs hP hD hS => ?_)
  have hP : va_P D vwCl [(x, .inr (7, [.ref xk, .ref xb, .ref xo, .ref xa, .int p0, .int 0, .int 0, .int 0])), (xa, .inr (2, [.int 0, .int 0, .int 0, .null, .int 0, .double 0]))] H := hP
  have hD : va_D A [(x, .inr (7, [.ref xk, .ref xb, .ref xo, .ref xa, .int p0, .int 0, .int 0, .int 0])), (xa, .inr (2, [.int 0, .int 0, .int 0, .null, .int 0, .double 0]))] := hD
  refine lv_aload_n hx hb dX5_person_10 rfl (lv_at hl 1 rfl) ?_
  refine va_get (D := D) (ci := 7) (v := .ref xa) (C := RX5) (T := TX5) (N := 8) hx hb hts (by decide +kernel) hown hK hP 0 rfl rfl 3 (by decide) (hts (.fieldLink RX5 29 "PickCell" "arm" "LPickCell$Arm;") (by decide +kernel)) (fun _ h9 => h9) rfl dX5_person_11 ?_
  refine lv_iload_n hx hb dX5_person_14 rfl (lv_at hl 3 rfl) ?_
  refine va_put (D := D) (ci := 2) (v := .int p1) (ty := .boolean) (C := RX0) (T := TX0) (N := 6) hx hb hts (by decide +kernel) tyX0 tyX0_ok nmX0 hown hK hP hD hS 1 rfl rfl 4 (by decide) (hts (.fieldLink RX5 137 "PickCell$Arm" "isSlow" "Z") (by decide +kernel)) (fun _ h9 => h9) rfl (by decide +kernel) (bool_nar hb1) (bool_fit hb1) (Nat.le_of_ble_eq_true rfl) dX5_person_15 (fun H locs hP hD hS => ?_)
  have hP : va_P D vwCl [(x, .inr (7, [.ref xk, .ref xb, .ref xo, .ref xa, .int p0, .int 0, .int 0, .int 0])), (xa, .inr (2, [.int 0, .int 0, .int 0, .null, .int p1, .double 0]))] H := hP
  have hD : va_D A [(x, .inr (7, [.ref xk, .ref xb, .ref xo, .ref xa, .int p0, .int 0, .int 0, .int 0])), (xa, .inr (2, [.int 0, .int 0, .int 0, .null, .int p1, .double 0]))] := hD
  refine lv_iload_n hx hb dX5_person_18 rfl (lv_at hl 0 rfl) ?_
  exact end_i (v := 0) hx hb hr rfl hlocks hP hD hK hS () rfl [] [] rfl (by decide) rfl (Nat.le_of_ble_eq_true rfl) (Nat.le_of_ble_eq_true rfl) dX5_person_19
set_option maxHeartbeats 4000000 in
set_option maxRecDepth 100000 in
/-- clock(): 0.0 -/
theorem c_clock (l : Launch) (D : va_G) (e0 sz : Nat) (x xk xb xo xa : Nat) (near : Int32) : Kd (S := Unit) l yX5_clock wsX5_clock ({ frames := 0, cells := 0, slots := 0, locals := 0 } : Room) [.ref x] D [(x, .inr (7, [.ref xk, .ref xb, .ref xo, .ref xa, .int near, .int 0, .int 0, .int 0])), (xa, .inr (2, [.int 0, .int 0, .int 0, .null, .int 0, .double 0]))] [] e0 sz (fun r _ => r = 0) (fun _ => []) (fun _ => []) 0 0 := by
  refine Met.ofW (cc := cX5_clock) (maxL := 1) (ret := (some .double)) (by decide) rfl ?_
  intro p e s m args below meth c s₁ B hml hv
  obtain ⟨rfl, hsz, hP, hK, hD0, hE⟩ := hv
  have hx := B.exec
  have hb := B.bytes
  have hr := B.returns
  have hts := atoms_spec (ws := wsX5_clock) B.pre
  have hown : s.vm.findClass RX5 = some m.cls := findClass_of_methodNamed B.named
  have hlocks := B.notSynchronized
  subst hsz
  have hD := hD0.self (sz := s.heap.size)
  generalize hAe : va_A [(x, .inr (7, [.ref xk, .ref xb, .ref xo, .ref xa, .int near, .int 0, .int 0, .int 0])), (xa, .inr (2, [.int 0, .int 0, .int 0, .null, .int 0, .double 0]))] s.heap.size = A at hD hE ⊢
  have hA : ∀ q : Nat, s.heap.size ≤ q → A q := fun q h => by rw [← hAe]; exact Or.inr h
  have hS : va_S A s.heap s.heap [] := va_S.rf
  have hP : va_P D vwCl [(x, .inr (7, [.ref xk, .ref xb, .ref xo, .ref xa, .int near, .int 0, .int 0, .int 0])), (xa, .inr (2, [.int 0, .int 0, .int 0, .null, .int 0, .double 0]))] s.heap := hP
  have hl := lv_entry ([.ref x]) (n := 1) (Nat.le_of_ble_eq_true rfl)
  rw [lg_entry_eq]
  generalize (lg_sl ([.ref x]) ++ List.replicate (1 - (lg_sl ([.ref x])).length) Slot.unset).toArray = ls at hl ⊢
  have hl : lv_has ls 1 [(0, .ref x)] := hl
  refine lv_aload_n hx hb dX5_clock_0 rfl (lv_at hl 0 rfl) ?_
  refine va_get (D := D) (ci := 7) (v := .ref xa) (C := RX5) (T := TX5) (N := 8) hx hb hts (by decide +kernel) hown hK hP 0 rfl rfl 3 (by decide) (hts (.fieldLink RX5 29 "PickCell" "arm" "LPickCell$Arm;") (by decide +kernel)) (fun _ h9 => h9) rfl dX5_clock_1 ?_
  refine va_get (D := D) (ci := 2) (v := .double 0) (C := RX0) (T := TX0) (N := 6) hx hb hts (by decide +kernel) hown hK hP 1 rfl rfl 5 (by decide) (hts (.fieldLink RX5 266 "PickCell$Arm" "time" "D") (by decide +kernel)) (fun _ h9 => h9) rfl dX5_clock_4 ?_
  exact end_d (v := 0) hx hb hr hlocks hP hD hK hS () rfl [] [] rfl (by decide) rfl (Nat.le_of_ble_eq_true rfl) (Nat.le_of_ble_eq_true rfl) dX5_clock_7
set_option maxHeartbeats 4000000 in
set_option maxRecDepth 100000 in
/-- seenAt of an empty bin -/
theorem c_seenAt (l : Launch) (D : va_G) (e0 sz : Nat) (xb xt xp xs : Nat) (cxs : ClassId) (g : Nat → Int32) (x y : Int32) (hg : ∀ j, j < 36 → g j = -1) (hin9 : 0 ≤ x ∧ 0 ≤ y ∧ x ≤ 5 ∧ y ≤ 5) : Ki (S := Unit) l yX1_seenAt wsX1_seenAt ({ frames := 1, cells := 0, slots := 0, locals := 23 } : Room) [.ref xb, .int x, .int y] D [(xb, .inr (3, [.ref xt, .ref xp, .ref xs, .int 0])), (xs, .inl (cxs, 36, .inl g))] [(cxs, .int)] e0 sz (fun r _ => r = -1) (fun _ => []) (fun _ => []) 0 0 := by
  refine Met.ofW (cc := cX1_seenAt) (maxL := 3) (ret := (some .int)) (by decide) rfl ?_
  intro p e s m args below meth c s₁ B hml hv
  obtain ⟨rfl, hsz, hP, hK, hD0, hE⟩ := hv
  have hx := B.exec
  have hb := B.bytes
  have hr := B.returns
  have hts := atoms_spec (ws := wsX1_seenAt) B.pre
  have hown : s.vm.findClass RX1 = some m.cls := findClass_of_methodNamed B.named
  have hlocks := B.notSynchronized
  subst hsz
  have hD := hD0.self (sz := s.heap.size)
  generalize hAe : va_A [(xb, .inr (3, [.ref xt, .ref xp, .ref xs, .int 0])), (xs, .inl (cxs, 36, .inl g))] s.heap.size = A at hD hE ⊢
  have hA : ∀ q : Nat, s.heap.size ≤ q → A q := fun q h => by rw [← hAe]; exact Or.inr h
  have hS : va_S A s.heap s.heap [] := va_S.rf
  have hP : va_P D vwCl [(xb, .inr (3, [.ref xt, .ref xp, .ref xs, .int 0])), (xs, .inl (cxs, 36, .inl g))] s.heap := hP
  have hl := lv_entry ([.ref xb, .int x, .int y]) (n := 3) (Nat.le_of_ble_eq_true rfl)
  rw [lg_entry_eq]
  generalize (lg_sl ([.ref xb, .int x, .int y]) ++ List.replicate (3 - (lg_sl ([.ref xb, .int x, .int y])).length) Slot.unset).toArray = ls at hl ⊢
  have hl : lv_has ls 3 [(0, .ref xb), (1, .int x), (2, .int y)] := hl
  refine lv_iload_n hx hb dX1_seenAt_0 rfl (lv_at hl 1 rfl) ?_
  refine lv_iload_n hx hb dX1_seenAt_1 rfl (lv_at hl 2 rfl) ?_
  refine lv_iconst (v := 1) hx hb dX1_seenAt_2 (by decide) ?_
  refine lv_iconst (v := 1) hx hb dX1_seenAt_3 (by decide) ?_
  refine kSN_i (As := [.int x, .int y, .int 1, .int 1]) (rest := []) (wr := [(xb, .inr (3, [.ref xt, .ref xp, .ref xs, .int 0])), (xs, .inl (cxs, 36, .inl g))]) ⟨hx, hb, hml, hown, hts⟩ (c_areInBin l D e0 _ x y) ⟨va_cnB 4 hts gX1_seenAt_X5_areInBin_n104 rfl rfl rfl hE.2.2.2.2.2.2.2.1.2.1 (hts (.initialized RX5) (by decide +kernel)) (by decide +kernel) ⟨Nat.le_of_ble_eq_true rfl, Nat.le_of_ble_eq_true rfl⟩, (hts (.static yX5_areInBin) (by decide +kernel)), trivial⟩ hP hD hK hS hA hE rfl [] [0, 1] [] rfl rfl (by decide) (by decide) (by decide) rfl rfl hl.1 (Nat.le_of_ble_eq_true rfl) dX1_seenAt_4 ⟨Nat.le_of_ble_eq_true rfl, Nat.le_of_ble_eq_true rfl⟩ (fun r_1 u9 H locs hw hP hD hK hS => ?_)
  have hw : r_1 = (if 0 ≤ x ∧ 0 ≤ y ∧ x ≤ 5 ∧ y ≤ 5 then 1 else 0 : Int32) := hw
  subst hw
  have hP : va_P D vwCl [(xb, .inr (3, [.ref xt, .ref xp, .ref xs, .int 0])), (xs, .inl (cxs, 36, .inl g))] H := hP
  have hD : va_D A [(xb, .inr (3, [.ref xt, .ref xp, .ref xs, .int 0])), (xs, .inl (cxs, 36, .inl g))] := hD
  have hK : va_K D vwCl [(cxs, .int)] s := hK
  refine lv_if_eq (tgt := 24) hx hb dX1_seenAt_7 (by decide) (fun h9 => False.elim (ite_eq h9 hin9)) (fun c_7 => ?_)
  refine lv_aload_n hx hb dX1_seenAt_10 rfl (lv_at hl 0 rfl) ?_
  refine va_get (D := D) (ci := 3) (v := .ref xs) (C := RX1) (T := TX1) (N := 4) hx hb hts (by decide +kernel) hown hK hP 0 rfl rfl 2 (by decide) (hts (.fieldLink RX1 22 "PickCell$Bin" "shown" "[I") (by decide +kernel)) (fun _ h9 => h9) rfl dX1_seenAt_11 ?_
  refine lv_iload_n hx hb dX1_seenAt_14 rfl (lv_at hl 2 rfl) ?_
  refine lv_bipush (v := 6) hx hb dX1_seenAt_15 (by decide) ?_
  refine lv_imul hx hb dX1_seenAt_17 ?_
  refine lv_topi (fun x_2 ex_2 => ?_)
  refine lv_iload_n hx hb dX1_seenAt_18 rfl (lv_at hl 1 rfl) ?_
  refine lv_iadd hx hb dX1_seenAt_19 ?_
  refine lv_topi (fun x_3 ex_3 => ?_)
  obtain ⟨k9, hk9, ek9⟩ := ix36 hin9.1 hin9.2.2.1 hin9.2.1 hin9.2.2.2
  refine va_iald hx hb hK hP 1 0 rfl rfl (by rw [show x_3 = nI k9 from ex_3.trans ((congrArg (· + x) ex_2).trans ek9)]; exact vp_in_nI hk9 (by decide)) dX1_seenAt_20 ?_
  refine lv_topi (fun x_4 ex_4 => ?_)
  obtain rfl : x_4 = -1 := ex_4.trans (by rw [show x_3 = nI k9 from ex_3.trans ((congrArg (· + x) ex_2).trans ek9), nI_clamp (by omega)]; exact hg k9 hk9)
  refine lv_goto (tgt := 25) hx hb dX1_seenAt_21 (by decide) ?_
  exact end_i (v := (-1)) hx hb hr rfl hlocks hP hD hK hS () rfl [] [] rfl (by decide) rfl (Nat.le_of_ble_eq_true rfl) (Nat.le_of_ble_eq_true rfl) dX1_seenAt_25
set_option maxHeartbeats 4000000 in
set_option maxRecDepth 100000 in
/-- seen(x, y) of an empty bin -/
theorem c_seen (l : Launch) (hl9 : l.stackTraces = false) (D : va_G) (e0 sz : Nat) (xx xk xb xo xa xt xp xs : Nat) (cxs : ClassId) (g : Nat → Int32) (near p0 p1 : Int32) (hg : ∀ j, j < 36 → g j = -1) : KXi (S := Unit) l yX5_seen wsX5_seen ({ frames := 6, cells := 1, slots := 6, locals := 84 } : Room) [.ref xx, .int p0, .int p1] D [(xx, .inr (7, [.ref xk, .ref xb, .ref xo, .ref xa, .int near, .int 0, .int 0, .int 0])), (xb, .inr (3, [.ref xt, .ref xp, .ref xs, .int 0])), (xs, .inl (cxs, 36, .inl g))] [(cxs, .int)] e0 sz (fun r _ => (0 ≤ p0 ∧ 0 ≤ p1 ∧ p0 ≤ 5 ∧ p1 ≤ 5) ∧ r = -1) (fun _ => []) (fun _ => []) "java/lang/IndexOutOfBoundsException" (¬ (0 ≤ p0 ∧ 0 ≤ p1 ∧ p0 ≤ 5 ∧ p1 ≤ 5)) 1 6 := by
  refine vx_ofW (cc := cX5_seen) (maxL := 3) (ret := (some .int)) (by decide) rfl ?_
  intro p e s m args below meth c s₁ B hml ht0 hv
  obtain ⟨rfl, hsz, hP, hK, hD0, hE⟩ := hv
  have hx := B.exec
  have hb := B.bytes
  have hr := B.returns
  have hts := atoms_spec (ws := wsX5_seen) B.pre
  have hown : s.vm.findClass RX5 = some m.cls := findClass_of_methodNamed B.named
  have hlocks := B.notSynchronized
  subst hsz
  have hD := hD0.self (sz := s.heap.size)
  generalize hAe : va_A [(xx, .inr (7, [.ref xk, .ref xb, .ref xo, .ref xa, .int near, .int 0, .int 0, .int 0])), (xb, .inr (3, [.ref xt, .ref xp, .ref xs, .int 0])), (xs, .inl (cxs, 36, .inl g))] s.heap.size = A at hD hE ⊢
  have hA : ∀ q : Nat, s.heap.size ≤ q → A q := fun q h => by rw [← hAe]; exact Or.inr h
  have hS : va_S A s.heap s.heap [] := va_S.rf
  have hP : va_P D vwCl [(xx, .inr (7, [.ref xk, .ref xb, .ref xo, .ref xa, .int near, .int 0, .int 0, .int 0])), (xb, .inr (3, [.ref xt, .ref xp, .ref xs, .int 0])), (xs, .inl (cxs, 36, .inl g))] s.heap := hP
  have hl := lv_entry ([.ref xx, .int p0, .int p1]) (n := 3) (Nat.le_of_ble_eq_true rfl)
  rw [lg_entry_eq]
  generalize (lg_sl ([.ref xx, .int p0, .int p1]) ++ List.replicate (3 - (lg_sl ([.ref xx, .int p0, .int p1])).length) Slot.unset).toArray = ls at hl ⊢
  have hl : lv_has ls 3 [(0, .ref xx), (1, .int p0), (2, .int p1)] := hl
  refine lv_iload_n hx hb dX5_seen_0 rfl (lv_at hl 1 rfl) ?_
  refine lv_iload_n hx hb dX5_seen_1 rfl (lv_at hl 2 rfl) ?_
  refine lv_iconst (v := 1) hx hb dX5_seen_2 (by decide) ?_
  refine lv_iconst (v := 1) hx hb dX5_seen_3 (by decide) ?_
  refine kS_i (As := [.int p0, .int p1, .int 1, .int 1]) (rest := []) (wr := [(xx, .inr (7, [.ref xk, .ref xb, .ref xo, .ref xa, .int near, .int 0, .int 0, .int 0])), (xb, .inr (3, [.ref xt, .ref xp, .ref xs, .int 0])), (xs, .inl (cxs, 36, .inl g))]) ⟨hx, hb, hml, hown, hts⟩ (c_areInBin l D e0 _ p0 p1) (va_cwS 4 hts gX5_seen_X5_areInBin rfl rfl rfl (by decide +kernel) ⟨Nat.le_of_ble_eq_true rfl, Nat.le_of_ble_eq_true rfl⟩) hP hD hK hS hA hE rfl [] [0, 1, 2] [] rfl rfl (by decide) (by decide) (by decide) rfl rfl hl.1 (Nat.le_of_ble_eq_true rfl) dX5_seen_4 ⟨Nat.le_of_ble_eq_true rfl, Nat.le_of_ble_eq_true rfl⟩ (fun r_1 u9 H locs hw hP hD hK hS => ?_)
  have hw : r_1 = (if 0 ≤ p0 ∧ 0 ≤ p1 ∧ p0 ≤ 5 ∧ p1 ≤ 5 then 1 else 0 : Int32) := hw
  subst hw
  have hP : va_P D vwCl [(xx, .inr (7, [.ref xk, .ref xb, .ref xo, .ref xa, .int near, .int 0, .int 0, .int 0])), (xb, .inr (3, [.ref xt, .ref xp, .ref xs, .int 0])), (xs, .inl (cxs, 36, .inl g))] H := hP
  have hD : va_D A [(xx, .inr (7, [.ref xk, .ref xb, .ref xo, .ref xa, .int near, .int 0, .int 0, .int 0])), (xb, .inr (3, [.ref xt, .ref xp, .ref xs, .int 0])), (xs, .inl (cxs, 36, .inl g))] := hD
  have hK : va_K D vwCl [(cxs, .int)] s := hK
  refine lv_if_ne (tgt := 21) hx hb dX5_seen_7 (by decide) (fun c_7 => ?_) (fun c_7 => ?_)
  · refine lv_aload_n hx hb dX5_seen_21 rfl (lv_at hl 0 rfl) ?_
    refine va_get (D := D) (ci := 7) (v := .ref xb) (C := RX5) (T := TX5) (N := 8) hx hb hts (by decide +kernel) hown hK hP 0 rfl rfl 1 (by decide) (hts (.fieldLink RX5 19 "PickCell" "bin" "LPickCell$Bin;") (by decide +kernel)) (fun _ h9 => h9) rfl dX5_seen_22 ?_
    refine lv_iload_n hx hb dX5_seen_25 rfl (lv_at hl 1 rfl) ?_
    refine lv_iload_n hx hb dX5_seen_26 rfl (lv_at hl 2 rfl) ?_
    refine kV_i (As := [.int p0, .int p1]) (rest := []) (wr := [(xx, .inr (7, [.ref xk, .ref xb, .ref xo, .ref xa, .int near, .int 0, .int 0, .int 0]))]) ⟨hx, hb, hml, hown, hts⟩ (c_seenAt l D e0 _ xb xt xp xs cxs g p0 p1 hg (ite_ne c_7)) (cwV 2 hts gX5_seen_X1_seenAt rfl rfl rfl (by decide +kernel) ⟨Nat.le_of_ble_eq_true rfl, Nat.le_of_ble_eq_true rfl⟩) hP hD hK hS hA hE rfl [1, 2] [0] [0] rfl rfl (by decide) (by decide) (by decide) rfl 3 1 rfl rfl rfl rfl hl.1 (Nat.le_of_ble_eq_true rfl) dX5_seen_27 ⟨Nat.le_of_ble_eq_true rfl, Nat.le_of_ble_eq_true rfl⟩ (fun r_2 u9 H locs hw hP hD hK hS => ?_)
    have hw : r_2 = (-1) := hw
    subst hw
    have hP : va_P D vwCl [(xx, .inr (7, [.ref xk, .ref xb, .ref xo, .ref xa, .int near, .int 0, .int 0, .int 0]))] H := hP
    have hD : va_D A [(xx, .inr (7, [.ref xk, .ref xb, .ref xo, .ref xa, .int near, .int 0, .int 0, .int 0]))] := hD
    have hK : va_K D vwCl [(cxs, .int)] s := hK
    exact vx_ret (end_i (v := (-1)) hx hb hr rfl hlocks hP hD hK hS () (⟨ite_ne c_7, rfl⟩) [] [] rfl (by decide) rfl (Nat.le_of_ble_eq_true rfl) (Nat.le_of_ble_eq_true rfl) dX5_seen_30)
  · exact kthrowW (X := "java/lang/IndexOutOfBoundsException") (tx := "x or y is not 0 to 5") (ik := 270) (is := 272) (ic := 274) ⟨hx, hb, hml, hown, hts⟩ hl9 hS hE (by decide) (by decide +kernel) (by decide +kernel) (by decide +kernel) (by decide +kernel) (by decide +kernel) (by decide +kernel) hl.1 dX5_seen_10 dX5_seen_13 dX5_seen_14 dX5_seen_17 dX5_seen_20 ht0 (Nat.le_of_ble_eq_true rfl) (Nat.le_of_ble_eq_true rfl) (Nat.le_of_ble_eq_true rfl) (Nat.le_of_ble_eq_true rfl) hlocks (ite_eq c_7) (Nat.le_of_ble_eq_true rfl) (Nat.le_of_ble_eq_true rfl)
set_option maxHeartbeats 4000000 in
set_option maxRecDepth 100000 in
/-- kind(..) -/
theorem c_kind (l : Launch) (hl9 : l.stackTraces = false) (D : va_G) (e0 sz : Nat) (x xk xb xo xa : Nat) (near : Int32) (p0 p1 p2 p3 p4 p5 : Int32) : KXi (S := Unit) l yX5_kind wsX5_kind ({ frames := 6, cells := 2, slots := 17, locals := 101 } : Room) [.ref x, .int p0, .int p1, .int p2, .int p3, .int p4, .int p5] D [(x, .inr (7, [.ref xk, .ref xb, .ref xo, .ref xa, .int near, .int 0, .int 0, .int 0])), (xk, .inr (1, [.int 0, .ref e0, .int 0]))] [] e0 sz (fun r _ => kdT p0 p1 p2 p3 p4 p5 = 0 ∧ r = 0) (fun _ => []) (fun _ => []) "java/lang/IllegalArgumentException" (kdT p0 p1 p2 p3 p4 p5 = 1) 2 17 := by
  refine vx_ofW (cc := cX5_kind) (maxL := 10) (ret := (some .int)) (by decide) rfl ?_
  intro p e s m args below meth c s₁ B hml ht0 hv
  obtain ⟨rfl, hsz, hP, hK, hD0, hE⟩ := hv
  have hx := B.exec
  have hb := B.bytes
  have hr := B.returns
  have hts := atoms_spec (ws := wsX5_kind) B.pre
  have hown : s.vm.findClass RX5 = some m.cls := findClass_of_methodNamed B.named
  have hlocks := B.notSynchronized
  subst hsz
  have hD := hD0.self (sz := s.heap.size)
  generalize hAe : va_A [(x, .inr (7, [.ref xk, .ref xb, .ref xo, .ref xa, .int near, .int 0, .int 0, .int 0])), (xk, .inr (1, [.int 0, .ref e0, .int 0]))] s.heap.size = A at hD hE ⊢
  have hA : ∀ q : Nat, s.heap.size ≤ q → A q := fun q h => by rw [← hAe]; exact Or.inr h
  have hS : va_S A s.heap s.heap [] := va_S.rf
  have hP : va_P D vwCl [(x, .inr (7, [.ref xk, .ref xb, .ref xo, .ref xa, .int near, .int 0, .int 0, .int 0])), (xk, .inr (1, [.int 0, .ref e0, .int 0]))] s.heap := hP
  have hl := lv_entry ([.ref x, .int p0, .int p1, .int p2, .int p3, .int p4, .int p5]) (n := 10) (Nat.le_of_ble_eq_true rfl)
  rw [lg_entry_eq]
  generalize (lg_sl ([.ref x, .int p0, .int p1, .int p2, .int p3, .int p4, .int p5]) ++ List.replicate (10 - (lg_sl ([.ref x, .int p0, .int p1, .int p2, .int p3, .int p4, .int p5])).length) Slot.unset).toArray = ls at hl ⊢
  have hl : lv_has ls 10 [(0, .ref x), (1, .int p0), (2, .int p1), (3, .int p2), (4, .int p3), (5, .int p4), (6, .int p5)] := hl
  refine lv_iload_n hx hb dX5_kind_0 rfl (lv_at hl 1 rfl) ?_
  refine lv_iconst (v := 1) hx hb dX5_kind_1 (by decide) ?_
  refine lv_iconst (v := 3) hx hb dX5_kind_2 (by decide) ?_
  refine kS_i (As := [.int p0, .int 1, .int 3]) (rest := []) (wr := [(x, .inr (7, [.ref xk, .ref xb, .ref xo, .ref xa, .int near, .int 0, .int 0, .int 0])), (xk, .inr (1, [.int 0, .ref e0, .int 0]))]) ⟨hx, hb, hml, hown, hts⟩ (c_isWithin l D e0 _ p0 1 3) (va_cwS 3 hts gX5_kind_X5_isWithin rfl rfl rfl (by decide +kernel) ⟨Nat.le_of_ble_eq_true rfl, Nat.le_of_ble_eq_true rfl⟩) hP hD hK hS hA hE rfl [] [0, 1] [] rfl rfl (by decide) (by decide) (by decide) rfl rfl hl.1 (Nat.le_of_ble_eq_true rfl) dX5_kind_3 ⟨Nat.le_of_ble_eq_true rfl, Nat.le_of_ble_eq_true rfl⟩ (fun r_1 u9 H locs hw hP hD hK hS => ?_)
  have hw : r_1 = (isW p0 1 3) := hw
  subst hw
  have hP : va_P D vwCl [(x, .inr (7, [.ref xk, .ref xb, .ref xo, .ref xa, .int near, .int 0, .int 0, .int 0])), (xk, .inr (1, [.int 0, .ref e0, .int 0]))] H := hP
  have hD : va_D A [(x, .inr (7, [.ref xk, .ref xb, .ref xo, .ref xa, .int near, .int 0, .int 0, .int 0])), (xk, .inr (1, [.int 0, .ref e0, .int 0]))] := hD
  have hK : va_K D vwCl [] s := hK
  refine lv_if_eq (tgt := 31) hx hb dX5_kind_6 (by decide) (fun c_6 => ?_) (fun c_6 => ?_)
  · refine lv_iconst (v := 0) hx hb dX5_kind_31 (by decide) ?_
    refine lv_istore (lv' := [(7, .int 0), (0, .ref x), (1, .int p0), (2, .int p1), (3, .int p2), (4, .int p3), (5, .int p4), (6, .int p5)]) hx hb dX5_kind_32 hl (by decide) rfl (fun ls hl => ?_)
    refine lv_iload hx hb dX5_kind_34 (lv_at hl 5 rfl) ?_
    refine lv_iconst (v := 1) hx hb dX5_kind_36 (by decide) ?_
    refine lv_bipush (v := 60) hx hb dX5_kind_37 (by decide) ?_
    refine kS_i (As := [.int p3, .int 1, .int 60]) (rest := []) (wr := [(x, .inr (7, [.ref xk, .ref xb, .ref xo, .ref xa, .int near, .int 0, .int 0, .int 0])), (xk, .inr (1, [.int 0, .ref e0, .int 0]))]) ⟨hx, hb, hml, hown, hts⟩ (c_isWithin l D e0 _ p3 1 60) (va_cwS 3 hts gX5_kind_X5_isWithin rfl rfl rfl (by decide +kernel) ⟨Nat.le_of_ble_eq_true rfl, Nat.le_of_ble_eq_true rfl⟩) hP hD hK hS hA hE rfl [] [0, 1] [] rfl rfl (by decide) (by decide) (by decide) rfl rfl hl.1 (Nat.le_of_ble_eq_true rfl) dX5_kind_39 ⟨Nat.le_of_ble_eq_true rfl, Nat.le_of_ble_eq_true rfl⟩ (fun r_2 u9 H locs hw hP hD hK hS => ?_)
    have hw : r_2 = (isW p3 1 60) := hw
    subst hw
    have hP : va_P D vwCl [(x, .inr (7, [.ref xk, .ref xb, .ref xo, .ref xa, .int near, .int 0, .int 0, .int 0])), (xk, .inr (1, [.int 0, .ref e0, .int 0]))] H := hP
    have hD : va_D A [(x, .inr (7, [.ref xk, .ref xb, .ref xo, .ref xa, .int near, .int 0, .int 0, .int 0])), (xk, .inr (1, [.int 0, .ref e0, .int 0]))] := hD
    have hK : va_K D vwCl [] s := hK
    refine lv_if_eq (tgt := 71) hx hb dX5_kind_42 (by decide) (fun c_42 => ?_) (fun c_42 => ?_)
    · refine lv_iconst (v := 0) hx hb dX5_kind_71 (by decide) ?_
      refine lv_istore (lv' := [(8, .int 0), (7, .int 0), (0, .ref x), (1, .int p0), (2, .int p1), (3, .int p2), (4, .int p3), (5, .int p4), (6, .int p5)]) hx hb dX5_kind_72 hl (by decide) rfl (fun ls hl => ?_)
      refine lv_iload hx hb dX5_kind_74 (lv_at hl 1 rfl) ?_
      refine lv_if_eq (tgt := 84) hx hb dX5_kind_76 (by decide) (fun _ => ?_) (fun h9 => absurd (by decide) h9)
      exact kthrow (X := "java/lang/IllegalArgumentException") (tx := "no such kind can be") (ik := 51) (is := 53) (ic := 55) ⟨hx, hb, hml, hown, hts⟩ hl9 hS hE (by decide) (by decide +kernel) (by decide +kernel) (by decide +kernel) (by decide +kernel) (by decide +kernel) (by decide +kernel) hl.1 dX5_kind_84 dX5_kind_87 dX5_kind_88 dX5_kind_90 dX5_kind_93 ht0 (Nat.le_of_ble_eq_true rfl) (Nat.le_of_ble_eq_true rfl) (Nat.le_of_ble_eq_true rfl) (Nat.le_of_ble_eq_true rfl) hlocks (if_pos (Or.inl c_6)) (Nat.le_of_ble_eq_true rfl) (Nat.le_of_ble_eq_true rfl)
    · refine lv_iload hx hb dX5_kind_45 (lv_at hl 6 rfl) ?_
      refine lv_iconst (v := 0) hx hb dX5_kind_47 (by decide) ?_
      refine lv_iconst (v := 2) hx hb dX5_kind_48 (by decide) ?_
      refine kS_i (As := [.int p4, .int 0, .int 2]) (rest := []) (wr := [(x, .inr (7, [.ref xk, .ref xb, .ref xo, .ref xa, .int near, .int 0, .int 0, .int 0])), (xk, .inr (1, [.int 0, .ref e0, .int 0]))]) ⟨hx, hb, hml, hown, hts⟩ (c_isWithin l D e0 _ p4 0 2) (va_cwS 3 hts gX5_kind_X5_isWithin rfl rfl rfl (by decide +kernel) ⟨Nat.le_of_ble_eq_true rfl, Nat.le_of_ble_eq_true rfl⟩) hP hD hK hS hA hE rfl [] [0, 1] [] rfl rfl (by decide) (by decide) (by decide) rfl rfl hl.1 (Nat.le_of_ble_eq_true rfl) dX5_kind_49 ⟨Nat.le_of_ble_eq_true rfl, Nat.le_of_ble_eq_true rfl⟩ (fun r_3 u9 H locs hw hP hD hK hS => ?_)
      have hw : r_3 = (isW p4 0 2) := hw
      subst hw
      have hP : va_P D vwCl [(x, .inr (7, [.ref xk, .ref xb, .ref xo, .ref xa, .int near, .int 0, .int 0, .int 0])), (xk, .inr (1, [.int 0, .ref e0, .int 0]))] H := hP
      have hD : va_D A [(x, .inr (7, [.ref xk, .ref xb, .ref xo, .ref xa, .int near, .int 0, .int 0, .int 0])), (xk, .inr (1, [.int 0, .ref e0, .int 0]))] := hD
      have hK : va_K D vwCl [] s := hK
      refine lv_if_eq (tgt := 71) hx hb dX5_kind_52 (by decide) (fun c_52 => ?_) (fun c_52 => ?_)
      · refine lv_iconst (v := 0) hx hb dX5_kind_71 (by decide) ?_
        refine lv_istore (lv' := [(8, .int 0), (7, .int 0), (0, .ref x), (1, .int p0), (2, .int p1), (3, .int p2), (4, .int p3), (5, .int p4), (6, .int p5)]) hx hb dX5_kind_72 hl (by decide) rfl (fun ls hl => ?_)
        refine lv_iload hx hb dX5_kind_74 (lv_at hl 1 rfl) ?_
        refine lv_if_eq (tgt := 84) hx hb dX5_kind_76 (by decide) (fun _ => ?_) (fun h9 => absurd (by decide) h9)
        exact kthrow (X := "java/lang/IllegalArgumentException") (tx := "no such kind can be") (ik := 51) (is := 53) (ic := 55) ⟨hx, hb, hml, hown, hts⟩ hl9 hS hE (by decide) (by decide +kernel) (by decide +kernel) (by decide +kernel) (by decide +kernel) (by decide +kernel) (by decide +kernel) hl.1 dX5_kind_84 dX5_kind_87 dX5_kind_88 dX5_kind_90 dX5_kind_93 ht0 (Nat.le_of_ble_eq_true rfl) (Nat.le_of_ble_eq_true rfl) (Nat.le_of_ble_eq_true rfl) (Nat.le_of_ble_eq_true rfl) hlocks (if_pos (Or.inl c_6)) (Nat.le_of_ble_eq_true rfl) (Nat.le_of_ble_eq_true rfl)
      · refine lv_iload hx hb dX5_kind_55 (lv_at hl 7 rfl) ?_
        refine lv_iconst (v := 0) hx hb dX5_kind_57 (by decide) ?_
        refine lv_sipush (v := 200) hx hb dX5_kind_58 (by decide) ?_
        refine kS_i (As := [.int p5, .int 0, .int 200]) (rest := []) (wr := [(x, .inr (7, [.ref xk, .ref xb, .ref xo, .ref xa, .int near, .int 0, .int 0, .int 0])), (xk, .inr (1, [.int 0, .ref e0, .int 0]))]) ⟨hx, hb, hml, hown, hts⟩ (c_isWithin l D e0 _ p5 0 200) (va_cwS 3 hts gX5_kind_X5_isWithin rfl rfl rfl (by decide +kernel) ⟨Nat.le_of_ble_eq_true rfl, Nat.le_of_ble_eq_true rfl⟩) hP hD hK hS hA hE rfl [] [0, 1] [] rfl rfl (by decide) (by decide) (by decide) rfl rfl hl.1 (Nat.le_of_ble_eq_true rfl) dX5_kind_61 ⟨Nat.le_of_ble_eq_true rfl, Nat.le_of_ble_eq_true rfl⟩ (fun r_4 u9 H locs hw hP hD hK hS => ?_)
        have hw : r_4 = (isW p5 0 200) := hw
        subst hw
        have hP : va_P D vwCl [(x, .inr (7, [.ref xk, .ref xb, .ref xo, .ref xa, .int near, .int 0, .int 0, .int 0])), (xk, .inr (1, [.int 0, .ref e0, .int 0]))] H := hP
        have hD : va_D A [(x, .inr (7, [.ref xk, .ref xb, .ref xo, .ref xa, .int near, .int 0, .int 0, .int 0])), (xk, .inr (1, [.int 0, .ref e0, .int 0]))] := hD
        have hK : va_K D vwCl [] s := hK
        refine lv_if_eq (tgt := 71) hx hb dX5_kind_64 (by decide) (fun c_64 => ?_) (fun c_64 => ?_)
        · refine lv_iconst (v := 0) hx hb dX5_kind_71 (by decide) ?_
          refine lv_istore (lv' := [(8, .int 0), (7, .int 0), (0, .ref x), (1, .int p0), (2, .int p1), (3, .int p2), (4, .int p3), (5, .int p4), (6, .int p5)]) hx hb dX5_kind_72 hl (by decide) rfl (fun ls hl => ?_)
          refine lv_iload hx hb dX5_kind_74 (lv_at hl 1 rfl) ?_
          refine lv_if_eq (tgt := 84) hx hb dX5_kind_76 (by decide) (fun _ => ?_) (fun h9 => absurd (by decide) h9)
          exact kthrow (X := "java/lang/IllegalArgumentException") (tx := "no such kind can be") (ik := 51) (is := 53) (ic := 55) ⟨hx, hb, hml, hown, hts⟩ hl9 hS hE (by decide) (by decide +kernel) (by decide +kernel) (by decide +kernel) (by decide +kernel) (by decide +kernel) (by decide +kernel) hl.1 dX5_kind_84 dX5_kind_87 dX5_kind_88 dX5_kind_90 dX5_kind_93 ht0 (Nat.le_of_ble_eq_true rfl) (Nat.le_of_ble_eq_true rfl) (Nat.le_of_ble_eq_true rfl) (Nat.le_of_ble_eq_true rfl) hlocks (if_pos (Or.inl c_6)) (Nat.le_of_ble_eq_true rfl) (Nat.le_of_ble_eq_true rfl)
        · refine lv_iconst (v := 1) hx hb dX5_kind_67 (by decide) ?_
          refine lv_goto (tgt := 72) hx hb dX5_kind_68 (by decide) ?_
          refine lv_istore (lv' := [(8, .int 1), (7, .int 0), (0, .ref x), (1, .int p0), (2, .int p1), (3, .int p2), (4, .int p3), (5, .int p4), (6, .int p5)]) hx hb dX5_kind_72 hl (by decide) rfl (fun ls hl => ?_)
          refine lv_iload hx hb dX5_kind_74 (lv_at hl 1 rfl) ?_
          refine lv_if_eq (tgt := 84) hx hb dX5_kind_76 (by decide) (fun _ => ?_) (fun h9 => absurd (by decide) h9)
          exact kthrow (X := "java/lang/IllegalArgumentException") (tx := "no such kind can be") (ik := 51) (is := 53) (ic := 55) ⟨hx, hb, hml, hown, hts⟩ hl9 hS hE (by decide) (by decide +kernel) (by decide +kernel) (by decide +kernel) (by decide +kernel) (by decide +kernel) (by decide +kernel) hl.1 dX5_kind_84 dX5_kind_87 dX5_kind_88 dX5_kind_90 dX5_kind_93 ht0 (Nat.le_of_ble_eq_true rfl) (Nat.le_of_ble_eq_true rfl) (Nat.le_of_ble_eq_true rfl) (Nat.le_of_ble_eq_true rfl) hlocks (if_pos (Or.inl c_6)) (Nat.le_of_ble_eq_true rfl) (Nat.le_of_ble_eq_true rfl)
  · refine lv_iload_n hx hb dX5_kind_9 rfl (lv_at hl 2 rfl) ?_
    refine lv_iconst (v := 1) hx hb dX5_kind_10 (by decide) ?_
    refine lv_iconst (v := 3) hx hb dX5_kind_11 (by decide) ?_
    refine kS_i (As := [.int p1, .int 1, .int 3]) (rest := []) (wr := [(x, .inr (7, [.ref xk, .ref xb, .ref xo, .ref xa, .int near, .int 0, .int 0, .int 0])), (xk, .inr (1, [.int 0, .ref e0, .int 0]))]) ⟨hx, hb, hml, hown, hts⟩ (c_isWithin l D e0 _ p1 1 3) (va_cwS 3 hts gX5_kind_X5_isWithin rfl rfl rfl (by decide +kernel) ⟨Nat.le_of_ble_eq_true rfl, Nat.le_of_ble_eq_true rfl⟩) hP hD hK hS hA hE rfl [] [0, 1] [] rfl rfl (by decide) (by decide) (by decide) rfl rfl hl.1 (Nat.le_of_ble_eq_true rfl) dX5_kind_12 ⟨Nat.le_of_ble_eq_true rfl, Nat.le_of_ble_eq_true rfl⟩ (fun r_5 u9 H locs hw hP hD hK hS => ?_)
    have hw : r_5 = (isW p1 1 3) := hw
    subst hw
    have hP : va_P D vwCl [(x, .inr (7, [.ref xk, .ref xb, .ref xo, .ref xa, .int near, .int 0, .int 0, .int 0])), (xk, .inr (1, [.int 0, .ref e0, .int 0]))] H := hP
    have hD : va_D A [(x, .inr (7, [.ref xk, .ref xb, .ref xo, .ref xa, .int near, .int 0, .int 0, .int 0])), (xk, .inr (1, [.int 0, .ref e0, .int 0]))] := hD
    have hK : va_K D vwCl [] s := hK
    refine lv_if_eq (tgt := 31) hx hb dX5_kind_15 (by decide) (fun c_15 => ?_) (fun c_15 => ?_)
    · refine lv_iconst (v := 0) hx hb dX5_kind_31 (by decide) ?_
      refine lv_istore (lv' := [(7, .int 0), (0, .ref x), (1, .int p0), (2, .int p1), (3, .int p2), (4, .int p3), (5, .int p4), (6, .int p5)]) hx hb dX5_kind_32 hl (by decide) rfl (fun ls hl => ?_)
      refine lv_iload hx hb dX5_kind_34 (lv_at hl 5 rfl) ?_
      refine lv_iconst (v := 1) hx hb dX5_kind_36 (by decide) ?_
      refine lv_bipush (v := 60) hx hb dX5_kind_37 (by decide) ?_
      refine kS_i (As := [.int p3, .int 1, .int 60]) (rest := []) (wr := [(x, .inr (7, [.ref xk, .ref xb, .ref xo, .ref xa, .int near, .int 0, .int 0, .int 0])), (xk, .inr (1, [.int 0, .ref e0, .int 0]))]) ⟨hx, hb, hml, hown, hts⟩ (c_isWithin l D e0 _ p3 1 60) (va_cwS 3 hts gX5_kind_X5_isWithin rfl rfl rfl (by decide +kernel) ⟨Nat.le_of_ble_eq_true rfl, Nat.le_of_ble_eq_true rfl⟩) hP hD hK hS hA hE rfl [] [0, 1] [] rfl rfl (by decide) (by decide) (by decide) rfl rfl hl.1 (Nat.le_of_ble_eq_true rfl) dX5_kind_39 ⟨Nat.le_of_ble_eq_true rfl, Nat.le_of_ble_eq_true rfl⟩ (fun r_6 u9 H locs hw hP hD hK hS => ?_)
      have hw : r_6 = (isW p3 1 60) := hw
      subst hw
      have hP : va_P D vwCl [(x, .inr (7, [.ref xk, .ref xb, .ref xo, .ref xa, .int near, .int 0, .int 0, .int 0])), (xk, .inr (1, [.int 0, .ref e0, .int 0]))] H := hP
      have hD : va_D A [(x, .inr (7, [.ref xk, .ref xb, .ref xo, .ref xa, .int near, .int 0, .int 0, .int 0])), (xk, .inr (1, [.int 0, .ref e0, .int 0]))] := hD
      have hK : va_K D vwCl [] s := hK
      refine lv_if_eq (tgt := 71) hx hb dX5_kind_42 (by decide) (fun c_42 => ?_) (fun c_42 => ?_)
      · refine lv_iconst (v := 0) hx hb dX5_kind_71 (by decide) ?_
        refine lv_istore (lv' := [(8, .int 0), (7, .int 0), (0, .ref x), (1, .int p0), (2, .int p1), (3, .int p2), (4, .int p3), (5, .int p4), (6, .int p5)]) hx hb dX5_kind_72 hl (by decide) rfl (fun ls hl => ?_)
        refine lv_iload hx hb dX5_kind_74 (lv_at hl 1 rfl) ?_
        refine lv_if_eq (tgt := 84) hx hb dX5_kind_76 (by decide) (fun _ => ?_) (fun h9 => absurd (by decide) h9)
        exact kthrow (X := "java/lang/IllegalArgumentException") (tx := "no such kind can be") (ik := 51) (is := 53) (ic := 55) ⟨hx, hb, hml, hown, hts⟩ hl9 hS hE (by decide) (by decide +kernel) (by decide +kernel) (by decide +kernel) (by decide +kernel) (by decide +kernel) (by decide +kernel) hl.1 dX5_kind_84 dX5_kind_87 dX5_kind_88 dX5_kind_90 dX5_kind_93 ht0 (Nat.le_of_ble_eq_true rfl) (Nat.le_of_ble_eq_true rfl) (Nat.le_of_ble_eq_true rfl) (Nat.le_of_ble_eq_true rfl) hlocks (if_pos (Or.inr (Or.inl c_15))) (Nat.le_of_ble_eq_true rfl) (Nat.le_of_ble_eq_true rfl)
      · refine lv_iload hx hb dX5_kind_45 (lv_at hl 6 rfl) ?_
        refine lv_iconst (v := 0) hx hb dX5_kind_47 (by decide) ?_
        refine lv_iconst (v := 2) hx hb dX5_kind_48 (by decide) ?_
        refine kS_i (As := [.int p4, .int 0, .int 2]) (rest := []) (wr := [(x, .inr (7, [.ref xk, .ref xb, .ref xo, .ref xa, .int near, .int 0, .int 0, .int 0])), (xk, .inr (1, [.int 0, .ref e0, .int 0]))]) ⟨hx, hb, hml, hown, hts⟩ (c_isWithin l D e0 _ p4 0 2) (va_cwS 3 hts gX5_kind_X5_isWithin rfl rfl rfl (by decide +kernel) ⟨Nat.le_of_ble_eq_true rfl, Nat.le_of_ble_eq_true rfl⟩) hP hD hK hS hA hE rfl [] [0, 1] [] rfl rfl (by decide) (by decide) (by decide) rfl rfl hl.1 (Nat.le_of_ble_eq_true rfl) dX5_kind_49 ⟨Nat.le_of_ble_eq_true rfl, Nat.le_of_ble_eq_true rfl⟩ (fun r_7 u9 H locs hw hP hD hK hS => ?_)
        have hw : r_7 = (isW p4 0 2) := hw
        subst hw
        have hP : va_P D vwCl [(x, .inr (7, [.ref xk, .ref xb, .ref xo, .ref xa, .int near, .int 0, .int 0, .int 0])), (xk, .inr (1, [.int 0, .ref e0, .int 0]))] H := hP
        have hD : va_D A [(x, .inr (7, [.ref xk, .ref xb, .ref xo, .ref xa, .int near, .int 0, .int 0, .int 0])), (xk, .inr (1, [.int 0, .ref e0, .int 0]))] := hD
        have hK : va_K D vwCl [] s := hK
        refine lv_if_eq (tgt := 71) hx hb dX5_kind_52 (by decide) (fun c_52 => ?_) (fun c_52 => ?_)
        · refine lv_iconst (v := 0) hx hb dX5_kind_71 (by decide) ?_
          refine lv_istore (lv' := [(8, .int 0), (7, .int 0), (0, .ref x), (1, .int p0), (2, .int p1), (3, .int p2), (4, .int p3), (5, .int p4), (6, .int p5)]) hx hb dX5_kind_72 hl (by decide) rfl (fun ls hl => ?_)
          refine lv_iload hx hb dX5_kind_74 (lv_at hl 1 rfl) ?_
          refine lv_if_eq (tgt := 84) hx hb dX5_kind_76 (by decide) (fun _ => ?_) (fun h9 => absurd (by decide) h9)
          exact kthrow (X := "java/lang/IllegalArgumentException") (tx := "no such kind can be") (ik := 51) (is := 53) (ic := 55) ⟨hx, hb, hml, hown, hts⟩ hl9 hS hE (by decide) (by decide +kernel) (by decide +kernel) (by decide +kernel) (by decide +kernel) (by decide +kernel) (by decide +kernel) hl.1 dX5_kind_84 dX5_kind_87 dX5_kind_88 dX5_kind_90 dX5_kind_93 ht0 (Nat.le_of_ble_eq_true rfl) (Nat.le_of_ble_eq_true rfl) (Nat.le_of_ble_eq_true rfl) (Nat.le_of_ble_eq_true rfl) hlocks (if_pos (Or.inr (Or.inl c_15))) (Nat.le_of_ble_eq_true rfl) (Nat.le_of_ble_eq_true rfl)
        · refine lv_iload hx hb dX5_kind_55 (lv_at hl 7 rfl) ?_
          refine lv_iconst (v := 0) hx hb dX5_kind_57 (by decide) ?_
          refine lv_sipush (v := 200) hx hb dX5_kind_58 (by decide) ?_
          refine kS_i (As := [.int p5, .int 0, .int 200]) (rest := []) (wr := [(x, .inr (7, [.ref xk, .ref xb, .ref xo, .ref xa, .int near, .int 0, .int 0, .int 0])), (xk, .inr (1, [.int 0, .ref e0, .int 0]))]) ⟨hx, hb, hml, hown, hts⟩ (c_isWithin l D e0 _ p5 0 200) (va_cwS 3 hts gX5_kind_X5_isWithin rfl rfl rfl (by decide +kernel) ⟨Nat.le_of_ble_eq_true rfl, Nat.le_of_ble_eq_true rfl⟩) hP hD hK hS hA hE rfl [] [0, 1] [] rfl rfl (by decide) (by decide) (by decide) rfl rfl hl.1 (Nat.le_of_ble_eq_true rfl) dX5_kind_61 ⟨Nat.le_of_ble_eq_true rfl, Nat.le_of_ble_eq_true rfl⟩ (fun r_8 u9 H locs hw hP hD hK hS => ?_)
          have hw : r_8 = (isW p5 0 200) := hw
          subst hw
          have hP : va_P D vwCl [(x, .inr (7, [.ref xk, .ref xb, .ref xo, .ref xa, .int near, .int 0, .int 0, .int 0])), (xk, .inr (1, [.int 0, .ref e0, .int 0]))] H := hP
          have hD : va_D A [(x, .inr (7, [.ref xk, .ref xb, .ref xo, .ref xa, .int near, .int 0, .int 0, .int 0])), (xk, .inr (1, [.int 0, .ref e0, .int 0]))] := hD
          have hK : va_K D vwCl [] s := hK
          refine lv_if_eq (tgt := 71) hx hb dX5_kind_64 (by decide) (fun c_64 => ?_) (fun c_64 => ?_)
          · refine lv_iconst (v := 0) hx hb dX5_kind_71 (by decide) ?_
            refine lv_istore (lv' := [(8, .int 0), (7, .int 0), (0, .ref x), (1, .int p0), (2, .int p1), (3, .int p2), (4, .int p3), (5, .int p4), (6, .int p5)]) hx hb dX5_kind_72 hl (by decide) rfl (fun ls hl => ?_)
            refine lv_iload hx hb dX5_kind_74 (lv_at hl 1 rfl) ?_
            refine lv_if_eq (tgt := 84) hx hb dX5_kind_76 (by decide) (fun _ => ?_) (fun h9 => absurd (by decide) h9)
            exact kthrow (X := "java/lang/IllegalArgumentException") (tx := "no such kind can be") (ik := 51) (is := 53) (ic := 55) ⟨hx, hb, hml, hown, hts⟩ hl9 hS hE (by decide) (by decide +kernel) (by decide +kernel) (by decide +kernel) (by decide +kernel) (by decide +kernel) (by decide +kernel) hl.1 dX5_kind_84 dX5_kind_87 dX5_kind_88 dX5_kind_90 dX5_kind_93 ht0 (Nat.le_of_ble_eq_true rfl) (Nat.le_of_ble_eq_true rfl) (Nat.le_of_ble_eq_true rfl) (Nat.le_of_ble_eq_true rfl) hlocks (if_pos (Or.inr (Or.inl c_15))) (Nat.le_of_ble_eq_true rfl) (Nat.le_of_ble_eq_true rfl)
          · refine lv_iconst (v := 1) hx hb dX5_kind_67 (by decide) ?_
            refine lv_goto (tgt := 72) hx hb dX5_kind_68 (by decide) ?_
            refine lv_istore (lv' := [(8, .int 1), (7, .int 0), (0, .ref x), (1, .int p0), (2, .int p1), (3, .int p2), (4, .int p3), (5, .int p4), (6, .int p5)]) hx hb dX5_kind_72 hl (by decide) rfl (fun ls hl => ?_)
            refine lv_iload hx hb dX5_kind_74 (lv_at hl 1 rfl) ?_
            refine lv_if_eq (tgt := 84) hx hb dX5_kind_76 (by decide) (fun _ => ?_) (fun h9 => absurd (by decide) h9)
            exact kthrow (X := "java/lang/IllegalArgumentException") (tx := "no such kind can be") (ik := 51) (is := 53) (ic := 55) ⟨hx, hb, hml, hown, hts⟩ hl9 hS hE (by decide) (by decide +kernel) (by decide +kernel) (by decide +kernel) (by decide +kernel) (by decide +kernel) (by decide +kernel) hl.1 dX5_kind_84 dX5_kind_87 dX5_kind_88 dX5_kind_90 dX5_kind_93 ht0 (Nat.le_of_ble_eq_true rfl) (Nat.le_of_ble_eq_true rfl) (Nat.le_of_ble_eq_true rfl) (Nat.le_of_ble_eq_true rfl) hlocks (if_pos (Or.inr (Or.inl c_15))) (Nat.le_of_ble_eq_true rfl) (Nat.le_of_ble_eq_true rfl)
    · refine lv_iload_n hx hb dX5_kind_18 rfl (lv_at hl 3 rfl) ?_
      refine lv_iconst (v := 1) hx hb dX5_kind_19 (by decide) ?_
      refine lv_iconst (v := 4) hx hb dX5_kind_20 (by decide) ?_
      refine kS_i (As := [.int p2, .int 1, .int 4]) (rest := []) (wr := [(x, .inr (7, [.ref xk, .ref xb, .ref xo, .ref xa, .int near, .int 0, .int 0, .int 0])), (xk, .inr (1, [.int 0, .ref e0, .int 0]))]) ⟨hx, hb, hml, hown, hts⟩ (c_isWithin l D e0 _ p2 1 4) (va_cwS 3 hts gX5_kind_X5_isWithin rfl rfl rfl (by decide +kernel) ⟨Nat.le_of_ble_eq_true rfl, Nat.le_of_ble_eq_true rfl⟩) hP hD hK hS hA hE rfl [] [0, 1] [] rfl rfl (by decide) (by decide) (by decide) rfl rfl hl.1 (Nat.le_of_ble_eq_true rfl) dX5_kind_21 ⟨Nat.le_of_ble_eq_true rfl, Nat.le_of_ble_eq_true rfl⟩ (fun r_9 u9 H locs hw hP hD hK hS => ?_)
      have hw : r_9 = (isW p2 1 4) := hw
      subst hw
      have hP : va_P D vwCl [(x, .inr (7, [.ref xk, .ref xb, .ref xo, .ref xa, .int near, .int 0, .int 0, .int 0])), (xk, .inr (1, [.int 0, .ref e0, .int 0]))] H := hP
      have hD : va_D A [(x, .inr (7, [.ref xk, .ref xb, .ref xo, .ref xa, .int near, .int 0, .int 0, .int 0])), (xk, .inr (1, [.int 0, .ref e0, .int 0]))] := hD
      have hK : va_K D vwCl [] s := hK
      refine lv_if_eq (tgt := 31) hx hb dX5_kind_24 (by decide) (fun c_24 => ?_) (fun c_24 => ?_)
      · refine lv_iconst (v := 0) hx hb dX5_kind_31 (by decide) ?_
        refine lv_istore (lv' := [(7, .int 0), (0, .ref x), (1, .int p0), (2, .int p1), (3, .int p2), (4, .int p3), (5, .int p4), (6, .int p5)]) hx hb dX5_kind_32 hl (by decide) rfl (fun ls hl => ?_)
        refine lv_iload hx hb dX5_kind_34 (lv_at hl 5 rfl) ?_
        refine lv_iconst (v := 1) hx hb dX5_kind_36 (by decide) ?_
        refine lv_bipush (v := 60) hx hb dX5_kind_37 (by decide) ?_
        refine kS_i (As := [.int p3, .int 1, .int 60]) (rest := []) (wr := [(x, .inr (7, [.ref xk, .ref xb, .ref xo, .ref xa, .int near, .int 0, .int 0, .int 0])), (xk, .inr (1, [.int 0, .ref e0, .int 0]))]) ⟨hx, hb, hml, hown, hts⟩ (c_isWithin l D e0 _ p3 1 60) (va_cwS 3 hts gX5_kind_X5_isWithin rfl rfl rfl (by decide +kernel) ⟨Nat.le_of_ble_eq_true rfl, Nat.le_of_ble_eq_true rfl⟩) hP hD hK hS hA hE rfl [] [0, 1] [] rfl rfl (by decide) (by decide) (by decide) rfl rfl hl.1 (Nat.le_of_ble_eq_true rfl) dX5_kind_39 ⟨Nat.le_of_ble_eq_true rfl, Nat.le_of_ble_eq_true rfl⟩ (fun r_10 u9 H locs hw hP hD hK hS => ?_)
        have hw : r_10 = (isW p3 1 60) := hw
        subst hw
        have hP : va_P D vwCl [(x, .inr (7, [.ref xk, .ref xb, .ref xo, .ref xa, .int near, .int 0, .int 0, .int 0])), (xk, .inr (1, [.int 0, .ref e0, .int 0]))] H := hP
        have hD : va_D A [(x, .inr (7, [.ref xk, .ref xb, .ref xo, .ref xa, .int near, .int 0, .int 0, .int 0])), (xk, .inr (1, [.int 0, .ref e0, .int 0]))] := hD
        have hK : va_K D vwCl [] s := hK
        refine lv_if_eq (tgt := 71) hx hb dX5_kind_42 (by decide) (fun c_42 => ?_) (fun c_42 => ?_)
        · refine lv_iconst (v := 0) hx hb dX5_kind_71 (by decide) ?_
          refine lv_istore (lv' := [(8, .int 0), (7, .int 0), (0, .ref x), (1, .int p0), (2, .int p1), (3, .int p2), (4, .int p3), (5, .int p4), (6, .int p5)]) hx hb dX5_kind_72 hl (by decide) rfl (fun ls hl => ?_)
          refine lv_iload hx hb dX5_kind_74 (lv_at hl 1 rfl) ?_
          refine lv_if_eq (tgt := 84) hx hb dX5_kind_76 (by decide) (fun _ => ?_) (fun h9 => absurd (by decide) h9)
          exact kthrow (X := "java/lang/IllegalArgumentException") (tx := "no such kind can be") (ik := 51) (is := 53) (ic := 55) ⟨hx, hb, hml, hown, hts⟩ hl9 hS hE (by decide) (by decide +kernel) (by decide +kernel) (by decide +kernel) (by decide +kernel) (by decide +kernel) (by decide +kernel) hl.1 dX5_kind_84 dX5_kind_87 dX5_kind_88 dX5_kind_90 dX5_kind_93 ht0 (Nat.le_of_ble_eq_true rfl) (Nat.le_of_ble_eq_true rfl) (Nat.le_of_ble_eq_true rfl) (Nat.le_of_ble_eq_true rfl) hlocks (if_pos (Or.inr (Or.inr (Or.inl c_24)))) (Nat.le_of_ble_eq_true rfl) (Nat.le_of_ble_eq_true rfl)
        · refine lv_iload hx hb dX5_kind_45 (lv_at hl 6 rfl) ?_
          refine lv_iconst (v := 0) hx hb dX5_kind_47 (by decide) ?_
          refine lv_iconst (v := 2) hx hb dX5_kind_48 (by decide) ?_
          refine kS_i (As := [.int p4, .int 0, .int 2]) (rest := []) (wr := [(x, .inr (7, [.ref xk, .ref xb, .ref xo, .ref xa, .int near, .int 0, .int 0, .int 0])), (xk, .inr (1, [.int 0, .ref e0, .int 0]))]) ⟨hx, hb, hml, hown, hts⟩ (c_isWithin l D e0 _ p4 0 2) (va_cwS 3 hts gX5_kind_X5_isWithin rfl rfl rfl (by decide +kernel) ⟨Nat.le_of_ble_eq_true rfl, Nat.le_of_ble_eq_true rfl⟩) hP hD hK hS hA hE rfl [] [0, 1] [] rfl rfl (by decide) (by decide) (by decide) rfl rfl hl.1 (Nat.le_of_ble_eq_true rfl) dX5_kind_49 ⟨Nat.le_of_ble_eq_true rfl, Nat.le_of_ble_eq_true rfl⟩ (fun r_11 u9 H locs hw hP hD hK hS => ?_)
          have hw : r_11 = (isW p4 0 2) := hw
          subst hw
          have hP : va_P D vwCl [(x, .inr (7, [.ref xk, .ref xb, .ref xo, .ref xa, .int near, .int 0, .int 0, .int 0])), (xk, .inr (1, [.int 0, .ref e0, .int 0]))] H := hP
          have hD : va_D A [(x, .inr (7, [.ref xk, .ref xb, .ref xo, .ref xa, .int near, .int 0, .int 0, .int 0])), (xk, .inr (1, [.int 0, .ref e0, .int 0]))] := hD
          have hK : va_K D vwCl [] s := hK
          refine lv_if_eq (tgt := 71) hx hb dX5_kind_52 (by decide) (fun c_52 => ?_) (fun c_52 => ?_)
          · refine lv_iconst (v := 0) hx hb dX5_kind_71 (by decide) ?_
            refine lv_istore (lv' := [(8, .int 0), (7, .int 0), (0, .ref x), (1, .int p0), (2, .int p1), (3, .int p2), (4, .int p3), (5, .int p4), (6, .int p5)]) hx hb dX5_kind_72 hl (by decide) rfl (fun ls hl => ?_)
            refine lv_iload hx hb dX5_kind_74 (lv_at hl 1 rfl) ?_
            refine lv_if_eq (tgt := 84) hx hb dX5_kind_76 (by decide) (fun _ => ?_) (fun h9 => absurd (by decide) h9)
            exact kthrow (X := "java/lang/IllegalArgumentException") (tx := "no such kind can be") (ik := 51) (is := 53) (ic := 55) ⟨hx, hb, hml, hown, hts⟩ hl9 hS hE (by decide) (by decide +kernel) (by decide +kernel) (by decide +kernel) (by decide +kernel) (by decide +kernel) (by decide +kernel) hl.1 dX5_kind_84 dX5_kind_87 dX5_kind_88 dX5_kind_90 dX5_kind_93 ht0 (Nat.le_of_ble_eq_true rfl) (Nat.le_of_ble_eq_true rfl) (Nat.le_of_ble_eq_true rfl) (Nat.le_of_ble_eq_true rfl) hlocks (if_pos (Or.inr (Or.inr (Or.inl c_24)))) (Nat.le_of_ble_eq_true rfl) (Nat.le_of_ble_eq_true rfl)
          · refine lv_iload hx hb dX5_kind_55 (lv_at hl 7 rfl) ?_
            refine lv_iconst (v := 0) hx hb dX5_kind_57 (by decide) ?_
            refine lv_sipush (v := 200) hx hb dX5_kind_58 (by decide) ?_
            refine kS_i (As := [.int p5, .int 0, .int 200]) (rest := []) (wr := [(x, .inr (7, [.ref xk, .ref xb, .ref xo, .ref xa, .int near, .int 0, .int 0, .int 0])), (xk, .inr (1, [.int 0, .ref e0, .int 0]))]) ⟨hx, hb, hml, hown, hts⟩ (c_isWithin l D e0 _ p5 0 200) (va_cwS 3 hts gX5_kind_X5_isWithin rfl rfl rfl (by decide +kernel) ⟨Nat.le_of_ble_eq_true rfl, Nat.le_of_ble_eq_true rfl⟩) hP hD hK hS hA hE rfl [] [0, 1] [] rfl rfl (by decide) (by decide) (by decide) rfl rfl hl.1 (Nat.le_of_ble_eq_true rfl) dX5_kind_61 ⟨Nat.le_of_ble_eq_true rfl, Nat.le_of_ble_eq_true rfl⟩ (fun r_12 u9 H locs hw hP hD hK hS => ?_)
            have hw : r_12 = (isW p5 0 200) := hw
            subst hw
            have hP : va_P D vwCl [(x, .inr (7, [.ref xk, .ref xb, .ref xo, .ref xa, .int near, .int 0, .int 0, .int 0])), (xk, .inr (1, [.int 0, .ref e0, .int 0]))] H := hP
            have hD : va_D A [(x, .inr (7, [.ref xk, .ref xb, .ref xo, .ref xa, .int near, .int 0, .int 0, .int 0])), (xk, .inr (1, [.int 0, .ref e0, .int 0]))] := hD
            have hK : va_K D vwCl [] s := hK
            refine lv_if_eq (tgt := 71) hx hb dX5_kind_64 (by decide) (fun c_64 => ?_) (fun c_64 => ?_)
            · refine lv_iconst (v := 0) hx hb dX5_kind_71 (by decide) ?_
              refine lv_istore (lv' := [(8, .int 0), (7, .int 0), (0, .ref x), (1, .int p0), (2, .int p1), (3, .int p2), (4, .int p3), (5, .int p4), (6, .int p5)]) hx hb dX5_kind_72 hl (by decide) rfl (fun ls hl => ?_)
              refine lv_iload hx hb dX5_kind_74 (lv_at hl 1 rfl) ?_
              refine lv_if_eq (tgt := 84) hx hb dX5_kind_76 (by decide) (fun _ => ?_) (fun h9 => absurd (by decide) h9)
              exact kthrow (X := "java/lang/IllegalArgumentException") (tx := "no such kind can be") (ik := 51) (is := 53) (ic := 55) ⟨hx, hb, hml, hown, hts⟩ hl9 hS hE (by decide) (by decide +kernel) (by decide +kernel) (by decide +kernel) (by decide +kernel) (by decide +kernel) (by decide +kernel) hl.1 dX5_kind_84 dX5_kind_87 dX5_kind_88 dX5_kind_90 dX5_kind_93 ht0 (Nat.le_of_ble_eq_true rfl) (Nat.le_of_ble_eq_true rfl) (Nat.le_of_ble_eq_true rfl) (Nat.le_of_ble_eq_true rfl) hlocks (if_pos (Or.inr (Or.inr (Or.inl c_24)))) (Nat.le_of_ble_eq_true rfl) (Nat.le_of_ble_eq_true rfl)
            · refine lv_iconst (v := 1) hx hb dX5_kind_67 (by decide) ?_
              refine lv_goto (tgt := 72) hx hb dX5_kind_68 (by decide) ?_
              refine lv_istore (lv' := [(8, .int 1), (7, .int 0), (0, .ref x), (1, .int p0), (2, .int p1), (3, .int p2), (4, .int p3), (5, .int p4), (6, .int p5)]) hx hb dX5_kind_72 hl (by decide) rfl (fun ls hl => ?_)
              refine lv_iload hx hb dX5_kind_74 (lv_at hl 1 rfl) ?_
              refine lv_if_eq (tgt := 84) hx hb dX5_kind_76 (by decide) (fun _ => ?_) (fun h9 => absurd (by decide) h9)
              exact kthrow (X := "java/lang/IllegalArgumentException") (tx := "no such kind can be") (ik := 51) (is := 53) (ic := 55) ⟨hx, hb, hml, hown, hts⟩ hl9 hS hE (by decide) (by decide +kernel) (by decide +kernel) (by decide +kernel) (by decide +kernel) (by decide +kernel) (by decide +kernel) hl.1 dX5_kind_84 dX5_kind_87 dX5_kind_88 dX5_kind_90 dX5_kind_93 ht0 (Nat.le_of_ble_eq_true rfl) (Nat.le_of_ble_eq_true rfl) (Nat.le_of_ble_eq_true rfl) (Nat.le_of_ble_eq_true rfl) hlocks (if_pos (Or.inr (Or.inr (Or.inl c_24)))) (Nat.le_of_ble_eq_true rfl) (Nat.le_of_ble_eq_true rfl)
      · refine lv_iconst (v := 1) hx hb dX5_kind_27 (by decide) ?_
        refine lv_goto (tgt := 32) hx hb dX5_kind_28 (by decide) ?_
        refine lv_istore (lv' := [(7, .int 1), (0, .ref x), (1, .int p0), (2, .int p1), (3, .int p2), (4, .int p3), (5, .int p4), (6, .int p5)]) hx hb dX5_kind_32 hl (by decide) rfl (fun ls hl => ?_)
        refine lv_iload hx hb dX5_kind_34 (lv_at hl 5 rfl) ?_
        refine lv_iconst (v := 1) hx hb dX5_kind_36 (by decide) ?_
        refine lv_bipush (v := 60) hx hb dX5_kind_37 (by decide) ?_
        refine kS_i (As := [.int p3, .int 1, .int 60]) (rest := []) (wr := [(x, .inr (7, [.ref xk, .ref xb, .ref xo, .ref xa, .int near, .int 0, .int 0, .int 0])), (xk, .inr (1, [.int 0, .ref e0, .int 0]))]) ⟨hx, hb, hml, hown, hts⟩ (c_isWithin l D e0 _ p3 1 60) (va_cwS 3 hts gX5_kind_X5_isWithin rfl rfl rfl (by decide +kernel) ⟨Nat.le_of_ble_eq_true rfl, Nat.le_of_ble_eq_true rfl⟩) hP hD hK hS hA hE rfl [] [0, 1] [] rfl rfl (by decide) (by decide) (by decide) rfl rfl hl.1 (Nat.le_of_ble_eq_true rfl) dX5_kind_39 ⟨Nat.le_of_ble_eq_true rfl, Nat.le_of_ble_eq_true rfl⟩ (fun r_13 u9 H locs hw hP hD hK hS => ?_)
        have hw : r_13 = (isW p3 1 60) := hw
        subst hw
        have hP : va_P D vwCl [(x, .inr (7, [.ref xk, .ref xb, .ref xo, .ref xa, .int near, .int 0, .int 0, .int 0])), (xk, .inr (1, [.int 0, .ref e0, .int 0]))] H := hP
        have hD : va_D A [(x, .inr (7, [.ref xk, .ref xb, .ref xo, .ref xa, .int near, .int 0, .int 0, .int 0])), (xk, .inr (1, [.int 0, .ref e0, .int 0]))] := hD
        have hK : va_K D vwCl [] s := hK
        refine lv_if_eq (tgt := 71) hx hb dX5_kind_42 (by decide) (fun c_42 => ?_) (fun c_42 => ?_)
        · refine lv_iconst (v := 0) hx hb dX5_kind_71 (by decide) ?_
          refine lv_istore (lv' := [(8, .int 0), (7, .int 1), (0, .ref x), (1, .int p0), (2, .int p1), (3, .int p2), (4, .int p3), (5, .int p4), (6, .int p5)]) hx hb dX5_kind_72 hl (by decide) rfl (fun ls hl => ?_)
          refine lv_iload hx hb dX5_kind_74 (lv_at hl 1 rfl) ?_
          refine lv_if_eq (tgt := 84) hx hb dX5_kind_76 (by decide) (fun h9 => absurd h9 (by decide)) (fun _ => ?_)
          refine lv_iload hx hb dX5_kind_79 (lv_at hl 0 rfl) ?_
          refine lv_if_ne (tgt := 94) hx hb dX5_kind_81 (by decide) (fun h9 => absurd (by decide) h9) (fun _ => ?_)
          exact kthrow (X := "java/lang/IllegalArgumentException") (tx := "no such kind can be") (ik := 51) (is := 53) (ic := 55) ⟨hx, hb, hml, hown, hts⟩ hl9 hS hE (by decide) (by decide +kernel) (by decide +kernel) (by decide +kernel) (by decide +kernel) (by decide +kernel) (by decide +kernel) hl.1 dX5_kind_84 dX5_kind_87 dX5_kind_88 dX5_kind_90 dX5_kind_93 ht0 (Nat.le_of_ble_eq_true rfl) (Nat.le_of_ble_eq_true rfl) (Nat.le_of_ble_eq_true rfl) (Nat.le_of_ble_eq_true rfl) hlocks (if_pos (Or.inr (Or.inr (Or.inr (Or.inl c_42))))) (Nat.le_of_ble_eq_true rfl) (Nat.le_of_ble_eq_true rfl)
        · refine lv_iload hx hb dX5_kind_45 (lv_at hl 6 rfl) ?_
          refine lv_iconst (v := 0) hx hb dX5_kind_47 (by decide) ?_
          refine lv_iconst (v := 2) hx hb dX5_kind_48 (by decide) ?_
          refine kS_i (As := [.int p4, .int 0, .int 2]) (rest := []) (wr := [(x, .inr (7, [.ref xk, .ref xb, .ref xo, .ref xa, .int near, .int 0, .int 0, .int 0])), (xk, .inr (1, [.int 0, .ref e0, .int 0]))]) ⟨hx, hb, hml, hown, hts⟩ (c_isWithin l D e0 _ p4 0 2) (va_cwS 3 hts gX5_kind_X5_isWithin rfl rfl rfl (by decide +kernel) ⟨Nat.le_of_ble_eq_true rfl, Nat.le_of_ble_eq_true rfl⟩) hP hD hK hS hA hE rfl [] [0, 1] [] rfl rfl (by decide) (by decide) (by decide) rfl rfl hl.1 (Nat.le_of_ble_eq_true rfl) dX5_kind_49 ⟨Nat.le_of_ble_eq_true rfl, Nat.le_of_ble_eq_true rfl⟩ (fun r_14 u9 H locs hw hP hD hK hS => ?_)
          have hw : r_14 = (isW p4 0 2) := hw
          subst hw
          have hP : va_P D vwCl [(x, .inr (7, [.ref xk, .ref xb, .ref xo, .ref xa, .int near, .int 0, .int 0, .int 0])), (xk, .inr (1, [.int 0, .ref e0, .int 0]))] H := hP
          have hD : va_D A [(x, .inr (7, [.ref xk, .ref xb, .ref xo, .ref xa, .int near, .int 0, .int 0, .int 0])), (xk, .inr (1, [.int 0, .ref e0, .int 0]))] := hD
          have hK : va_K D vwCl [] s := hK
          refine lv_if_eq (tgt := 71) hx hb dX5_kind_52 (by decide) (fun c_52 => ?_) (fun c_52 => ?_)
          · refine lv_iconst (v := 0) hx hb dX5_kind_71 (by decide) ?_
            refine lv_istore (lv' := [(8, .int 0), (7, .int 1), (0, .ref x), (1, .int p0), (2, .int p1), (3, .int p2), (4, .int p3), (5, .int p4), (6, .int p5)]) hx hb dX5_kind_72 hl (by decide) rfl (fun ls hl => ?_)
            refine lv_iload hx hb dX5_kind_74 (lv_at hl 1 rfl) ?_
            refine lv_if_eq (tgt := 84) hx hb dX5_kind_76 (by decide) (fun h9 => absurd h9 (by decide)) (fun _ => ?_)
            refine lv_iload hx hb dX5_kind_79 (lv_at hl 0 rfl) ?_
            refine lv_if_ne (tgt := 94) hx hb dX5_kind_81 (by decide) (fun h9 => absurd (by decide) h9) (fun _ => ?_)
            exact kthrow (X := "java/lang/IllegalArgumentException") (tx := "no such kind can be") (ik := 51) (is := 53) (ic := 55) ⟨hx, hb, hml, hown, hts⟩ hl9 hS hE (by decide) (by decide +kernel) (by decide +kernel) (by decide +kernel) (by decide +kernel) (by decide +kernel) (by decide +kernel) hl.1 dX5_kind_84 dX5_kind_87 dX5_kind_88 dX5_kind_90 dX5_kind_93 ht0 (Nat.le_of_ble_eq_true rfl) (Nat.le_of_ble_eq_true rfl) (Nat.le_of_ble_eq_true rfl) (Nat.le_of_ble_eq_true rfl) hlocks (if_pos (Or.inr (Or.inr (Or.inr (Or.inr (Or.inl c_52)))))) (Nat.le_of_ble_eq_true rfl) (Nat.le_of_ble_eq_true rfl)
          · refine lv_iload hx hb dX5_kind_55 (lv_at hl 7 rfl) ?_
            refine lv_iconst (v := 0) hx hb dX5_kind_57 (by decide) ?_
            refine lv_sipush (v := 200) hx hb dX5_kind_58 (by decide) ?_
            refine kS_i (As := [.int p5, .int 0, .int 200]) (rest := []) (wr := [(x, .inr (7, [.ref xk, .ref xb, .ref xo, .ref xa, .int near, .int 0, .int 0, .int 0])), (xk, .inr (1, [.int 0, .ref e0, .int 0]))]) ⟨hx, hb, hml, hown, hts⟩ (c_isWithin l D e0 _ p5 0 200) (va_cwS 3 hts gX5_kind_X5_isWithin rfl rfl rfl (by decide +kernel) ⟨Nat.le_of_ble_eq_true rfl, Nat.le_of_ble_eq_true rfl⟩) hP hD hK hS hA hE rfl [] [0, 1] [] rfl rfl (by decide) (by decide) (by decide) rfl rfl hl.1 (Nat.le_of_ble_eq_true rfl) dX5_kind_61 ⟨Nat.le_of_ble_eq_true rfl, Nat.le_of_ble_eq_true rfl⟩ (fun r_15 u9 H locs hw hP hD hK hS => ?_)
            have hw : r_15 = (isW p5 0 200) := hw
            subst hw
            have hP : va_P D vwCl [(x, .inr (7, [.ref xk, .ref xb, .ref xo, .ref xa, .int near, .int 0, .int 0, .int 0])), (xk, .inr (1, [.int 0, .ref e0, .int 0]))] H := hP
            have hD : va_D A [(x, .inr (7, [.ref xk, .ref xb, .ref xo, .ref xa, .int near, .int 0, .int 0, .int 0])), (xk, .inr (1, [.int 0, .ref e0, .int 0]))] := hD
            have hK : va_K D vwCl [] s := hK
            refine lv_if_eq (tgt := 71) hx hb dX5_kind_64 (by decide) (fun c_64 => ?_) (fun c_64 => ?_)
            · refine lv_iconst (v := 0) hx hb dX5_kind_71 (by decide) ?_
              refine lv_istore (lv' := [(8, .int 0), (7, .int 1), (0, .ref x), (1, .int p0), (2, .int p1), (3, .int p2), (4, .int p3), (5, .int p4), (6, .int p5)]) hx hb dX5_kind_72 hl (by decide) rfl (fun ls hl => ?_)
              refine lv_iload hx hb dX5_kind_74 (lv_at hl 1 rfl) ?_
              refine lv_if_eq (tgt := 84) hx hb dX5_kind_76 (by decide) (fun h9 => absurd h9 (by decide)) (fun _ => ?_)
              refine lv_iload hx hb dX5_kind_79 (lv_at hl 0 rfl) ?_
              refine lv_if_ne (tgt := 94) hx hb dX5_kind_81 (by decide) (fun h9 => absurd (by decide) h9) (fun _ => ?_)
              exact kthrow (X := "java/lang/IllegalArgumentException") (tx := "no such kind can be") (ik := 51) (is := 53) (ic := 55) ⟨hx, hb, hml, hown, hts⟩ hl9 hS hE (by decide) (by decide +kernel) (by decide +kernel) (by decide +kernel) (by decide +kernel) (by decide +kernel) (by decide +kernel) hl.1 dX5_kind_84 dX5_kind_87 dX5_kind_88 dX5_kind_90 dX5_kind_93 ht0 (Nat.le_of_ble_eq_true rfl) (Nat.le_of_ble_eq_true rfl) (Nat.le_of_ble_eq_true rfl) (Nat.le_of_ble_eq_true rfl) hlocks (if_pos (Or.inr (Or.inr (Or.inr (Or.inr (Or.inr (c_64))))))) (Nat.le_of_ble_eq_true rfl) (Nat.le_of_ble_eq_true rfl)
            · refine lv_iconst (v := 1) hx hb dX5_kind_67 (by decide) ?_
              refine lv_goto (tgt := 72) hx hb dX5_kind_68 (by decide) ?_
              refine lv_istore (lv' := [(8, .int 1), (7, .int 1), (0, .ref x), (1, .int p0), (2, .int p1), (3, .int p2), (4, .int p3), (5, .int p4), (6, .int p5)]) hx hb dX5_kind_72 hl (by decide) rfl (fun ls hl => ?_)
              refine lv_iload hx hb dX5_kind_74 (lv_at hl 1 rfl) ?_
              refine lv_if_eq (tgt := 84) hx hb dX5_kind_76 (by decide) (fun h9 => absurd h9 (by decide)) (fun _ => ?_)
              refine lv_iload hx hb dX5_kind_79 (lv_at hl 0 rfl) ?_
              refine lv_if_ne (tgt := 94) hx hb dX5_kind_81 (by decide) (fun _ => ?_) (fun h9 => absurd h9 (by decide))
              refine lv_aload_n hx hb dX5_kind_94 rfl (lv_at hl 2 rfl) ?_
              refine va_get (D := D) (ci := 7) (v := .ref xk) (C := RX5) (T := TX5) (N := 8) hx hb hts (by decide +kernel) hown hK hP 0 rfl rfl 0 (by decide) (hts (.fieldLink RX5 10 "PickCell" "kinds" "Ljava/util/ArrayList;") (by decide +kernel)) (fun _ h9 => h9) rfl dX5_kind_95 ?_
              refine kV_i (As := []) (rest := []) (wr := [(x, .inr (7, [.ref xk, .ref xb, .ref xo, .ref xa, .int near, .int 0, .int 0, .int 0]))]) ⟨hx, hb, hml, hown, hts⟩ (c_size l D e0 _ xk 0 0 (.ref e0)) (cwV 0 hts gX5_kind_Jx4a65c_size_8abf5 rfl rfl rfl (by decide +kernel) ⟨Nat.le_of_ble_eq_true rfl, Nat.le_of_ble_eq_true rfl⟩) hP hD hK hS hA hE rfl [1] [0] [] rfl rfl (by decide) (by decide) (by decide) rfl 1 1 rfl rfl rfl rfl hl.1 (Nat.le_of_ble_eq_true rfl) dX5_kind_98 ⟨Nat.le_of_ble_eq_true rfl, Nat.le_of_ble_eq_true rfl⟩ (fun r_16 u9 H locs hw hP hD hK hS => ?_)
              have hw : r_16 = 0 := hw
              subst hw
              have hP : va_P D vwCl [(x, .inr (7, [.ref xk, .ref xb, .ref xo, .ref xa, .int near, .int 0, .int 0, .int 0])), (xk, .inr (1, [.int 0, .ref e0, .int 0]))] H := hP
              have hD : va_D A [(x, .inr (7, [.ref xk, .ref xb, .ref xo, .ref xa, .int near, .int 0, .int 0, .int 0])), (xk, .inr (1, [.int 0, .ref e0, .int 0]))] := hD
              have hK : va_K D vwCl [] s := hK
              refine lv_iconst (v := 5) hx hb dX5_kind_101 (by decide) ?_
              refine lv_icmp_lt (tgt := 115) hx hb dX5_kind_102 (by decide) (fun _ => ?_) (fun h9 => absurd (by decide) h9)
              refine lv_aload_n hx hb dX5_kind_115 rfl (lv_at hl 2 rfl) ?_
              refine va_get (D := D) (ci := 7) (v := .ref xk) (C := RX5) (T := TX5) (N := 8) hx hb hts (by decide +kernel) hown hK hP 0 rfl rfl 0 (by decide) (hts (.fieldLink RX5 10 "PickCell" "kinds" "Ljava/util/ArrayList;") (by decide +kernel)) (fun _ h9 => h9) rfl dX5_kind_116 ?_
              refine kV_i (As := []) (rest := []) (wr := [(x, .inr (7, [.ref xk, .ref xb, .ref xo, .ref xa, .int near, .int 0, .int 0, .int 0]))]) ⟨hx, hb, hml, hown, hts⟩ (c_size l D e0 _ xk 0 0 (.ref e0)) (cwV 0 hts gX5_kind_Jx4a65c_size_8abf5 rfl rfl rfl (by decide +kernel) ⟨Nat.le_of_ble_eq_true rfl, Nat.le_of_ble_eq_true rfl⟩) hP hD hK hS hA hE rfl [1] [0] [] rfl rfl (by decide) (by decide) (by decide) rfl 1 1 rfl rfl rfl rfl hl.1 (Nat.le_of_ble_eq_true rfl) dX5_kind_119 ⟨Nat.le_of_ble_eq_true rfl, Nat.le_of_ble_eq_true rfl⟩ (fun r_17 u9 H locs hw hP hD hK hS => ?_)
              have hw : r_17 = 0 := hw
              subst hw
              have hP : va_P D vwCl [(x, .inr (7, [.ref xk, .ref xb, .ref xo, .ref xa, .int near, .int 0, .int 0, .int 0])), (xk, .inr (1, [.int 0, .ref e0, .int 0]))] H := hP
              have hD : va_D A [(x, .inr (7, [.ref xk, .ref xb, .ref xo, .ref xa, .int near, .int 0, .int 0, .int 0])), (xk, .inr (1, [.int 0, .ref e0, .int 0]))] := hD
              have hK : va_K D vwCl [] s := hK
              refine lv_istore (lv' := [(9, .int 0), (8, .int 1), (7, .int 1), (0, .ref x), (1, .int p0), (2, .int p1), (3, .int p2), (4, .int p3), (5, .int p4), (6, .int p5)]) hx hb dX5_kind_122 hl (by decide) rfl (fun ls hl => ?_)
              refine lv_aload_n hx hb dX5_kind_124 rfl (lv_at hl 3 rfl) ?_
              refine va_get (D := D) (ci := 7) (v := .ref xk) (C := RX5) (T := TX5) (N := 8) hx hb hts (by decide +kernel) hown hK hP 0 rfl rfl 0 (by decide) (hts (.fieldLink RX5 10 "PickCell" "kinds" "Ljava/util/ArrayList;") (by decide +kernel)) (fun _ h9 => h9) rfl dX5_kind_125 ?_
              refine va_new (ci := 5) (fs := [.int 0, .int 0, .int 0, .int 0, .int 0, .int 0, .int 0]) (C := RX3) (T := TX3) (N := 7) hx hb hts (by decide +kernel) tyX3 tyX3_ok hown (hts (.classLink RX5 67 RX3) (by decide +kernel)) (hts (.instantiable RX3 7) (by decide +kernel)) (hts (.initialized RX3) (by decide +kernel)) hK hP hD hS hA rfl (fun j hj => by rcases (show j = 0 ∨ j = 1 ∨ j = 2 ∨ j = 3 ∨ j = 4 ∨ j = 5 ∨ j = 6 by omega) with rfl | rfl | rfl | rfl | rfl | rfl | rfl <;> rfl) (Nat.le_of_ble_eq_true rfl) (Nat.le_of_ble_eq_true rfl) dX5_kind_128 (fun q_18 H hP hD hS => ?_)
              have hP : va_P D vwCl [(x, .inr (7, [.ref xk, .ref xb, .ref xo, .ref xa, .int near, .int 0, .int 0, .int 0])), (xk, .inr (1, [.int 0, .ref e0, .int 0])), (q_18, .inr (5, [.int 0, .int 0, .int 0, .int 0, .int 0, .int 0, .int 0]))] H := hP
              have hD : va_D A [(x, .inr (7, [.ref xk, .ref xb, .ref xo, .ref xa, .int near, .int 0, .int 0, .int 0])), (xk, .inr (1, [.int 0, .ref e0, .int 0])), (q_18, .inr (5, [.int 0, .int 0, .int 0, .int 0, .int 0, .int 0, .int 0]))] := hD
              refine lv_dup hx hb dX5_kind_131 rfl ?_
              refine lv_iload hx hb dX5_kind_132 (lv_at hl 0 rfl) ?_
              refine lv_iload_n hx hb dX5_kind_134 rfl (lv_at hl 4 rfl) ?_
              refine lv_iload_n hx hb dX5_kind_135 rfl (lv_at hl 5 rfl) ?_
              refine lv_iload_n hx hb dX5_kind_136 rfl (lv_at hl 6 rfl) ?_
              refine lv_iload hx hb dX5_kind_137 (lv_at hl 7 rfl) ?_
              refine lv_iload hx hb dX5_kind_139 (lv_at hl 8 rfl) ?_
              refine lv_iload hx hb dX5_kind_141 (lv_at hl 9 rfl) ?_
              refine kI_v (As := [.int 0, .int p0, .int p1, .int p2, .int p3, .int p4, .int p5]) (rest := [.ref q_18, .ref xk]) (wr := [(x, .inr (7, [.ref xk, .ref xb, .ref xo, .ref xa, .int near, .int 0, .int 0, .int 0])), (xk, .inr (1, [.int 0, .ref e0, .int 0]))]) ⟨hx, hb, hml, hown, hts⟩ (c_k3_init l D e0 _ q_18 0 p0 p1 p2 p3 p4 p5) (cwI 7 hts gX5_kind_X3_init rfl rfl rfl (hts (.initialized RX3) (by decide +kernel)) (hts (.methodLink RX5 69 yX3_init) (by decide +kernel)) (hts (.instanceMethod yX3_init) (by decide +kernel)) rfl (by decide +kernel) ⟨Nat.le_of_ble_eq_true rfl, Nat.le_of_ble_eq_true rfl⟩) hP hD hK hS hA hE rfl [2] [0, 1] [] rfl rfl (by decide) (by decide) (by decide) rfl rfl hl.1 (Nat.le_of_ble_eq_true rfl) dX5_kind_143 ⟨Nat.le_of_ble_eq_true rfl, Nat.le_of_ble_eq_true rfl⟩ (fun u9 H locs hw hP hD hK hS => ?_)
              have hP : va_P D vwCl [(x, .inr (7, [.ref xk, .ref xb, .ref xo, .ref xa, .int near, .int 0, .int 0, .int 0])), (xk, .inr (1, [.int 0, .ref e0, .int 0])), (q_18, .inr (5, [.int 0, .int p0, .int p1, .int p2, .int p3, .int p4, .int p5]))] H := hP
              have hD : va_D A [(x, .inr (7, [.ref xk, .ref xb, .ref xo, .ref xa, .int near, .int 0, .int 0, .int 0])), (xk, .inr (1, [.int 0, .ref e0, .int 0])), (q_18, .inr (5, [.int 0, .int p0, .int p1, .int p2, .int p3, .int p4, .int p5]))] := hD
              have hK : va_K D vwCl [] s := hK
              refine kV_i (As := [.ref q_18]) (rest := []) (wr := [(x, .inr (7, [.ref xk, .ref xb, .ref xo, .ref xa, .int near, .int 0, .int 0, .int 0]))]) ⟨hx, hb, hml, hown, hts⟩ (c_add_X3 l D e0 _ xk q_18 0 p0 p1 p2 p3 p4 p5) (cwV 1 hts gX5_kind_Jx4a65c_add_9ea2d rfl rfl rfl (by decide +kernel) ⟨Nat.le_of_ble_eq_true rfl, Nat.le_of_ble_eq_true rfl⟩) hP hD hK hS hA hE rfl [1, 2] [0] [] rfl rfl (by decide) (by decide) (by decide) rfl 1 1 rfl rfl rfl rfl hl.1 (Nat.le_of_ble_eq_true rfl) dX5_kind_146 ⟨Nat.le_of_ble_eq_true rfl, Nat.le_of_ble_eq_true rfl⟩ (fun r_19 u9 H locs hw hP hD hK hS => ?_)
              obtain ⟨qa, hqa⟩ : ∃ z : Nat, z = u9 := ⟨_, rfl⟩
              rw [← hqa] at hP hD
              have hw : r_19 = 1 := hw
              subst hw
              have hP : va_P D vwCl [(x, .inr (7, [.ref xk, .ref xb, .ref xo, .ref xa, .int near, .int 0, .int 0, .int 0])), (xk, .inr (1, [.int 1, .ref qa, .int 1]))] H := hP
              have hD : va_D A [(x, .inr (7, [.ref xk, .ref xb, .ref xo, .ref xa, .int near, .int 0, .int 0, .int 0])), (xk, .inr (1, [.int 1, .ref qa, .int 1]))] := hD
              have hK : va_K D vwCl [] s := hK
              refine lv_pop hx hb dX5_kind_149 rfl ?_
              refine lv_iload hx hb dX5_kind_150 (lv_at hl 0 rfl) ?_
              exact vx_ret (end_i (v := 0) hx hb hr rfl hlocks hP hD hK hS () (⟨(if_neg (fun h => h.elim c_6 (fun h => h.elim c_15 (fun h => h.elim c_24 (fun h => h.elim c_42 (fun h => h.elim c_52 c_64)))))), rfl⟩) [] [] rfl (by decide) rfl (Nat.le_of_ble_eq_true rfl) (Nat.le_of_ble_eq_true rfl) dX5_kind_152)
set_option maxHeartbeats 4000000 in
set_option maxRecDepth 100000 in
/-- digest() of a new object -/
theorem c_digest (l : Launch) (hl9 : l.stackTraces = false) (D : va_G) (e0 sz : Nat) (x xk xb xo xa xt xp xs : Nat) (cxp : ClassId) (near : Int32) : Kl (S := Unit) l yX5_digest wsX5_digest ({ frames := 7, cells := 13, slots := 78, locals := 105 } : Room) [.ref x] D [(x, .inr (7, [.ref xk, .ref xb, .ref xo, .ref xa, .int near, .int 0, .int 0, .int 0])), (xk, .inr (1, [.int 0, .ref e0, .int 0])), (xb, .inr (3, [.ref xt, .ref xp, .ref xs, .int 0])), (xt, .inr (1, [.int 0, .ref e0, .int 0])), (xp, .inl (cxp, 36, .inl (fun _ => 0))), (xo, .inr (1, [.int 0, .ref e0, .int 0])), (xa, .inr (2, [.int 0, .int 0, .int 0, .null, .int 0, .double 0]))] [(cxp, .int)] e0 sz (fun r _ => r = (-3127751602413055288)) (fun _ => []) (fun _ => []) 13 78 := by
  refine Met.ofW (cc := cX5_digest) (maxL := 4) (ret := (some .long)) (by decide) rfl ?_
  intro p e s m args below meth c s₁ B hml hv
  obtain ⟨rfl, hsz, hP, hK, hD0, hE⟩ := hv
  have hx := B.exec
  have hb := B.bytes
  have hr := B.returns
  have hts := atoms_spec (ws := wsX5_digest) B.pre
  have hown : s.vm.findClass RX5 = some m.cls := findClass_of_methodNamed B.named
  have hlocks := B.notSynchronized
  subst hsz
  have hD := hD0.self (sz := s.heap.size)
  generalize hAe : va_A [(x, .inr (7, [.ref xk, .ref xb, .ref xo, .ref xa, .int near, .int 0, .int 0, .int 0])), (xk, .inr (1, [.int 0, .ref e0, .int 0])), (xb, .inr (3, [.ref xt, .ref xp, .ref xs, .int 0])), (xt, .inr (1, [.int 0, .ref e0, .int 0])), (xp, .inl (cxp, 36, .inl (fun _ => 0))), (xo, .inr (1, [.int 0, .ref e0, .int 0])), (xa, .inr (2, [.int 0, .int 0, .int 0, .null, .int 0, .double 0]))] s.heap.size = A at hD hE ⊢
  have hA : ∀ q : Nat, s.heap.size ≤ q → A q := fun q h => by rw [← hAe]; exact Or.inr h
  have hS : va_S A s.heap s.heap [] := va_S.rf
  have hP : va_P D vwCl [(x, .inr (7, [.ref xk, .ref xb, .ref xo, .ref xa, .int near, .int 0, .int 0, .int 0])), (xk, .inr (1, [.int 0, .ref e0, .int 0])), (xb, .inr (3, [.ref xt, .ref xp, .ref xs, .int 0])), (xt, .inr (1, [.int 0, .ref e0, .int 0])), (xp, .inl (cxp, 36, .inl (fun _ => 0))), (xo, .inr (1, [.int 0, .ref e0, .int 0])), (xa, .inr (2, [.int 0, .int 0, .int 0, .null, .int 0, .double 0]))] s.heap := hP
  have hl := lv_entry ([.ref x]) (n := 4) (Nat.le_of_ble_eq_true rfl)
  rw [lg_entry_eq]
  generalize (lg_sl ([.ref x]) ++ List.replicate (4 - (lg_sl ([.ref x])).length) Slot.unset).toArray = ls at hl ⊢
  have hl : lv_has ls 4 [(0, .ref x)] := hl
  refine lv_ldc2 (v := 9609) hx hb hown (hts (.constantLong RX5 317 9609) (by decide +kernel)) dX5_digest_0 ?_
  refine lv_lstore_n (lv' := [(1, .long 9609), (0, .ref x)]) hx hb dX5_digest_3 rfl hl (by decide) rfl (fun ls hl => ?_)
  refine lv_iconst (v := 0) hx hb dX5_digest_4 (by decide) ?_
  refine lv_istore_n (lv' := [(3, .int 0), (1, .long 9609), (0, .ref x)]) hx hb dX5_digest_5 rfl hl (by decide) rfl (fun ls hl => ?_)
  refine lv_iload_n hx hb dX5_digest_6 rfl (lv_at hl 0 rfl) ?_
  refine lv_bipush (v := 12) hx hb dX5_digest_7 (by decide) ?_
  refine lv_icmp_gt (tgt := 31) hx hb dX5_digest_9 (by decide) (fun h9 => absurd h9 (by decide)) (fun _ => ?_)
  refine lv_lload_n hx hb dX5_digest_12 rfl (lv_at hl 1 rfl) ?_
  refine lv_ldc2 (v := 31) hx hb hown (hts (.constantLong RX5 319 31) (by decide +kernel)) dX5_digest_13 ?_
  refine lv_lmul hx hb dX5_digest_16 ?_
  refine lv_topl (fun x_1 ex_1 => ?_)
  obtain rfl : x_1 = 297879 := ex_1.trans (by decide +kernel)
  refine lv_aload_n hx hb dX5_digest_17 rfl (lv_at hl 2 rfl) ?_
  refine lv_iload_n hx hb dX5_digest_18 rfl (lv_at hl 0 rfl) ?_
  refine kXV_i (As := [.int 0]) (rest := [.long 297879]) (wr := []) ⟨hx, hb, hml, hown, hts⟩ (c_many l hl9 D e0 _ x xk xb xo xa xt xp xs cxp near 0) (cwV 1 hts gX5_digest_X5_many rfl rfl rfl (by decide +kernel) ⟨Nat.le_of_ble_eq_true rfl, Nat.le_of_ble_eq_true rfl⟩) hP hD hK hS hA hE rfl [0, 1, 2, 3, 4, 5, 6] [] [0] rfl rfl (by decide) (by decide) (by decide) rfl 7 0 rfl rfl rfl rfl hl.1 (Nat.le_of_ble_eq_true rfl) dX5_digest_19 ⟨Nat.le_of_ble_eq_true rfl, Nat.le_of_ble_eq_true rfl⟩ (fun ce q9 H locs hpx hP hD hS hce hcv hcl => ?_) (fun r_2 u9 H locs hw hP hD hK hS => ?_)
  · exact absurd ⟨by decide, by decide⟩ hpx
  · skip
    have hw : r_2 = 0 := hw.2.trans (by decide)
    subst hw
    have hP : va_P D vwCl [(x, .inr (7, [.ref xk, .ref xb, .ref xo, .ref xa, .int near, .int 0, .int 0, .int 0])), (xk, .inr (1, [.int 0, .ref e0, .int 0])), (xb, .inr (3, [.ref xt, .ref xp, .ref xs, .int 0])), (xt, .inr (1, [.int 0, .ref e0, .int 0])), (xp, .inl (cxp, 36, .inl (fun _ => 0))), (xo, .inr (1, [.int 0, .ref e0, .int 0])), (xa, .inr (2, [.int 0, .int 0, .int 0, .null, .int 0, .double 0]))] H := hP
    have hD : va_D A [(x, .inr (7, [.ref xk, .ref xb, .ref xo, .ref xa, .int near, .int 0, .int 0, .int 0])), (xk, .inr (1, [.int 0, .ref e0, .int 0])), (xb, .inr (3, [.ref xt, .ref xp, .ref xs, .int 0])), (xt, .inr (1, [.int 0, .ref e0, .int 0])), (xp, .inl (cxp, 36, .inl (fun _ => 0))), (xo, .inr (1, [.int 0, .ref e0, .int 0])), (xa, .inr (2, [.int 0, .int 0, .int 0, .null, .int 0, .double 0]))] := hD
    have hK : va_K D vwCl [(cxp, .int)] s := hK
    refine lv_i2l (v := 0) hx hb dX5_digest_22 (by decide) ?_
    refine lv_ladd hx hb dX5_digest_23 ?_
    refine lv_topl (fun x_3 ex_3 => ?_)
    obtain rfl : x_3 = 297879 := ex_3.trans (by decide +kernel)
    refine lv_lstore_n (lv' := [(1, .long 297879), (3, .int 0), (0, .ref x)]) hx hb dX5_digest_24 rfl hl (by decide) rfl (fun ls hl => ?_)
    refine lv_iinc (v := 1) (lv' := [(3, .int 1), (1, .long 297879), (0, .ref x)]) hx hb dX5_digest_25 hl (k := 1) rfl (by decide) (by decide) rfl (fun ls hl => ?_)
    refine lv_goto (tgt := 6) hx hb dX5_digest_28 (by decide) ?_
    refine lv_iload_n hx hb dX5_digest_6 rfl (lv_at hl 0 rfl) ?_
    refine lv_bipush (v := 12) hx hb dX5_digest_7 (by decide) ?_
    refine lv_icmp_gt (tgt := 31) hx hb dX5_digest_9 (by decide) (fun h9 => absurd h9 (by decide)) (fun _ => ?_)
    refine lv_lload_n hx hb dX5_digest_12 rfl (lv_at hl 1 rfl) ?_
    refine lv_ldc2 (v := 31) hx hb hown (hts (.constantLong RX5 319 31) (by decide +kernel)) dX5_digest_13 ?_
    refine lv_lmul hx hb dX5_digest_16 ?_
    refine lv_topl (fun x_4 ex_4 => ?_)
    obtain rfl : x_4 = 9234249 := ex_4.trans (by decide +kernel)
    refine lv_aload_n hx hb dX5_digest_17 rfl (lv_at hl 2 rfl) ?_
    refine lv_iload_n hx hb dX5_digest_18 rfl (lv_at hl 0 rfl) ?_
    refine kXV_i (As := [.int 1]) (rest := [.long 9234249]) (wr := []) ⟨hx, hb, hml, hown, hts⟩ (c_many l hl9 D e0 _ x xk xb xo xa xt xp xs cxp near 1) (cwV 1 hts gX5_digest_X5_many rfl rfl rfl (by decide +kernel) ⟨Nat.le_of_ble_eq_true rfl, Nat.le_of_ble_eq_true rfl⟩) hP hD hK hS hA hE rfl [0, 1, 2, 3, 4, 5, 6] [] [0] rfl rfl (by decide) (by decide) (by decide) rfl 7 0 rfl rfl rfl rfl hl.1 (Nat.le_of_ble_eq_true rfl) dX5_digest_19 ⟨Nat.le_of_ble_eq_true rfl, Nat.le_of_ble_eq_true rfl⟩ (fun ce q9 H locs hpx hP hD hS hce hcv hcl => ?_) (fun r_5 u9 H locs hw hP hD hK hS => ?_)
    · exact absurd ⟨by decide, by decide⟩ hpx
    · skip
      have hw : r_5 = 0 := hw.2.trans (by decide)
      subst hw
      have hP : va_P D vwCl [(x, .inr (7, [.ref xk, .ref xb, .ref xo, .ref xa, .int near, .int 0, .int 0, .int 0])), (xk, .inr (1, [.int 0, .ref e0, .int 0])), (xb, .inr (3, [.ref xt, .ref xp, .ref xs, .int 0])), (xt, .inr (1, [.int 0, .ref e0, .int 0])), (xp, .inl (cxp, 36, .inl (fun _ => 0))), (xo, .inr (1, [.int 0, .ref e0, .int 0])), (xa, .inr (2, [.int 0, .int 0, .int 0, .null, .int 0, .double 0]))] H := hP
      have hD : va_D A [(x, .inr (7, [.ref xk, .ref xb, .ref xo, .ref xa, .int near, .int 0, .int 0, .int 0])), (xk, .inr (1, [.int 0, .ref e0, .int 0])), (xb, .inr (3, [.ref xt, .ref xp, .ref xs, .int 0])), (xt, .inr (1, [.int 0, .ref e0, .int 0])), (xp, .inl (cxp, 36, .inl (fun _ => 0))), (xo, .inr (1, [.int 0, .ref e0, .int 0])), (xa, .inr (2, [.int 0, .int 0, .int 0, .null, .int 0, .double 0]))] := hD
      have hK : va_K D vwCl [(cxp, .int)] s := hK
      refine lv_i2l (v := 0) hx hb dX5_digest_22 (by decide) ?_
      refine lv_ladd hx hb dX5_digest_23 ?_
      refine lv_topl (fun x_6 ex_6 => ?_)
      obtain rfl : x_6 = 9234249 := ex_6.trans (by decide +kernel)
      refine lv_lstore_n (lv' := [(1, .long 9234249), (3, .int 1), (0, .ref x)]) hx hb dX5_digest_24 rfl hl (by decide) rfl (fun ls hl => ?_)
      refine lv_iinc (v := 2) (lv' := [(3, .int 2), (1, .long 9234249), (0, .ref x)]) hx hb dX5_digest_25 hl (k := 1) rfl (by decide) (by decide) rfl (fun ls hl => ?_)
      refine lv_goto (tgt := 6) hx hb dX5_digest_28 (by decide) ?_
      refine lv_iload_n hx hb dX5_digest_6 rfl (lv_at hl 0 rfl) ?_
      refine lv_bipush (v := 12) hx hb dX5_digest_7 (by decide) ?_
      refine lv_icmp_gt (tgt := 31) hx hb dX5_digest_9 (by decide) (fun h9 => absurd h9 (by decide)) (fun _ => ?_)
      refine lv_lload_n hx hb dX5_digest_12 rfl (lv_at hl 1 rfl) ?_
      refine lv_ldc2 (v := 31) hx hb hown (hts (.constantLong RX5 319 31) (by decide +kernel)) dX5_digest_13 ?_
      refine lv_lmul hx hb dX5_digest_16 ?_
      refine lv_topl (fun x_7 ex_7 => ?_)
      obtain rfl : x_7 = 286261719 := ex_7.trans (by decide +kernel)
      refine lv_aload_n hx hb dX5_digest_17 rfl (lv_at hl 2 rfl) ?_
      refine lv_iload_n hx hb dX5_digest_18 rfl (lv_at hl 0 rfl) ?_
      refine kXV_i (As := [.int 2]) (rest := [.long 286261719]) (wr := []) ⟨hx, hb, hml, hown, hts⟩ (c_many l hl9 D e0 _ x xk xb xo xa xt xp xs cxp near 2) (cwV 1 hts gX5_digest_X5_many rfl rfl rfl (by decide +kernel) ⟨Nat.le_of_ble_eq_true rfl, Nat.le_of_ble_eq_true rfl⟩) hP hD hK hS hA hE rfl [0, 1, 2, 3, 4, 5, 6] [] [0] rfl rfl (by decide) (by decide) (by decide) rfl 7 0 rfl rfl rfl rfl hl.1 (Nat.le_of_ble_eq_true rfl) dX5_digest_19 ⟨Nat.le_of_ble_eq_true rfl, Nat.le_of_ble_eq_true rfl⟩ (fun ce q9 H locs hpx hP hD hS hce hcv hcl => ?_) (fun r_8 u9 H locs hw hP hD hK hS => ?_)
      · exact absurd ⟨by decide, by decide⟩ hpx
      · skip
        have hw : r_8 = 0 := hw.2.trans (by decide)
        subst hw
        have hP : va_P D vwCl [(x, .inr (7, [.ref xk, .ref xb, .ref xo, .ref xa, .int near, .int 0, .int 0, .int 0])), (xk, .inr (1, [.int 0, .ref e0, .int 0])), (xb, .inr (3, [.ref xt, .ref xp, .ref xs, .int 0])), (xt, .inr (1, [.int 0, .ref e0, .int 0])), (xp, .inl (cxp, 36, .inl (fun _ => 0))), (xo, .inr (1, [.int 0, .ref e0, .int 0])), (xa, .inr (2, [.int 0, .int 0, .int 0, .null, .int 0, .double 0]))] H := hP
        have hD : va_D A [(x, .inr (7, [.ref xk, .ref xb, .ref xo, .ref xa, .int near, .int 0, .int 0, .int 0])), (xk, .inr (1, [.int 0, .ref e0, .int 0])), (xb, .inr (3, [.ref xt, .ref xp, .ref xs, .int 0])), (xt, .inr (1, [.int 0, .ref e0, .int 0])), (xp, .inl (cxp, 36, .inl (fun _ => 0))), (xo, .inr (1, [.int 0, .ref e0, .int 0])), (xa, .inr (2, [.int 0, .int 0, .int 0, .null, .int 0, .double 0]))] := hD
        have hK : va_K D vwCl [(cxp, .int)] s := hK
        refine lv_i2l (v := 0) hx hb dX5_digest_22 (by decide) ?_
        refine lv_ladd hx hb dX5_digest_23 ?_
        refine lv_topl (fun x_9 ex_9 => ?_)
        obtain rfl : x_9 = 286261719 := ex_9.trans (by decide +kernel)
        refine lv_lstore_n (lv' := [(1, .long 286261719), (3, .int 2), (0, .ref x)]) hx hb dX5_digest_24 rfl hl (by decide) rfl (fun ls hl => ?_)
        refine lv_iinc (v := 3) (lv' := [(3, .int 3), (1, .long 286261719), (0, .ref x)]) hx hb dX5_digest_25 hl (k := 1) rfl (by decide) (by decide) rfl (fun ls hl => ?_)
        refine lv_goto (tgt := 6) hx hb dX5_digest_28 (by decide) ?_
        refine lv_iload_n hx hb dX5_digest_6 rfl (lv_at hl 0 rfl) ?_
        refine lv_bipush (v := 12) hx hb dX5_digest_7 (by decide) ?_
        refine lv_icmp_gt (tgt := 31) hx hb dX5_digest_9 (by decide) (fun h9 => absurd h9 (by decide)) (fun _ => ?_)
        refine lv_lload_n hx hb dX5_digest_12 rfl (lv_at hl 1 rfl) ?_
        refine lv_ldc2 (v := 31) hx hb hown (hts (.constantLong RX5 319 31) (by decide +kernel)) dX5_digest_13 ?_
        refine lv_lmul hx hb dX5_digest_16 ?_
        refine lv_topl (fun x_10 ex_10 => ?_)
        obtain rfl : x_10 = 8874113289 := ex_10.trans (by decide +kernel)
        refine lv_aload_n hx hb dX5_digest_17 rfl (lv_at hl 2 rfl) ?_
        refine lv_iload_n hx hb dX5_digest_18 rfl (lv_at hl 0 rfl) ?_
        refine kXV_i (As := [.int 3]) (rest := [.long 8874113289]) (wr := []) ⟨hx, hb, hml, hown, hts⟩ (c_many l hl9 D e0 _ x xk xb xo xa xt xp xs cxp near 3) (cwV 1 hts gX5_digest_X5_many rfl rfl rfl (by decide +kernel) ⟨Nat.le_of_ble_eq_true rfl, Nat.le_of_ble_eq_true rfl⟩) hP hD hK hS hA hE rfl [0, 1, 2, 3, 4, 5, 6] [] [0] rfl rfl (by decide) (by decide) (by decide) rfl 7 0 rfl rfl rfl rfl hl.1 (Nat.le_of_ble_eq_true rfl) dX5_digest_19 ⟨Nat.le_of_ble_eq_true rfl, Nat.le_of_ble_eq_true rfl⟩ (fun ce q9 H locs hpx hP hD hS hce hcv hcl => ?_) (fun r_11 u9 H locs hw hP hD hK hS => ?_)
        · exact absurd ⟨by decide, by decide⟩ hpx
        · skip
          have hw : r_11 = 0 := hw.2.trans (by decide)
          subst hw
          have hP : va_P D vwCl [(x, .inr (7, [.ref xk, .ref xb, .ref xo, .ref xa, .int near, .int 0, .int 0, .int 0])), (xk, .inr (1, [.int 0, .ref e0, .int 0])), (xb, .inr (3, [.ref xt, .ref xp, .ref xs, .int 0])), (xt, .inr (1, [.int 0, .ref e0, .int 0])), (xp, .inl (cxp, 36, .inl (fun _ => 0))), (xo, .inr (1, [.int 0, .ref e0, .int 0])), (xa, .inr (2, [.int 0, .int 0, .int 0, .null, .int 0, .double 0]))] H := hP
          have hD : va_D A [(x, .inr (7, [.ref xk, .ref xb, .ref xo, .ref xa, .int near, .int 0, .int 0, .int 0])), (xk, .inr (1, [.int 0, .ref e0, .int 0])), (xb, .inr (3, [.ref xt, .ref xp, .ref xs, .int 0])), (xt, .inr (1, [.int 0, .ref e0, .int 0])), (xp, .inl (cxp, 36, .inl (fun _ => 0))), (xo, .inr (1, [.int 0, .ref e0, .int 0])), (xa, .inr (2, [.int 0, .int 0, .int 0, .null, .int 0, .double 0]))] := hD
          have hK : va_K D vwCl [(cxp, .int)] s := hK
          refine lv_i2l (v := 0) hx hb dX5_digest_22 (by decide) ?_
          refine lv_ladd hx hb dX5_digest_23 ?_
          refine lv_topl (fun x_12 ex_12 => ?_)
          obtain rfl : x_12 = 8874113289 := ex_12.trans (by decide +kernel)
          refine lv_lstore_n (lv' := [(1, .long 8874113289), (3, .int 3), (0, .ref x)]) hx hb dX5_digest_24 rfl hl (by decide) rfl (fun ls hl => ?_)
          refine lv_iinc (v := 4) (lv' := [(3, .int 4), (1, .long 8874113289), (0, .ref x)]) hx hb dX5_digest_25 hl (k := 1) rfl (by decide) (by decide) rfl (fun ls hl => ?_)
          refine lv_goto (tgt := 6) hx hb dX5_digest_28 (by decide) ?_
          refine lv_iload_n hx hb dX5_digest_6 rfl (lv_at hl 0 rfl) ?_
          refine lv_bipush (v := 12) hx hb dX5_digest_7 (by decide) ?_
          refine lv_icmp_gt (tgt := 31) hx hb dX5_digest_9 (by decide) (fun h9 => absurd h9 (by decide)) (fun _ => ?_)
          refine lv_lload_n hx hb dX5_digest_12 rfl (lv_at hl 1 rfl) ?_
          refine lv_ldc2 (v := 31) hx hb hown (hts (.constantLong RX5 319 31) (by decide +kernel)) dX5_digest_13 ?_
          refine lv_lmul hx hb dX5_digest_16 ?_
          refine lv_topl (fun x_13 ex_13 => ?_)
          obtain rfl : x_13 = 275097511959 := ex_13.trans (by decide +kernel)
          refine lv_aload_n hx hb dX5_digest_17 rfl (lv_at hl 2 rfl) ?_
          refine lv_iload_n hx hb dX5_digest_18 rfl (lv_at hl 0 rfl) ?_
          refine kXV_i (As := [.int 4]) (rest := [.long 275097511959]) (wr := []) ⟨hx, hb, hml, hown, hts⟩ (c_many l hl9 D e0 _ x xk xb xo xa xt xp xs cxp near 4) (cwV 1 hts gX5_digest_X5_many rfl rfl rfl (by decide +kernel) ⟨Nat.le_of_ble_eq_true rfl, Nat.le_of_ble_eq_true rfl⟩) hP hD hK hS hA hE rfl [0, 1, 2, 3, 4, 5, 6] [] [0] rfl rfl (by decide) (by decide) (by decide) rfl 7 0 rfl rfl rfl rfl hl.1 (Nat.le_of_ble_eq_true rfl) dX5_digest_19 ⟨Nat.le_of_ble_eq_true rfl, Nat.le_of_ble_eq_true rfl⟩ (fun ce q9 H locs hpx hP hD hS hce hcv hcl => ?_) (fun r_14 u9 H locs hw hP hD hK hS => ?_)
          · exact absurd ⟨by decide, by decide⟩ hpx
          · skip
            have hw : r_14 = 0 := hw.2.trans (by decide)
            subst hw
            have hP : va_P D vwCl [(x, .inr (7, [.ref xk, .ref xb, .ref xo, .ref xa, .int near, .int 0, .int 0, .int 0])), (xk, .inr (1, [.int 0, .ref e0, .int 0])), (xb, .inr (3, [.ref xt, .ref xp, .ref xs, .int 0])), (xt, .inr (1, [.int 0, .ref e0, .int 0])), (xp, .inl (cxp, 36, .inl (fun _ => 0))), (xo, .inr (1, [.int 0, .ref e0, .int 0])), (xa, .inr (2, [.int 0, .int 0, .int 0, .null, .int 0, .double 0]))] H := hP
            have hD : va_D A [(x, .inr (7, [.ref xk, .ref xb, .ref xo, .ref xa, .int near, .int 0, .int 0, .int 0])), (xk, .inr (1, [.int 0, .ref e0, .int 0])), (xb, .inr (3, [.ref xt, .ref xp, .ref xs, .int 0])), (xt, .inr (1, [.int 0, .ref e0, .int 0])), (xp, .inl (cxp, 36, .inl (fun _ => 0))), (xo, .inr (1, [.int 0, .ref e0, .int 0])), (xa, .inr (2, [.int 0, .int 0, .int 0, .null, .int 0, .double 0]))] := hD
            have hK : va_K D vwCl [(cxp, .int)] s := hK
            refine lv_i2l (v := 0) hx hb dX5_digest_22 (by decide) ?_
            refine lv_ladd hx hb dX5_digest_23 ?_
            refine lv_topl (fun x_15 ex_15 => ?_)
            obtain rfl : x_15 = 275097511959 := ex_15.trans (by decide +kernel)
            refine lv_lstore_n (lv' := [(1, .long 275097511959), (3, .int 4), (0, .ref x)]) hx hb dX5_digest_24 rfl hl (by decide) rfl (fun ls hl => ?_)
            refine lv_iinc (v := 5) (lv' := [(3, .int 5), (1, .long 275097511959), (0, .ref x)]) hx hb dX5_digest_25 hl (k := 1) rfl (by decide) (by decide) rfl (fun ls hl => ?_)
            refine lv_goto (tgt := 6) hx hb dX5_digest_28 (by decide) ?_
            refine lv_iload_n hx hb dX5_digest_6 rfl (lv_at hl 0 rfl) ?_
            refine lv_bipush (v := 12) hx hb dX5_digest_7 (by decide) ?_
            refine lv_icmp_gt (tgt := 31) hx hb dX5_digest_9 (by decide) (fun h9 => absurd h9 (by decide)) (fun _ => ?_)
            refine lv_lload_n hx hb dX5_digest_12 rfl (lv_at hl 1 rfl) ?_
            refine lv_ldc2 (v := 31) hx hb hown (hts (.constantLong RX5 319 31) (by decide +kernel)) dX5_digest_13 ?_
            refine lv_lmul hx hb dX5_digest_16 ?_
            refine lv_topl (fun x_16 ex_16 => ?_)
            obtain rfl : x_16 = 8528022870729 := ex_16.trans (by decide +kernel)
            refine lv_aload_n hx hb dX5_digest_17 rfl (lv_at hl 2 rfl) ?_
            refine lv_iload_n hx hb dX5_digest_18 rfl (lv_at hl 0 rfl) ?_
            refine kXV_i (As := [.int 5]) (rest := [.long 8528022870729]) (wr := []) ⟨hx, hb, hml, hown, hts⟩ (c_many l hl9 D e0 _ x xk xb xo xa xt xp xs cxp near 5) (cwV 1 hts gX5_digest_X5_many rfl rfl rfl (by decide +kernel) ⟨Nat.le_of_ble_eq_true rfl, Nat.le_of_ble_eq_true rfl⟩) hP hD hK hS hA hE rfl [0, 1, 2, 3, 4, 5, 6] [] [0] rfl rfl (by decide) (by decide) (by decide) rfl 7 0 rfl rfl rfl rfl hl.1 (Nat.le_of_ble_eq_true rfl) dX5_digest_19 ⟨Nat.le_of_ble_eq_true rfl, Nat.le_of_ble_eq_true rfl⟩ (fun ce q9 H locs hpx hP hD hS hce hcv hcl => ?_) (fun r_17 u9 H locs hw hP hD hK hS => ?_)
            · exact absurd ⟨by decide, by decide⟩ hpx
            · skip
              have hw : r_17 = (-1) := hw.2.trans (by decide)
              subst hw
              have hP : va_P D vwCl [(x, .inr (7, [.ref xk, .ref xb, .ref xo, .ref xa, .int near, .int 0, .int 0, .int 0])), (xk, .inr (1, [.int 0, .ref e0, .int 0])), (xb, .inr (3, [.ref xt, .ref xp, .ref xs, .int 0])), (xt, .inr (1, [.int 0, .ref e0, .int 0])), (xp, .inl (cxp, 36, .inl (fun _ => 0))), (xo, .inr (1, [.int 0, .ref e0, .int 0])), (xa, .inr (2, [.int 0, .int 0, .int 0, .null, .int 0, .double 0]))] H := hP
              have hD : va_D A [(x, .inr (7, [.ref xk, .ref xb, .ref xo, .ref xa, .int near, .int 0, .int 0, .int 0])), (xk, .inr (1, [.int 0, .ref e0, .int 0])), (xb, .inr (3, [.ref xt, .ref xp, .ref xs, .int 0])), (xt, .inr (1, [.int 0, .ref e0, .int 0])), (xp, .inl (cxp, 36, .inl (fun _ => 0))), (xo, .inr (1, [.int 0, .ref e0, .int 0])), (xa, .inr (2, [.int 0, .int 0, .int 0, .null, .int 0, .double 0]))] := hD
              have hK : va_K D vwCl [(cxp, .int)] s := hK
              refine lv_i2l (v := (-1)) hx hb dX5_digest_22 (by decide) ?_
              refine lv_ladd hx hb dX5_digest_23 ?_
              refine lv_topl (fun x_18 ex_18 => ?_)
              obtain rfl : x_18 = 8528022870728 := ex_18.trans (by decide +kernel)
              refine lv_lstore_n (lv' := [(1, .long 8528022870728), (3, .int 5), (0, .ref x)]) hx hb dX5_digest_24 rfl hl (by decide) rfl (fun ls hl => ?_)
              refine lv_iinc (v := 6) (lv' := [(3, .int 6), (1, .long 8528022870728), (0, .ref x)]) hx hb dX5_digest_25 hl (k := 1) rfl (by decide) (by decide) rfl (fun ls hl => ?_)
              refine lv_goto (tgt := 6) hx hb dX5_digest_28 (by decide) ?_
              refine lv_iload_n hx hb dX5_digest_6 rfl (lv_at hl 0 rfl) ?_
              refine lv_bipush (v := 12) hx hb dX5_digest_7 (by decide) ?_
              refine lv_icmp_gt (tgt := 31) hx hb dX5_digest_9 (by decide) (fun h9 => absurd h9 (by decide)) (fun _ => ?_)
              refine lv_lload_n hx hb dX5_digest_12 rfl (lv_at hl 1 rfl) ?_
              refine lv_ldc2 (v := 31) hx hb hown (hts (.constantLong RX5 319 31) (by decide +kernel)) dX5_digest_13 ?_
              refine lv_lmul hx hb dX5_digest_16 ?_
              refine lv_topl (fun x_19 ex_19 => ?_)
              obtain rfl : x_19 = 264368708992568 := ex_19.trans (by decide +kernel)
              refine lv_aload_n hx hb dX5_digest_17 rfl (lv_at hl 2 rfl) ?_
              refine lv_iload_n hx hb dX5_digest_18 rfl (lv_at hl 0 rfl) ?_
              refine kXV_i (As := [.int 6]) (rest := [.long 264368708992568]) (wr := []) ⟨hx, hb, hml, hown, hts⟩ (c_many l hl9 D e0 _ x xk xb xo xa xt xp xs cxp near 6) (cwV 1 hts gX5_digest_X5_many rfl rfl rfl (by decide +kernel) ⟨Nat.le_of_ble_eq_true rfl, Nat.le_of_ble_eq_true rfl⟩) hP hD hK hS hA hE rfl [0, 1, 2, 3, 4, 5, 6] [] [0] rfl rfl (by decide) (by decide) (by decide) rfl 7 0 rfl rfl rfl rfl hl.1 (Nat.le_of_ble_eq_true rfl) dX5_digest_19 ⟨Nat.le_of_ble_eq_true rfl, Nat.le_of_ble_eq_true rfl⟩ (fun ce q9 H locs hpx hP hD hS hce hcv hcl => ?_) (fun r_20 u9 H locs hw hP hD hK hS => ?_)
              · exact absurd ⟨by decide, by decide⟩ hpx
              · skip
                have hw : r_20 = 0 := hw.2.trans (by decide)
                subst hw
                have hP : va_P D vwCl [(x, .inr (7, [.ref xk, .ref xb, .ref xo, .ref xa, .int near, .int 0, .int 0, .int 0])), (xk, .inr (1, [.int 0, .ref e0, .int 0])), (xb, .inr (3, [.ref xt, .ref xp, .ref xs, .int 0])), (xt, .inr (1, [.int 0, .ref e0, .int 0])), (xp, .inl (cxp, 36, .inl (fun _ => 0))), (xo, .inr (1, [.int 0, .ref e0, .int 0])), (xa, .inr (2, [.int 0, .int 0, .int 0, .null, .int 0, .double 0]))] H := hP
                have hD : va_D A [(x, .inr (7, [.ref xk, .ref xb, .ref xo, .ref xa, .int near, .int 0, .int 0, .int 0])), (xk, .inr (1, [.int 0, .ref e0, .int 0])), (xb, .inr (3, [.ref xt, .ref xp, .ref xs, .int 0])), (xt, .inr (1, [.int 0, .ref e0, .int 0])), (xp, .inl (cxp, 36, .inl (fun _ => 0))), (xo, .inr (1, [.int 0, .ref e0, .int 0])), (xa, .inr (2, [.int 0, .int 0, .int 0, .null, .int 0, .double 0]))] := hD
                have hK : va_K D vwCl [(cxp, .int)] s := hK
                refine lv_i2l (v := 0) hx hb dX5_digest_22 (by decide) ?_
                refine lv_ladd hx hb dX5_digest_23 ?_
                refine lv_topl (fun x_21 ex_21 => ?_)
                obtain rfl : x_21 = 264368708992568 := ex_21.trans (by decide +kernel)
                refine lv_lstore_n (lv' := [(1, .long 264368708992568), (3, .int 6), (0, .ref x)]) hx hb dX5_digest_24 rfl hl (by decide) rfl (fun ls hl => ?_)
                refine lv_iinc (v := 7) (lv' := [(3, .int 7), (1, .long 264368708992568), (0, .ref x)]) hx hb dX5_digest_25 hl (k := 1) rfl (by decide) (by decide) rfl (fun ls hl => ?_)
                refine lv_goto (tgt := 6) hx hb dX5_digest_28 (by decide) ?_
                refine lv_iload_n hx hb dX5_digest_6 rfl (lv_at hl 0 rfl) ?_
                refine lv_bipush (v := 12) hx hb dX5_digest_7 (by decide) ?_
                refine lv_icmp_gt (tgt := 31) hx hb dX5_digest_9 (by decide) (fun h9 => absurd h9 (by decide)) (fun _ => ?_)
                refine lv_lload_n hx hb dX5_digest_12 rfl (lv_at hl 1 rfl) ?_
                refine lv_ldc2 (v := 31) hx hb hown (hts (.constantLong RX5 319 31) (by decide +kernel)) dX5_digest_13 ?_
                refine lv_lmul hx hb dX5_digest_16 ?_
                refine lv_topl (fun x_22 ex_22 => ?_)
                obtain rfl : x_22 = 8195429978769608 := ex_22.trans (by decide +kernel)
                refine lv_aload_n hx hb dX5_digest_17 rfl (lv_at hl 2 rfl) ?_
                refine lv_iload_n hx hb dX5_digest_18 rfl (lv_at hl 0 rfl) ?_
                refine kXV_i (As := [.int 7]) (rest := [.long 8195429978769608]) (wr := []) ⟨hx, hb, hml, hown, hts⟩ (c_many l hl9 D e0 _ x xk xb xo xa xt xp xs cxp near 7) (cwV 1 hts gX5_digest_X5_many rfl rfl rfl (by decide +kernel) ⟨Nat.le_of_ble_eq_true rfl, Nat.le_of_ble_eq_true rfl⟩) hP hD hK hS hA hE rfl [0, 1, 2, 3, 4, 5, 6] [] [0] rfl rfl (by decide) (by decide) (by decide) rfl 7 0 rfl rfl rfl rfl hl.1 (Nat.le_of_ble_eq_true rfl) dX5_digest_19 ⟨Nat.le_of_ble_eq_true rfl, Nat.le_of_ble_eq_true rfl⟩ (fun ce q9 H locs hpx hP hD hS hce hcv hcl => ?_) (fun r_23 u9 H locs hw hP hD hK hS => ?_)
                · exact absurd ⟨by decide, by decide⟩ hpx
                · skip
                  have hw : r_23 = 0 := hw.2.trans (by decide)
                  subst hw
                  have hP : va_P D vwCl [(x, .inr (7, [.ref xk, .ref xb, .ref xo, .ref xa, .int near, .int 0, .int 0, .int 0])), (xk, .inr (1, [.int 0, .ref e0, .int 0])), (xb, .inr (3, [.ref xt, .ref xp, .ref xs, .int 0])), (xt, .inr (1, [.int 0, .ref e0, .int 0])), (xp, .inl (cxp, 36, .inl (fun _ => 0))), (xo, .inr (1, [.int 0, .ref e0, .int 0])), (xa, .inr (2, [.int 0, .int 0, .int 0, .null, .int 0, .double 0]))] H := hP
                  have hD : va_D A [(x, .inr (7, [.ref xk, .ref xb, .ref xo, .ref xa, .int near, .int 0, .int 0, .int 0])), (xk, .inr (1, [.int 0, .ref e0, .int 0])), (xb, .inr (3, [.ref xt, .ref xp, .ref xs, .int 0])), (xt, .inr (1, [.int 0, .ref e0, .int 0])), (xp, .inl (cxp, 36, .inl (fun _ => 0))), (xo, .inr (1, [.int 0, .ref e0, .int 0])), (xa, .inr (2, [.int 0, .int 0, .int 0, .null, .int 0, .double 0]))] := hD
                  have hK : va_K D vwCl [(cxp, .int)] s := hK
                  refine lv_i2l (v := 0) hx hb dX5_digest_22 (by decide) ?_
                  refine lv_ladd hx hb dX5_digest_23 ?_
                  refine lv_topl (fun x_24 ex_24 => ?_)
                  obtain rfl : x_24 = 8195429978769608 := ex_24.trans (by decide +kernel)
                  refine lv_lstore_n (lv' := [(1, .long 8195429978769608), (3, .int 7), (0, .ref x)]) hx hb dX5_digest_24 rfl hl (by decide) rfl (fun ls hl => ?_)
                  refine lv_iinc (v := 8) (lv' := [(3, .int 8), (1, .long 8195429978769608), (0, .ref x)]) hx hb dX5_digest_25 hl (k := 1) rfl (by decide) (by decide) rfl (fun ls hl => ?_)
                  refine lv_goto (tgt := 6) hx hb dX5_digest_28 (by decide) ?_
                  refine lv_iload_n hx hb dX5_digest_6 rfl (lv_at hl 0 rfl) ?_
                  refine lv_bipush (v := 12) hx hb dX5_digest_7 (by decide) ?_
                  refine lv_icmp_gt (tgt := 31) hx hb dX5_digest_9 (by decide) (fun h9 => absurd h9 (by decide)) (fun _ => ?_)
                  refine lv_lload_n hx hb dX5_digest_12 rfl (lv_at hl 1 rfl) ?_
                  refine lv_ldc2 (v := 31) hx hb hown (hts (.constantLong RX5 319 31) (by decide +kernel)) dX5_digest_13 ?_
                  refine lv_lmul hx hb dX5_digest_16 ?_
                  refine lv_topl (fun x_25 ex_25 => ?_)
                  obtain rfl : x_25 = 254058329341857848 := ex_25.trans (by decide +kernel)
                  refine lv_aload_n hx hb dX5_digest_17 rfl (lv_at hl 2 rfl) ?_
                  refine lv_iload_n hx hb dX5_digest_18 rfl (lv_at hl 0 rfl) ?_
                  refine kXV_i (As := [.int 8]) (rest := [.long 254058329341857848]) (wr := []) ⟨hx, hb, hml, hown, hts⟩ (c_many l hl9 D e0 _ x xk xb xo xa xt xp xs cxp near 8) (cwV 1 hts gX5_digest_X5_many rfl rfl rfl (by decide +kernel) ⟨Nat.le_of_ble_eq_true rfl, Nat.le_of_ble_eq_true rfl⟩) hP hD hK hS hA hE rfl [0, 1, 2, 3, 4, 5, 6] [] [0] rfl rfl (by decide) (by decide) (by decide) rfl 7 0 rfl rfl rfl rfl hl.1 (Nat.le_of_ble_eq_true rfl) dX5_digest_19 ⟨Nat.le_of_ble_eq_true rfl, Nat.le_of_ble_eq_true rfl⟩ (fun ce q9 H locs hpx hP hD hS hce hcv hcl => ?_) (fun r_26 u9 H locs hw hP hD hK hS => ?_)
                  · exact absurd ⟨by decide, by decide⟩ hpx
                  · skip
                    have hw : r_26 = 0 := hw.2.trans (by decide)
                    subst hw
                    have hP : va_P D vwCl [(x, .inr (7, [.ref xk, .ref xb, .ref xo, .ref xa, .int near, .int 0, .int 0, .int 0])), (xk, .inr (1, [.int 0, .ref e0, .int 0])), (xb, .inr (3, [.ref xt, .ref xp, .ref xs, .int 0])), (xt, .inr (1, [.int 0, .ref e0, .int 0])), (xp, .inl (cxp, 36, .inl (fun _ => 0))), (xo, .inr (1, [.int 0, .ref e0, .int 0])), (xa, .inr (2, [.int 0, .int 0, .int 0, .null, .int 0, .double 0]))] H := hP
                    have hD : va_D A [(x, .inr (7, [.ref xk, .ref xb, .ref xo, .ref xa, .int near, .int 0, .int 0, .int 0])), (xk, .inr (1, [.int 0, .ref e0, .int 0])), (xb, .inr (3, [.ref xt, .ref xp, .ref xs, .int 0])), (xt, .inr (1, [.int 0, .ref e0, .int 0])), (xp, .inl (cxp, 36, .inl (fun _ => 0))), (xo, .inr (1, [.int 0, .ref e0, .int 0])), (xa, .inr (2, [.int 0, .int 0, .int 0, .null, .int 0, .double 0]))] := hD
                    have hK : va_K D vwCl [(cxp, .int)] s := hK
                    refine lv_i2l (v := 0) hx hb dX5_digest_22 (by decide) ?_
                    refine lv_ladd hx hb dX5_digest_23 ?_
                    refine lv_topl (fun x_27 ex_27 => ?_)
                    obtain rfl : x_27 = 254058329341857848 := ex_27.trans (by decide +kernel)
                    refine lv_lstore_n (lv' := [(1, .long 254058329341857848), (3, .int 8), (0, .ref x)]) hx hb dX5_digest_24 rfl hl (by decide) rfl (fun ls hl => ?_)
                    refine lv_iinc (v := 9) (lv' := [(3, .int 9), (1, .long 254058329341857848), (0, .ref x)]) hx hb dX5_digest_25 hl (k := 1) rfl (by decide) (by decide) rfl (fun ls hl => ?_)
                    refine lv_goto (tgt := 6) hx hb dX5_digest_28 (by decide) ?_
                    refine lv_iload_n hx hb dX5_digest_6 rfl (lv_at hl 0 rfl) ?_
                    refine lv_bipush (v := 12) hx hb dX5_digest_7 (by decide) ?_
                    refine lv_icmp_gt (tgt := 31) hx hb dX5_digest_9 (by decide) (fun h9 => absurd h9 (by decide)) (fun _ => ?_)
                    refine lv_lload_n hx hb dX5_digest_12 rfl (lv_at hl 1 rfl) ?_
                    refine lv_ldc2 (v := 31) hx hb hown (hts (.constantLong RX5 319 31) (by decide +kernel)) dX5_digest_13 ?_
                    refine lv_lmul hx hb dX5_digest_16 ?_
                    refine lv_topl (fun x_28 ex_28 => ?_)
                    obtain rfl : x_28 = 7875808209597593288 := ex_28.trans (by decide +kernel)
                    refine lv_aload_n hx hb dX5_digest_17 rfl (lv_at hl 2 rfl) ?_
                    refine lv_iload_n hx hb dX5_digest_18 rfl (lv_at hl 0 rfl) ?_
                    refine kXV_i (As := [.int 9]) (rest := [.long 7875808209597593288]) (wr := []) ⟨hx, hb, hml, hown, hts⟩ (c_many l hl9 D e0 _ x xk xb xo xa xt xp xs cxp near 9) (cwV 1 hts gX5_digest_X5_many rfl rfl rfl (by decide +kernel) ⟨Nat.le_of_ble_eq_true rfl, Nat.le_of_ble_eq_true rfl⟩) hP hD hK hS hA hE rfl [0, 1, 2, 3, 4, 5, 6] [] [0] rfl rfl (by decide) (by decide) (by decide) rfl 7 0 rfl rfl rfl rfl hl.1 (Nat.le_of_ble_eq_true rfl) dX5_digest_19 ⟨Nat.le_of_ble_eq_true rfl, Nat.le_of_ble_eq_true rfl⟩ (fun ce q9 H locs hpx hP hD hS hce hcv hcl => ?_) (fun r_29 u9 H locs hw hP hD hK hS => ?_)
                    · exact absurd ⟨by decide, by decide⟩ hpx
                    · skip
                      have hw : r_29 = 0 := hw.2.trans (by decide)
                      subst hw
                      have hP : va_P D vwCl [(x, .inr (7, [.ref xk, .ref xb, .ref xo, .ref xa, .int near, .int 0, .int 0, .int 0])), (xk, .inr (1, [.int 0, .ref e0, .int 0])), (xb, .inr (3, [.ref xt, .ref xp, .ref xs, .int 0])), (xt, .inr (1, [.int 0, .ref e0, .int 0])), (xp, .inl (cxp, 36, .inl (fun _ => 0))), (xo, .inr (1, [.int 0, .ref e0, .int 0])), (xa, .inr (2, [.int 0, .int 0, .int 0, .null, .int 0, .double 0]))] H := hP
                      have hD : va_D A [(x, .inr (7, [.ref xk, .ref xb, .ref xo, .ref xa, .int near, .int 0, .int 0, .int 0])), (xk, .inr (1, [.int 0, .ref e0, .int 0])), (xb, .inr (3, [.ref xt, .ref xp, .ref xs, .int 0])), (xt, .inr (1, [.int 0, .ref e0, .int 0])), (xp, .inl (cxp, 36, .inl (fun _ => 0))), (xo, .inr (1, [.int 0, .ref e0, .int 0])), (xa, .inr (2, [.int 0, .int 0, .int 0, .null, .int 0, .double 0]))] := hD
                      have hK : va_K D vwCl [(cxp, .int)] s := hK
                      refine lv_i2l (v := 0) hx hb dX5_digest_22 (by decide) ?_
                      refine lv_ladd hx hb dX5_digest_23 ?_
                      refine lv_topl (fun x_30 ex_30 => ?_)
                      obtain rfl : x_30 = 7875808209597593288 := ex_30.trans (by decide +kernel)
                      refine lv_lstore_n (lv' := [(1, .long 7875808209597593288), (3, .int 9), (0, .ref x)]) hx hb dX5_digest_24 rfl hl (by decide) rfl (fun ls hl => ?_)
                      refine lv_iinc (v := 10) (lv' := [(3, .int 10), (1, .long 7875808209597593288), (0, .ref x)]) hx hb dX5_digest_25 hl (k := 1) rfl (by decide) (by decide) rfl (fun ls hl => ?_)
                      refine lv_goto (tgt := 6) hx hb dX5_digest_28 (by decide) ?_
                      refine lv_iload_n hx hb dX5_digest_6 rfl (lv_at hl 0 rfl) ?_
                      refine lv_bipush (v := 12) hx hb dX5_digest_7 (by decide) ?_
                      refine lv_icmp_gt (tgt := 31) hx hb dX5_digest_9 (by decide) (fun h9 => absurd h9 (by decide)) (fun _ => ?_)
                      refine lv_lload_n hx hb dX5_digest_12 rfl (lv_at hl 1 rfl) ?_
                      refine lv_ldc2 (v := 31) hx hb hown (hts (.constantLong RX5 319 31) (by decide +kernel)) dX5_digest_13 ?_
                      refine lv_lmul hx hb dX5_digest_16 ?_
                      refine lv_topl (fun x_31 ex_31 => ?_)
                      obtain rfl : x_31 = 4342381539301220920 := ex_31.trans (by decide +kernel)
                      refine lv_aload_n hx hb dX5_digest_17 rfl (lv_at hl 2 rfl) ?_
                      refine lv_iload_n hx hb dX5_digest_18 rfl (lv_at hl 0 rfl) ?_
                      refine kXV_i (As := [.int 10]) (rest := [.long 4342381539301220920]) (wr := []) ⟨hx, hb, hml, hown, hts⟩ (c_many l hl9 D e0 _ x xk xb xo xa xt xp xs cxp near 10) (cwV 1 hts gX5_digest_X5_many rfl rfl rfl (by decide +kernel) ⟨Nat.le_of_ble_eq_true rfl, Nat.le_of_ble_eq_true rfl⟩) hP hD hK hS hA hE rfl [0, 1, 2, 3, 4, 5, 6] [] [0] rfl rfl (by decide) (by decide) (by decide) rfl 7 0 rfl rfl rfl rfl hl.1 (Nat.le_of_ble_eq_true rfl) dX5_digest_19 ⟨Nat.le_of_ble_eq_true rfl, Nat.le_of_ble_eq_true rfl⟩ (fun ce q9 H locs hpx hP hD hS hce hcv hcl => ?_) (fun r_32 u9 H locs hw hP hD hK hS => ?_)
                      · exact absurd ⟨by decide, by decide⟩ hpx
                      · skip
                        have hw : r_32 = 0 := hw.2.trans (by decide)
                        subst hw
                        have hP : va_P D vwCl [(x, .inr (7, [.ref xk, .ref xb, .ref xo, .ref xa, .int near, .int 0, .int 0, .int 0])), (xk, .inr (1, [.int 0, .ref e0, .int 0])), (xb, .inr (3, [.ref xt, .ref xp, .ref xs, .int 0])), (xt, .inr (1, [.int 0, .ref e0, .int 0])), (xp, .inl (cxp, 36, .inl (fun _ => 0))), (xo, .inr (1, [.int 0, .ref e0, .int 0])), (xa, .inr (2, [.int 0, .int 0, .int 0, .null, .int 0, .double 0]))] H := hP
                        have hD : va_D A [(x, .inr (7, [.ref xk, .ref xb, .ref xo, .ref xa, .int near, .int 0, .int 0, .int 0])), (xk, .inr (1, [.int 0, .ref e0, .int 0])), (xb, .inr (3, [.ref xt, .ref xp, .ref xs, .int 0])), (xt, .inr (1, [.int 0, .ref e0, .int 0])), (xp, .inl (cxp, 36, .inl (fun _ => 0))), (xo, .inr (1, [.int 0, .ref e0, .int 0])), (xa, .inr (2, [.int 0, .int 0, .int 0, .null, .int 0, .double 0]))] := hD
                        have hK : va_K D vwCl [(cxp, .int)] s := hK
                        refine lv_i2l (v := 0) hx hb dX5_digest_22 (by decide) ?_
                        refine lv_ladd hx hb dX5_digest_23 ?_
                        refine lv_topl (fun x_33 ex_33 => ?_)
                        obtain rfl : x_33 = 4342381539301220920 := ex_33.trans (by decide +kernel)
                        refine lv_lstore_n (lv' := [(1, .long 4342381539301220920), (3, .int 10), (0, .ref x)]) hx hb dX5_digest_24 rfl hl (by decide) rfl (fun ls hl => ?_)
                        refine lv_iinc (v := 11) (lv' := [(3, .int 11), (1, .long 4342381539301220920), (0, .ref x)]) hx hb dX5_digest_25 hl (k := 1) rfl (by decide) (by decide) rfl (fun ls hl => ?_)
                        refine lv_goto (tgt := 6) hx hb dX5_digest_28 (by decide) ?_
                        refine lv_iload_n hx hb dX5_digest_6 rfl (lv_at hl 0 rfl) ?_
                        refine lv_bipush (v := 12) hx hb dX5_digest_7 (by decide) ?_
                        refine lv_icmp_gt (tgt := 31) hx hb dX5_digest_9 (by decide) (fun h9 => absurd h9 (by decide)) (fun _ => ?_)
                        refine lv_lload_n hx hb dX5_digest_12 rfl (lv_at hl 1 rfl) ?_
                        refine lv_ldc2 (v := 31) hx hb hown (hts (.constantLong RX5 319 31) (by decide +kernel)) dX5_digest_13 ?_
                        refine lv_lmul hx hb dX5_digest_16 ?_
                        refine lv_topl (fun x_34 ex_34 => ?_)
                        obtain rfl : x_34 = 5486619202370987208 := ex_34.trans (by decide +kernel)
                        refine lv_aload_n hx hb dX5_digest_17 rfl (lv_at hl 2 rfl) ?_
                        refine lv_iload_n hx hb dX5_digest_18 rfl (lv_at hl 0 rfl) ?_
                        refine kXV_i (As := [.int 11]) (rest := [.long 5486619202370987208]) (wr := []) ⟨hx, hb, hml, hown, hts⟩ (c_many l hl9 D e0 _ x xk xb xo xa xt xp xs cxp near 11) (cwV 1 hts gX5_digest_X5_many rfl rfl rfl (by decide +kernel) ⟨Nat.le_of_ble_eq_true rfl, Nat.le_of_ble_eq_true rfl⟩) hP hD hK hS hA hE rfl [0, 1, 2, 3, 4, 5, 6] [] [0] rfl rfl (by decide) (by decide) (by decide) rfl 7 0 rfl rfl rfl rfl hl.1 (Nat.le_of_ble_eq_true rfl) dX5_digest_19 ⟨Nat.le_of_ble_eq_true rfl, Nat.le_of_ble_eq_true rfl⟩ (fun ce q9 H locs hpx hP hD hS hce hcv hcl => ?_) (fun r_35 u9 H locs hw hP hD hK hS => ?_)
                        · exact absurd ⟨by decide, by decide⟩ hpx
                        · skip
                          have hw : r_35 = 0 := hw.2.trans (by decide)
                          subst hw
                          have hP : va_P D vwCl [(x, .inr (7, [.ref xk, .ref xb, .ref xo, .ref xa, .int near, .int 0, .int 0, .int 0])), (xk, .inr (1, [.int 0, .ref e0, .int 0])), (xb, .inr (3, [.ref xt, .ref xp, .ref xs, .int 0])), (xt, .inr (1, [.int 0, .ref e0, .int 0])), (xp, .inl (cxp, 36, .inl (fun _ => 0))), (xo, .inr (1, [.int 0, .ref e0, .int 0])), (xa, .inr (2, [.int 0, .int 0, .int 0, .null, .int 0, .double 0]))] H := hP
                          have hD : va_D A [(x, .inr (7, [.ref xk, .ref xb, .ref xo, .ref xa, .int near, .int 0, .int 0, .int 0])), (xk, .inr (1, [.int 0, .ref e0, .int 0])), (xb, .inr (3, [.ref xt, .ref xp, .ref xs, .int 0])), (xt, .inr (1, [.int 0, .ref e0, .int 0])), (xp, .inl (cxp, 36, .inl (fun _ => 0))), (xo, .inr (1, [.int 0, .ref e0, .int 0])), (xa, .inr (2, [.int 0, .int 0, .int 0, .null, .int 0, .double 0]))] := hD
                          have hK : va_K D vwCl [(cxp, .int)] s := hK
                          refine lv_i2l (v := 0) hx hb dX5_digest_22 (by decide) ?_
                          refine lv_ladd hx hb dX5_digest_23 ?_
                          refine lv_topl (fun x_36 ex_36 => ?_)
                          obtain rfl : x_36 = 5486619202370987208 := ex_36.trans (by decide +kernel)
                          refine lv_lstore_n (lv' := [(1, .long 5486619202370987208), (3, .int 11), (0, .ref x)]) hx hb dX5_digest_24 rfl hl (by decide) rfl (fun ls hl => ?_)
                          refine lv_iinc (v := 12) (lv' := [(3, .int 12), (1, .long 5486619202370987208), (0, .ref x)]) hx hb dX5_digest_25 hl (k := 1) rfl (by decide) (by decide) rfl (fun ls hl => ?_)
                          refine lv_goto (tgt := 6) hx hb dX5_digest_28 (by decide) ?_
                          refine lv_iload_n hx hb dX5_digest_6 rfl (lv_at hl 0 rfl) ?_
                          refine lv_bipush (v := 12) hx hb dX5_digest_7 (by decide) ?_
                          refine lv_icmp_gt (tgt := 31) hx hb dX5_digest_9 (by decide) (fun h9 => absurd h9 (by decide)) (fun _ => ?_)
                          refine lv_lload_n hx hb dX5_digest_12 rfl (lv_at hl 1 rfl) ?_
                          refine lv_ldc2 (v := 31) hx hb hown (hts (.constantLong RX5 319 31) (by decide +kernel)) dX5_digest_13 ?_
                          refine lv_lmul hx hb dX5_digest_16 ?_
                          refine lv_topl (fun x_37 ex_37 => ?_)
                          obtain rfl : x_37 = 4064498610114638904 := ex_37.trans (by decide +kernel)
                          refine lv_aload_n hx hb dX5_digest_17 rfl (lv_at hl 2 rfl) ?_
                          refine lv_iload_n hx hb dX5_digest_18 rfl (lv_at hl 0 rfl) ?_
                          refine kXV_i (As := [.int 12]) (rest := [.long 4064498610114638904]) (wr := []) ⟨hx, hb, hml, hown, hts⟩ (c_many l hl9 D e0 _ x xk xb xo xa xt xp xs cxp near 12) (cwV 1 hts gX5_digest_X5_many rfl rfl rfl (by decide +kernel) ⟨Nat.le_of_ble_eq_true rfl, Nat.le_of_ble_eq_true rfl⟩) hP hD hK hS hA hE rfl [0, 1, 2, 3, 4, 5, 6] [] [0] rfl rfl (by decide) (by decide) (by decide) rfl 7 0 rfl rfl rfl rfl hl.1 (Nat.le_of_ble_eq_true rfl) dX5_digest_19 ⟨Nat.le_of_ble_eq_true rfl, Nat.le_of_ble_eq_true rfl⟩ (fun ce q9 H locs hpx hP hD hS hce hcv hcl => ?_) (fun r_38 u9 H locs hw hP hD hK hS => ?_)
                          · exact absurd ⟨by decide, by decide⟩ hpx
                          · skip
                            have hw : r_38 = 0 := hw.2.trans (by decide)
                            subst hw
                            have hP : va_P D vwCl [(x, .inr (7, [.ref xk, .ref xb, .ref xo, .ref xa, .int near, .int 0, .int 0, .int 0])), (xk, .inr (1, [.int 0, .ref e0, .int 0])), (xb, .inr (3, [.ref xt, .ref xp, .ref xs, .int 0])), (xt, .inr (1, [.int 0, .ref e0, .int 0])), (xp, .inl (cxp, 36, .inl (fun _ => 0))), (xo, .inr (1, [.int 0, .ref e0, .int 0])), (xa, .inr (2, [.int 0, .int 0, .int 0, .null, .int 0, .double 0]))] H := hP
                            have hD : va_D A [(x, .inr (7, [.ref xk, .ref xb, .ref xo, .ref xa, .int near, .int 0, .int 0, .int 0])), (xk, .inr (1, [.int 0, .ref e0, .int 0])), (xb, .inr (3, [.ref xt, .ref xp, .ref xs, .int 0])), (xt, .inr (1, [.int 0, .ref e0, .int 0])), (xp, .inl (cxp, 36, .inl (fun _ => 0))), (xo, .inr (1, [.int 0, .ref e0, .int 0])), (xa, .inr (2, [.int 0, .int 0, .int 0, .null, .int 0, .double 0]))] := hD
                            have hK : va_K D vwCl [(cxp, .int)] s := hK
                            refine lv_i2l (v := 0) hx hb dX5_digest_22 (by decide) ?_
                            refine lv_ladd hx hb dX5_digest_23 ?_
                            refine lv_topl (fun x_39 ex_39 => ?_)
                            obtain rfl : x_39 = 4064498610114638904 := ex_39.trans (by decide +kernel)
                            refine lv_lstore_n (lv' := [(1, .long 4064498610114638904), (3, .int 12), (0, .ref x)]) hx hb dX5_digest_24 rfl hl (by decide) rfl (fun ls hl => ?_)
                            refine lv_iinc (v := 13) (lv' := [(3, .int 13), (1, .long 4064498610114638904), (0, .ref x)]) hx hb dX5_digest_25 hl (k := 1) rfl (by decide) (by decide) rfl (fun ls hl => ?_)
                            refine lv_goto (tgt := 6) hx hb dX5_digest_28 (by decide) ?_
                            refine lv_iload_n hx hb dX5_digest_6 rfl (lv_at hl 0 rfl) ?_
                            refine lv_bipush (v := 12) hx hb dX5_digest_7 (by decide) ?_
                            refine lv_icmp_gt (tgt := 31) hx hb dX5_digest_9 (by decide) (fun _ => ?_) (fun h9 => absurd (by decide) h9)
                            refine lv_lload_n hx hb dX5_digest_31 rfl (lv_at hl 1 rfl) ?_
                            refine lv_ldc2 (v := 31) hx hb hown (hts (.constantLong RX5 319 31) (by decide +kernel)) dX5_digest_32 ?_
                            refine lv_lmul hx hb dX5_digest_35 ?_
                            refine lv_topl (fun x_40 ex_40 => ?_)
                            obtain rfl : x_40 = (-3127751602413055288) := ex_40.trans (by decide +kernel)
                            refine lv_aload_n hx hb dX5_digest_36 rfl (lv_at hl 2 rfl) ?_
                            refine va_get (D := D) (ci := 7) (v := .ref xa) (C := RX5) (T := TX5) (N := 8) hx hb hts (by decide +kernel) hown hK hP 0 rfl rfl 3 (by decide) (hts (.fieldLink RX5 29 "PickCell" "arm" "LPickCell$Arm;") (by decide +kernel)) (fun _ h9 => h9) rfl dX5_digest_37 ?_
                            refine va_get (D := D) (ci := 2) (v := .double 0) (C := RX0) (T := TX0) (N := 6) hx hb hts (by decide +kernel) hown hK hP 6 rfl rfl 5 (by decide) (hts (.fieldLink RX5 266 "PickCell$Arm" "time" "D") (by decide +kernel)) (fun _ h9 => h9) rfl dX5_digest_40 ?_
                            refine lv_ldc2d (v := 4616189618054758400) hx hb hown (hts (.constantDouble RX5 324 4616189618054758400) (by decide +kernel)) dX5_digest_43 ?_
                            refine lv_dmul hx hb dX5_digest_46 (by unfold vf_n64; decide +kernel) ?_
                            refine lv_topd (fun x_41 ex_41 => ?_)
                            obtain rfl : x_41 = 0 := ex_41.trans (by decide +kernel)
                            refine lv_d2l hx hb dX5_digest_47 ?_
                            refine lv_topl (fun x_42 ex_42 => ?_)
                            obtain rfl : x_42 = 0 := ex_42.trans (by decide +kernel)
                            refine lv_ladd hx hb dX5_digest_48 ?_
                            refine lv_topl (fun x_43 ex_43 => ?_)
                            obtain rfl : x_43 = (-3127751602413055288) := ex_43.trans (by decide +kernel)
                            refine lv_lstore_n (lv' := [(1, .long (-3127751602413055288)), (3, .int 13), (0, .ref x)]) hx hb dX5_digest_49 rfl hl (by decide) rfl (fun ls hl => ?_)
                            refine lv_iconst (v := 0) hx hb dX5_digest_50 (by decide) ?_
                            refine lv_istore_n (lv' := [(3, .int 0), (1, .long (-3127751602413055288)), (0, .ref x)]) hx hb dX5_digest_51 rfl hl (by decide) rfl (fun ls hl => ?_)
                            refine lv_iload_n hx hb dX5_digest_52 rfl (lv_at hl 0 rfl) ?_
                            refine lv_aload_n hx hb dX5_digest_53 rfl (lv_at hl 2 rfl) ?_
                            refine va_get (D := D) (ci := 7) (v := .ref xk) (C := RX5) (T := TX5) (N := 8) hx hb hts (by decide +kernel) hown hK hP 0 rfl rfl 0 (by decide) (hts (.fieldLink RX5 10 "PickCell" "kinds" "Ljava/util/ArrayList;") (by decide +kernel)) (fun _ h9 => h9) rfl dX5_digest_54 ?_
                            refine kV_i (As := []) (rest := [.int 0]) (wr := [(x, .inr (7, [.ref xk, .ref xb, .ref xo, .ref xa, .int near, .int 0, .int 0, .int 0])), (xb, .inr (3, [.ref xt, .ref xp, .ref xs, .int 0])), (xt, .inr (1, [.int 0, .ref e0, .int 0])), (xp, .inl (cxp, 36, .inl (fun _ => 0))), (xo, .inr (1, [.int 0, .ref e0, .int 0])), (xa, .inr (2, [.int 0, .int 0, .int 0, .null, .int 0, .double 0]))]) ⟨hx, hb, hml, hown, hts⟩ (c_size l D e0 _ xk 0 0 (.ref e0)) (cwV 0 hts gX5_digest_Jx4a65c_size_8abf5 rfl rfl rfl (by decide +kernel) ⟨Nat.le_of_ble_eq_true rfl, Nat.le_of_ble_eq_true rfl⟩) hP hD hK hS hA hE rfl [1] [0, 2, 3, 4, 5, 6] [] rfl rfl (by decide) (by decide) (by decide) rfl 1 1 rfl rfl rfl rfl hl.1 (Nat.le_of_ble_eq_true rfl) dX5_digest_57 ⟨Nat.le_of_ble_eq_true rfl, Nat.le_of_ble_eq_true rfl⟩ (fun r_44 u9 H locs hw hP hD hK hS => ?_)
                            have hw : r_44 = 0 := hw
                            subst hw
                            have hP : va_P D vwCl [(x, .inr (7, [.ref xk, .ref xb, .ref xo, .ref xa, .int near, .int 0, .int 0, .int 0])), (xb, .inr (3, [.ref xt, .ref xp, .ref xs, .int 0])), (xt, .inr (1, [.int 0, .ref e0, .int 0])), (xp, .inl (cxp, 36, .inl (fun _ => 0))), (xo, .inr (1, [.int 0, .ref e0, .int 0])), (xa, .inr (2, [.int 0, .int 0, .int 0, .null, .int 0, .double 0])), (xk, .inr (1, [.int 0, .ref e0, .int 0]))] H := hP
                            have hD : va_D A [(x, .inr (7, [.ref xk, .ref xb, .ref xo, .ref xa, .int near, .int 0, .int 0, .int 0])), (xb, .inr (3, [.ref xt, .ref xp, .ref xs, .int 0])), (xt, .inr (1, [.int 0, .ref e0, .int 0])), (xp, .inl (cxp, 36, .inl (fun _ => 0))), (xo, .inr (1, [.int 0, .ref e0, .int 0])), (xa, .inr (2, [.int 0, .int 0, .int 0, .null, .int 0, .double 0])), (xk, .inr (1, [.int 0, .ref e0, .int 0]))] := hD
                            have hK : va_K D vwCl [(cxp, .int)] s := hK
                            refine lv_icmp_ge (tgt := 97) hx hb dX5_digest_60 (by decide) (fun _ => ?_) (fun h9 => absurd (by decide) h9)
                            refine lv_iconst (v := 0) hx hb dX5_digest_97 (by decide) ?_
                            refine lv_istore_n (lv' := [(3, .int 0), (1, .long (-3127751602413055288)), (0, .ref x)]) hx hb dX5_digest_98 rfl hl (by decide) rfl (fun ls hl => ?_)
                            refine lv_iload_n hx hb dX5_digest_99 rfl (lv_at hl 0 rfl) ?_
                            refine lv_aload_n hx hb dX5_digest_100 rfl (lv_at hl 2 rfl) ?_
                            refine va_get (D := D) (ci := 7) (v := .ref xb) (C := RX5) (T := TX5) (N := 8) hx hb hts (by decide +kernel) hown hK hP 0 rfl rfl 1 (by decide) (hts (.fieldLink RX5 19 "PickCell" "bin" "LPickCell$Bin;") (by decide +kernel)) (fun _ h9 => h9) rfl dX5_digest_101 ?_
                            refine va_get (D := D) (ci := 3) (v := .ref xt) (C := RX1) (T := TX1) (N := 4) hx hb hts (by decide +kernel) hown hK hP 1 rfl rfl 0 (by decide) (hts (.fieldLink RX5 92 "PickCell$Bin" "things" "Ljava/util/ArrayList;") (by decide +kernel)) (fun _ h9 => h9) rfl dX5_digest_104 ?_
                            refine kV_i (As := []) (rest := [.int 0]) (wr := [(x, .inr (7, [.ref xk, .ref xb, .ref xo, .ref xa, .int near, .int 0, .int 0, .int 0])), (xb, .inr (3, [.ref xt, .ref xp, .ref xs, .int 0])), (xp, .inl (cxp, 36, .inl (fun _ => 0))), (xo, .inr (1, [.int 0, .ref e0, .int 0])), (xa, .inr (2, [.int 0, .int 0, .int 0, .null, .int 0, .double 0])), (xk, .inr (1, [.int 0, .ref e0, .int 0]))]) ⟨hx, hb, hml, hown, hts⟩ (c_size l D e0 _ xt 0 0 (.ref e0)) (cwV 0 hts gX5_digest_Jx4a65c_size_8abf5 rfl rfl rfl (by decide +kernel) ⟨Nat.le_of_ble_eq_true rfl, Nat.le_of_ble_eq_true rfl⟩) hP hD hK hS hA hE rfl [2] [0, 1, 3, 4, 5, 6] [] rfl rfl (by decide) (by decide) (by decide) rfl 1 2 rfl rfl rfl rfl hl.1 (Nat.le_of_ble_eq_true rfl) dX5_digest_107 ⟨Nat.le_of_ble_eq_true rfl, Nat.le_of_ble_eq_true rfl⟩ (fun r_45 u9 H locs hw hP hD hK hS => ?_)
                            have hw : r_45 = 0 := hw
                            subst hw
                            have hP : va_P D vwCl [(x, .inr (7, [.ref xk, .ref xb, .ref xo, .ref xa, .int near, .int 0, .int 0, .int 0])), (xb, .inr (3, [.ref xt, .ref xp, .ref xs, .int 0])), (xp, .inl (cxp, 36, .inl (fun _ => 0))), (xo, .inr (1, [.int 0, .ref e0, .int 0])), (xa, .inr (2, [.int 0, .int 0, .int 0, .null, .int 0, .double 0])), (xk, .inr (1, [.int 0, .ref e0, .int 0])), (xt, .inr (1, [.int 0, .ref e0, .int 0]))] H := hP
                            have hD : va_D A [(x, .inr (7, [.ref xk, .ref xb, .ref xo, .ref xa, .int near, .int 0, .int 0, .int 0])), (xb, .inr (3, [.ref xt, .ref xp, .ref xs, .int 0])), (xp, .inl (cxp, 36, .inl (fun _ => 0))), (xo, .inr (1, [.int 0, .ref e0, .int 0])), (xa, .inr (2, [.int 0, .int 0, .int 0, .null, .int 0, .double 0])), (xk, .inr (1, [.int 0, .ref e0, .int 0])), (xt, .inr (1, [.int 0, .ref e0, .int 0]))] := hD
                            have hK : va_K D vwCl [(cxp, .int)] s := hK
                            refine lv_icmp_ge (tgt := 139) hx hb dX5_digest_110 (by decide) (fun _ => ?_) (fun h9 => absurd (by decide) h9)
                            refine lv_iconst (v := 0) hx hb dX5_digest_139 (by decide) ?_
                            refine lv_istore_n (lv' := [(3, .int 0), (1, .long (-3127751602413055288)), (0, .ref x)]) hx hb dX5_digest_140 rfl hl (by decide) rfl (fun ls hl => ?_)
                            refine lv_iload_n hx hb dX5_digest_141 rfl (lv_at hl 0 rfl) ?_
                            refine lv_aload_n hx hb dX5_digest_142 rfl (lv_at hl 2 rfl) ?_
                            refine va_get (D := D) (ci := 7) (v := .ref xo) (C := RX5) (T := TX5) (N := 8) hx hb hts (by decide +kernel) hown hK hP 0 rfl rfl 2 (by decide) (hts (.fieldLink RX5 23 "PickCell" "boxes" "Ljava/util/ArrayList;") (by decide +kernel)) (fun _ h9 => h9) rfl dX5_digest_143 ?_
                            refine kV_i (As := []) (rest := [.int 0]) (wr := [(x, .inr (7, [.ref xk, .ref xb, .ref xo, .ref xa, .int near, .int 0, .int 0, .int 0])), (xb, .inr (3, [.ref xt, .ref xp, .ref xs, .int 0])), (xp, .inl (cxp, 36, .inl (fun _ => 0))), (xa, .inr (2, [.int 0, .int 0, .int 0, .null, .int 0, .double 0])), (xk, .inr (1, [.int 0, .ref e0, .int 0])), (xt, .inr (1, [.int 0, .ref e0, .int 0]))]) ⟨hx, hb, hml, hown, hts⟩ (c_size l D e0 _ xo 0 0 (.ref e0)) (cwV 0 hts gX5_digest_Jx4a65c_size_8abf5 rfl rfl rfl (by decide +kernel) ⟨Nat.le_of_ble_eq_true rfl, Nat.le_of_ble_eq_true rfl⟩) hP hD hK hS hA hE rfl [3] [0, 1, 2, 4, 5, 6] [] rfl rfl (by decide) (by decide) (by decide) rfl 1 3 rfl rfl rfl rfl hl.1 (Nat.le_of_ble_eq_true rfl) dX5_digest_146 ⟨Nat.le_of_ble_eq_true rfl, Nat.le_of_ble_eq_true rfl⟩ (fun r_46 u9 H locs hw hP hD hK hS => ?_)
                            have hw : r_46 = 0 := hw
                            subst hw
                            have hP : va_P D vwCl [(x, .inr (7, [.ref xk, .ref xb, .ref xo, .ref xa, .int near, .int 0, .int 0, .int 0])), (xb, .inr (3, [.ref xt, .ref xp, .ref xs, .int 0])), (xp, .inl (cxp, 36, .inl (fun _ => 0))), (xa, .inr (2, [.int 0, .int 0, .int 0, .null, .int 0, .double 0])), (xk, .inr (1, [.int 0, .ref e0, .int 0])), (xt, .inr (1, [.int 0, .ref e0, .int 0])), (xo, .inr (1, [.int 0, .ref e0, .int 0]))] H := hP
                            have hD : va_D A [(x, .inr (7, [.ref xk, .ref xb, .ref xo, .ref xa, .int near, .int 0, .int 0, .int 0])), (xb, .inr (3, [.ref xt, .ref xp, .ref xs, .int 0])), (xp, .inl (cxp, 36, .inl (fun _ => 0))), (xa, .inr (2, [.int 0, .int 0, .int 0, .null, .int 0, .double 0])), (xk, .inr (1, [.int 0, .ref e0, .int 0])), (xt, .inr (1, [.int 0, .ref e0, .int 0])), (xo, .inr (1, [.int 0, .ref e0, .int 0]))] := hD
                            have hK : va_K D vwCl [(cxp, .int)] s := hK
                            refine lv_icmp_ge (tgt := 165) hx hb dX5_digest_149 (by decide) (fun _ => ?_) (fun h9 => absurd (by decide) h9)
                            refine lv_lload_n hx hb dX5_digest_165 rfl (lv_at hl 1 rfl) ?_
                            exact end_l (v := (-3127751602413055288)) hx hb hr hlocks hP hD hK hS () rfl [] [] rfl (by decide) rfl (Nat.le_of_ble_eq_true rfl) (Nat.le_of_ble_eq_true rfl) dX5_digest_166
