set_option maxRecDepth 20000 in
theorem ggL_kind_X5_kind : GoodIn wsL_kind wsX5_kind := goodIn_ca (goodIn_ca (goodIn_r _ [7, 8, 9, 10, 11, 12, 13, 14, 15, 16, 17, 6, 18, 19, 20, 21, 22, 23, 24, 25, 26, 27, 28, 29, 30, 31, 32, 33, 34, 35, 36, 37, 38, 39, 40, 41, 42, 43, 44, 45, 46, 47, 48, 49, 50, 51, 52, 53, 54, 55, 56, 57, 58, 59, 60, 61, 62, 63, 64, 65, 66, 67, 68, 69, 70, 71, 72, 73, 74, 75, 76, 77, 78, 79, 80, 81, 82, 83, 84, 85, 86, 87, 88, 89, 90, 91, 92, 93, 94, 95, 96, 97, 98, 99, 100, 101, 102, 103, 104, 105, 106, 107, 108, 109] (by decide +kernel) (by decide +kernel)) (goodIn_sub (fun _ h => List.mem_cons_of_mem _ (List.mem_append_left _ (List.mem_append_right _ h))) (by decide +kernel))) (goodIn_sub (fun _ h => List.mem_cons_of_mem _ (List.mem_append_right _ h)) (by decide +kernel))
set_option maxRecDepth 20000 in
theorem gL_kind_X5_kind : GoodIn wsL_kind (wsV RL 7 RX5 yX5_kind wsX5_kind) := goodIn_app (goodIn_of _ (by decide +kernel)) ggL_kind_X5_kind
theorem dL_kind_0 : decode cL_kind 0 = .ok (.aload 7, 2) := by decide +kernel
theorem dL_kind_2 : decode cL_kind 2 = .ok (.iconst 0, 1) := by decide +kernel
theorem dL_kind_3 : decode cL_kind 3 = .ok (.aload_n 0, 1) := by decide +kernel
theorem dL_kind_4 : decode cL_kind 4 = .ok (.iload_n 1, 1) := by decide +kernel
theorem dL_kind_5 : decode cL_kind 5 = .ok (.iload_n 2, 1) := by decide +kernel
theorem dL_kind_6 : decode cL_kind 6 = .ok (.iload_n 3, 1) := by decide +kernel
theorem dL_kind_7 : decode cL_kind 7 = .ok (.iload 4, 2) := by decide +kernel
theorem dL_kind_9 : decode cL_kind 9 = .ok (.iload 5, 2) := by decide +kernel
theorem dL_kind_11 : decode cL_kind 11 = .ok (.iload 6, 2) := by decide +kernel
theorem dL_kind_13 : decode cL_kind 13 = .ok (.invokevirtual 7, 3) := by decide +kernel
theorem dL_kind_16 : decode cL_kind 16 = .ok (.i2l, 1) := by decide +kernel
theorem dL_kind_17 : decode cL_kind 17 = .ok (.lastore, 1) := by decide +kernel
theorem dL_kind_18 : decode cL_kind 18 = .ok (.goto 11, 3) := by decide +kernel
theorem dL_kind_21 : decode cL_kind 21 = .ok (.astore 8, 2) := by decide +kernel
theorem dL_kind_23 : decode cL_kind 23 = .ok (.iconst 1, 1) := by decide +kernel
theorem dL_kind_24 : decode cL_kind 24 = .ok (.ireturn, 1) := by decide +kernel
theorem dL_kind_29 : decode cL_kind 29 = .ok (.iconst 0, 1) := by decide +kernel
theorem dL_kind_30 : decode cL_kind 30 = .ok (.ireturn, 1) := by decide +kernel
set_option maxRecDepth 20000 in
theorem ggL_fall_X5_fall : GoodIn wsL_fall wsX5_fall := goodIn_ca (goodIn_ca (goodIn_ca (goodIn_r _ [8, 9, 10, 11, 12, 13, 14, 15, 16, 17, 18, 19, 20, 21, 22, 23, 7, 24, 25, 26, 27, 28, 29, 30, 31, 32, 33, 34, 35, 36, 37, 38, 39, 40, 41, 42, 43, 44, 45, 46, 47, 48, 49, 50, 51, 52, 53, 54, 55, 56, 57, 58, 59, 60, 61, 62, 63, 64, 65, 66, 67, 68, 69, 70, 71, 72, 73, 74, 75, 76, 77, 78, 79, 80, 81, 82, 83, 84, 85, 86, 87, 88, 89, 90, 91, 92, 93, 94, 95, 96, 97, 98, 99, 100, 101, 102, 103, 104, 105, 106, 107, 108, 109, 110, 111, 112, 113, 114, 115, 116, 117, 118, 119, 120, 121, 122, 123, 124, 125, 126, 127, 128, 129, 130, 131, 132, 133, 134, 135, 136, 137, 138, 139, 140, 141, 142, 143, 144, 145, 146, 147, 148, 149, 150, 151, 152, 153, 154, 155, 156, 157, 158, 159, 160, 161, 162, 163, 164, 165, 166, 167, 168, 169, 170, 171, 172, 173, 174, 175, 176, 177, 178, 179, 180, 181, 182, 183, 184, 185, 186, 187, 188, 189, 190, 191, 192, 193, 194, 195, 196, 197, 198, 199, 200, 201, 202, 203, 204, 205] (by decide +kernel) (by decide +kernel)) (goodIn_sub (fun _ h => List.mem_cons_of_mem _ (List.mem_append_left _ (List.mem_append_left _ (List.mem_append_right _ h)))) (by decide +kernel))) (goodIn_sub (fun _ h => List.mem_cons_of_mem _ (List.mem_append_left _ (List.mem_append_right _ h))) (by decide +kernel))) (goodIn_sub (fun _ h => List.mem_cons_of_mem _ (List.mem_append_right _ h)) (by decide +kernel))
set_option maxRecDepth 20000 in
theorem gL_fall_X5_fall : GoodIn wsL_fall (wsV RL 17 RX5 yX5_fall wsX5_fall) := goodIn_app (goodIn_of _ (by decide +kernel)) ggL_fall_X5_fall
theorem dL_fall_0 : decode cL_fall 0 = .ok (.aload 4, 2) := by decide +kernel
theorem dL_fall_2 : decode cL_fall 2 = .ok (.iconst 0, 1) := by decide +kernel
theorem dL_fall_3 : decode cL_fall 3 = .ok (.aload_n 0, 1) := by decide +kernel
theorem dL_fall_4 : decode cL_fall 4 = .ok (.iload_n 1, 1) := by decide +kernel
theorem dL_fall_5 : decode cL_fall 5 = .ok (.iload_n 2, 1) := by decide +kernel
theorem dL_fall_6 : decode cL_fall 6 = .ok (.iload_n 3, 1) := by decide +kernel
theorem dL_fall_7 : decode cL_fall 7 = .ok (.invokevirtual 17, 3) := by decide +kernel
theorem dL_fall_15 : decode cL_fall 15 = .ok (.astore 5, 2) := by decide +kernel
theorem dL_fall_17 : decode cL_fall 17 = .ok (.iconst 1, 1) := by decide +kernel
theorem dL_fall_18 : decode cL_fall 18 = .ok (.ireturn, 1) := by decide +kernel
set_option maxRecDepth 20000 in
theorem ggL_tangle_X5_tangle : GoodIn wsL_tangle wsX5_tangle := goodIn_ca (goodIn_ca (goodIn_ca (goodIn_r _ [8, 9, 10, 11, 12, 13, 14, 15, 16, 7, 17, 18, 19, 20, 21, 22, 23, 24, 25, 26, 27, 28, 29, 30, 31, 32, 33, 34, 35, 36, 37, 38, 39, 40, 41, 42, 43, 44, 45, 46, 47, 48, 49, 50, 51, 52, 53, 54, 55, 56, 57, 58, 59, 60, 61, 62, 63, 64, 65, 66, 67, 68, 69, 70, 71, 72, 73, 74, 75, 76, 77, 78, 79, 80, 81, 82, 83, 84, 85, 86, 87, 88] (by decide +kernel) (by decide +kernel)) (goodIn_sub (fun _ h => List.mem_cons_of_mem _ (List.mem_append_left _ (List.mem_append_left _ (List.mem_append_right _ h)))) (by decide +kernel))) (goodIn_sub (fun _ h => List.mem_cons_of_mem _ (List.mem_append_left _ (List.mem_append_right _ h))) (by decide +kernel))) (goodIn_sub (fun _ h => List.mem_cons_of_mem _ (List.mem_append_right _ h)) (by decide +kernel))
set_option maxRecDepth 20000 in
theorem gL_tangle_X5_tangle : GoodIn wsL_tangle (wsV RL 23 RX5 yX5_tangle wsX5_tangle) := goodIn_app (goodIn_of _ (by decide +kernel)) ggL_tangle_X5_tangle
theorem dL_tangle_0 : decode cL_tangle 0 = .ok (.aload_n 3, 1) := by decide +kernel
theorem dL_tangle_1 : decode cL_tangle 1 = .ok (.iconst 0, 1) := by decide +kernel
theorem dL_tangle_2 : decode cL_tangle 2 = .ok (.aload_n 0, 1) := by decide +kernel
theorem dL_tangle_3 : decode cL_tangle 3 = .ok (.iload_n 1, 1) := by decide +kernel
theorem dL_tangle_4 : decode cL_tangle 4 = .ok (.iload_n 2, 1) := by decide +kernel
theorem dL_tangle_5 : decode cL_tangle 5 = .ok (.invokevirtual 23, 3) := by decide +kernel
theorem dL_tangle_13 : decode cL_tangle 13 = .ok (.astore 4, 2) := by decide +kernel
theorem dL_tangle_15 : decode cL_tangle 15 = .ok (.iconst 1, 1) := by decide +kernel
theorem dL_tangle_16 : decode cL_tangle 16 = .ok (.ireturn, 1) := by decide +kernel
set_option maxRecDepth 20000 in
theorem ggL_shake_X5_shake : GoodIn wsL_shake wsX5_shake := goodIn_ca (goodIn_r _ [6, 7, 8, 9, 10, 11, 5, 12, 13, 14, 15, 16, 17, 18, 19, 20, 21, 22, 23, 24, 25, 26, 27, 28, 29, 30, 31, 32, 33, 34, 35, 36, 37, 38, 39, 40, 41, 42, 43, 44, 45, 46, 47, 48, 49, 50, 51, 52, 53, 54, 55, 56, 57, 58, 59, 60, 61, 62, 63, 64, 65, 66, 67, 68, 69, 70, 71, 72, 73, 74, 75, 76, 77, 78, 79, 80, 81, 82, 83, 84, 85, 86, 87] (by decide +kernel) (by decide +kernel)) (goodIn_sub (fun _ h => List.mem_cons_of_mem _ (List.mem_append_right _ h)) (by decide +kernel))
set_option maxRecDepth 20000 in
theorem gL_shake_X5_shake : GoodIn wsL_shake (wsV RL 27 RX5 yX5_shake wsX5_shake) := goodIn_app (goodIn_of _ (by decide +kernel)) ggL_shake_X5_shake
theorem dL_shake_0 : decode cL_shake 0 = .ok (.aload_n 2, 1) := by decide +kernel
theorem dL_shake_1 : decode cL_shake 1 = .ok (.iconst 0, 1) := by decide +kernel
theorem dL_shake_2 : decode cL_shake 2 = .ok (.aload_n 0, 1) := by decide +kernel
theorem dL_shake_3 : decode cL_shake 3 = .ok (.iload_n 1, 1) := by decide +kernel
theorem dL_shake_4 : decode cL_shake 4 = .ok (.invokevirtual 27, 3) := by decide +kernel
theorem dL_shake_12 : decode cL_shake 12 = .ok (.astore_n 3, 1) := by decide +kernel
theorem dL_shake_13 : decode cL_shake 13 = .ok (.iconst 1, 1) := by decide +kernel
theorem dL_shake_14 : decode cL_shake 14 = .ok (.ireturn, 1) := by decide +kernel
set_option maxRecDepth 20000 in
theorem ggL_box_X5_box : GoodIn wsL_box wsX5_box := goodIn_ca (goodIn_ca (goodIn_r _ [7, 8, 9, 10, 11, 12, 13, 14, 15, 16, 17, 18, 6, 19, 20, 21, 22, 23, 24, 25, 26, 27, 28, 29, 30, 31, 32, 33, 34, 35, 36, 37, 38, 39, 40, 41, 42, 43, 44, 45, 46, 47, 48, 49, 50, 51, 52, 53, 54, 55, 56, 57, 58, 59, 60, 61, 62, 63, 64, 65, 66, 67, 68, 69, 70, 71, 72, 73, 74, 75, 76, 77, 78, 79, 80, 81, 82, 83, 84, 85, 86, 87, 88, 89, 90, 91, 92, 93, 94, 95, 96, 97, 98, 99, 100, 101, 102, 103, 104, 105, 106, 107, 108, 109, 110, 111, 112, 113, 114, 115, 116, 117, 118, 119, 120, 121, 122, 123, 124] (by decide +kernel) (by decide +kernel)) (goodIn_sub (fun _ h => List.mem_cons_of_mem _ (List.mem_append_left _ (List.mem_append_right _ h))) (by decide +kernel))) (goodIn_sub (fun _ h => List.mem_cons_of_mem _ (List.mem_append_right _ h)) (by decide +kernel))
set_option maxRecDepth 20000 in
theorem gL_box_X5_box : GoodIn wsL_box (wsV RL 31 RX5 yX5_box wsX5_box) := goodIn_app (goodIn_of _ (by decide +kernel)) ggL_box_X5_box
theorem dL_box_0 : decode cL_box 0 = .ok (.aload_n 2, 1) := by decide +kernel
theorem dL_box_1 : decode cL_box 1 = .ok (.iconst 0, 1) := by decide +kernel
theorem dL_box_2 : decode cL_box 2 = .ok (.aload_n 0, 1) := by decide +kernel
theorem dL_box_3 : decode cL_box 3 = .ok (.iload_n 1, 1) := by decide +kernel
theorem dL_box_4 : decode cL_box 4 = .ok (.invokevirtual 31, 3) := by decide +kernel
theorem dL_box_12 : decode cL_box 12 = .ok (.astore_n 3, 1) := by decide +kernel
theorem dL_box_13 : decode cL_box 13 = .ok (.iconst 1, 1) := by decide +kernel
theorem dL_box_14 : decode cL_box 14 = .ok (.ireturn, 1) := by decide +kernel
set_option maxRecDepth 20000 in
theorem ggL_pick_X5_pick : GoodIn wsL_pick wsX5_pick := goodIn_ca (goodIn_ca (goodIn_ca (goodIn_r _ [8, 9, 10, 11, 12, 13, 14, 15, 16, 17, 18, 7, 19, 20, 21, 22, 23, 24, 25, 26, 27, 28, 29, 30, 31, 32, 33, 34, 35, 36, 37, 38, 39, 40, 41, 42, 43, 44, 45, 46, 47, 48, 49, 50, 51, 52, 53, 54, 55, 56, 57, 58, 59, 60, 61, 62, 63, 64, 65, 66, 67, 68, 69, 70, 71, 72, 73, 74, 75, 76, 77, 78, 79, 80, 81, 82, 83, 84, 85, 86, 87, 88, 89, 90, 91, 92, 93, 94, 95, 96, 97, 98, 99, 100, 101, 102, 103, 104, 105, 106, 107, 108, 109, 110, 111, 112, 113, 114, 115, 116, 117, 118, 119, 120, 121, 122, 123, 124, 125, 126, 127, 128, 129, 130, 131, 132, 133, 134, 135, 136, 137, 138, 139, 140, 141, 142, 143, 144, 145, 146, 147, 148, 149, 150, 151, 152, 153, 154, 155, 156, 157, 158, 159, 160, 161, 162, 163, 164, 165, 166, 167, 168, 169, 170, 171, 172, 173, 174, 175, 176, 177, 178, 179, 180, 181, 182, 183, 184, 185, 186, 187, 188, 189, 190, 191, 192, 193, 194, 195, 196, 197, 198, 199, 200, 201, 202, 203, 204, 205, 206, 207, 208, 209, 210, 211, 212, 213, 214, 215, 216, 217, 218, 219, 220, 221, 222, 223, 224, 225, 226, 227, 228, 229, 230, 231, 232, 233, 234, 235, 236, 237, 238, 239, 240, 241, 242, 243, 244, 245, 246, 247, 248, 249, 250, 251, 252, 253, 254, 255, 256, 257, 258, 259, 260, 261, 262, 263, 264, 265, 266, 267, 268, 269, 270, 271, 272, 273, 274, 275, 276, 277, 278, 279, 280, 281, 282, 283, 284, 285, 286, 287, 288, 289, 290, 291] (by decide +kernel) (by decide +kernel)) (goodIn_sub (fun _ h => List.mem_cons_of_mem _ (List.mem_append_left _ (List.mem_append_left _ (List.mem_append_right _ h)))) (by decide +kernel))) (goodIn_sub (fun _ h => List.mem_cons_of_mem _ (List.mem_append_left _ (List.mem_append_right _ h))) (by decide +kernel))) (goodIn_sub (fun _ h => List.mem_cons_of_mem _ (List.mem_append_right _ h)) (by decide +kernel))
set_option maxRecDepth 20000 in
theorem gL_pick_X5_pick : GoodIn wsL_pick (wsV RL 34 RX5 yX5_pick wsX5_pick) := goodIn_app (goodIn_of _ (by decide +kernel)) ggL_pick_X5_pick
theorem dL_pick_0 : decode cL_pick 0 = .ok (.aload_n 3, 1) := by decide +kernel
theorem dL_pick_1 : decode cL_pick 1 = .ok (.iconst 0, 1) := by decide +kernel
theorem dL_pick_2 : decode cL_pick 2 = .ok (.aload_n 0, 1) := by decide +kernel
theorem dL_pick_3 : decode cL_pick 3 = .ok (.iload_n 1, 1) := by decide +kernel
theorem dL_pick_4 : decode cL_pick 4 = .ok (.iload_n 2, 1) := by decide +kernel
theorem dL_pick_5 : decode cL_pick 5 = .ok (.invokevirtual 34, 3) := by decide +kernel
theorem dL_pick_13 : decode cL_pick 13 = .ok (.astore 4, 2) := by decide +kernel
theorem dL_pick_15 : decode cL_pick 15 = .ok (.iconst 1, 1) := by decide +kernel
theorem dL_pick_16 : decode cL_pick 16 = .ok (.ireturn, 1) := by decide +kernel
set_option maxRecDepth 20000 in
theorem ggL_put_X5_put : GoodIn wsL_put wsX5_put := goodIn_ca (goodIn_ca (goodIn_r _ [7, 8, 9, 10, 11, 12, 13, 14, 15, 16, 17, 18, 19, 20, 6, 21, 22, 23, 24, 25, 26, 27, 28, 29, 30, 31, 32, 33, 34, 35, 36, 37, 38, 39, 40, 41, 42, 43, 44, 45, 46, 47, 48, 49, 50, 51, 52, 53, 54, 55, 56, 57, 58, 59, 60, 61, 62, 63, 64, 65, 66, 67, 68, 69, 70, 71, 72, 73, 74, 75, 76, 77, 78, 79, 80, 81, 82, 83, 84, 85, 86, 87, 88, 89, 90, 91, 92, 93, 94, 95, 96, 97, 98, 99, 100, 101, 102, 103, 104, 105, 106, 107, 108, 109, 110, 111, 112, 113, 114, 115, 116, 117, 118, 119, 120, 121, 122, 123, 124, 125, 126, 127, 128, 129, 130, 131, 132, 133, 134, 135, 136, 137, 138, 139, 140, 141, 142, 143, 144, 145, 146, 147, 148, 149, 150, 151, 152, 153, 154, 155, 156, 157, 158, 159, 160, 161, 162, 163, 164, 165, 166, 167, 168, 169, 170, 171, 172, 173, 174, 175, 176, 177, 178, 179, 180, 181] (by decide +kernel) (by decide +kernel)) (goodIn_sub (fun _ h => List.mem_cons_of_mem _ (List.mem_append_left _ (List.mem_append_right _ h))) (by decide +kernel))) (goodIn_sub (fun _ h => List.mem_cons_of_mem _ (List.mem_append_right _ h)) (by decide +kernel))
set_option maxRecDepth 20000 in
theorem gL_put_X5_put : GoodIn wsL_put (wsV RL 37 RX5 yX5_put wsX5_put) := goodIn_app (goodIn_of _ (by decide +kernel)) ggL_put_X5_put
theorem dL_put_0 : decode cL_put 0 = .ok (.aload_n 2, 1) := by decide +kernel
theorem dL_put_1 : decode cL_put 1 = .ok (.iconst 0, 1) := by decide +kernel
theorem dL_put_2 : decode cL_put 2 = .ok (.aload_n 0, 1) := by decide +kernel
theorem dL_put_3 : decode cL_put 3 = .ok (.iload_n 1, 1) := by decide +kernel
theorem dL_put_4 : decode cL_put 4 = .ok (.invokevirtual 37, 3) := by decide +kernel
theorem dL_put_12 : decode cL_put 12 = .ok (.astore_n 3, 1) := by decide +kernel
theorem dL_put_13 : decode cL_put 13 = .ok (.iconst 1, 1) := by decide +kernel
theorem dL_put_14 : decode cL_put 14 = .ok (.ireturn, 1) := by decide +kernel
set_option maxRecDepth 20000 in
theorem ggL_back_X5_back : GoodIn wsL_back wsX5_back := goodIn_ca (goodIn_r _ [6, 7, 8, 9, 10, 11, 12, 13, 14, 15, 16, 17, 18, 19, 20, 21, 22, 23, 24, 25, 26, 27, 28, 29, 30, 31, 32, 33, 34, 35, 36, 37, 38, 39, 40, 41, 42, 43, 44, 45, 46, 47, 48, 49, 50, 51, 52, 53, 54, 55, 56, 57, 58, 59, 60, 61, 62, 63, 64, 65, 66, 67, 68, 69, 70, 71, 72, 73, 74, 75, 76, 77, 78, 79, 80, 81, 5, 82, 83, 84, 85, 86, 87, 88, 89, 90, 91, 92, 93, 94, 95, 96, 97, 98, 99, 100, 101, 102, 103, 104, 105, 106, 107, 108, 109, 110, 111, 112, 113, 114, 115, 116, 117, 118, 119, 120, 121, 122, 123, 124, 125, 126, 127, 128] (by decide +kernel) (by decide +kernel)) (goodIn_sub (fun _ h => List.mem_cons_of_mem _ (List.mem_append_right _ h)) (by decide +kernel))
set_option maxRecDepth 20000 in
theorem gL_back_X5_back : GoodIn wsL_back (wsV RL 40 RX5 yX5_back wsX5_back) := goodIn_app (goodIn_of _ (by decide +kernel)) ggL_back_X5_back
theorem dL_back_0 : decode cL_back 0 = .ok (.aload_n 1, 1) := by decide +kernel
theorem dL_back_1 : decode cL_back 1 = .ok (.iconst 0, 1) := by decide +kernel
theorem dL_back_2 : decode cL_back 2 = .ok (.aload_n 0, 1) := by decide +kernel
theorem dL_back_3 : decode cL_back 3 = .ok (.invokevirtual 40, 3) := by decide +kernel
theorem dL_back_11 : decode cL_back 11 = .ok (.astore_n 2, 1) := by decide +kernel
theorem dL_back_12 : decode cL_back 12 = .ok (.iconst 1, 1) := by decide +kernel
theorem dL_back_13 : decode cL_back 13 = .ok (.ireturn, 1) := by decide +kernel
set_option maxRecDepth 20000 in
theorem ggL_close_X5_close : GoodIn wsL_close wsX5_close := goodIn_ca (goodIn_ca (goodIn_r _ [7, 8, 9, 10, 11, 12, 13, 6, 14, 15, 16, 17, 18, 19, 20, 21, 22, 23, 24, 25, 26, 27, 28, 29, 30, 31, 32, 33, 34, 35, 36, 37, 38, 39, 40, 41, 42, 43, 44, 45, 46, 47, 48, 49, 50, 51, 52, 53, 54, 55, 56, 57, 58, 59, 60, 61, 62, 63, 64] (by decide +kernel) (by decide +kernel)) (goodIn_sub (fun _ h => List.mem_cons_of_mem _ (List.mem_append_left _ (List.mem_append_right _ h))) (by decide +kernel))) (goodIn_sub (fun _ h => List.mem_cons_of_mem _ (List.mem_append_right _ h)) (by decide +kernel))
set_option maxRecDepth 20000 in
theorem gL_close_X5_close : GoodIn wsL_close (wsV RL 44 RX5 yX5_close wsX5_close) := goodIn_app (goodIn_of _ (by decide +kernel)) ggL_close_X5_close
theorem dL_close_0 : decode cL_close 0 = .ok (.aload_n 2, 1) := by decide +kernel
theorem dL_close_1 : decode cL_close 1 = .ok (.iconst 0, 1) := by decide +kernel
theorem dL_close_2 : decode cL_close 2 = .ok (.aload_n 0, 1) := by decide +kernel
theorem dL_close_3 : decode cL_close 3 = .ok (.iload_n 1, 1) := by decide +kernel
theorem dL_close_4 : decode cL_close 4 = .ok (.invokevirtual 44, 3) := by decide +kernel
theorem dL_close_12 : decode cL_close 12 = .ok (.astore_n 3, 1) := by decide +kernel
theorem dL_close_13 : decode cL_close 13 = .ok (.iconst 1, 1) := by decide +kernel
theorem dL_close_14 : decode cL_close 14 = .ok (.ireturn, 1) := by decide +kernel
set_option maxRecDepth 20000 in
theorem ggL_ofKind_X5_ofKind : GoodIn wsL_ofKind wsX5_ofKind := goodIn_ca (goodIn_ca (goodIn_r _ [7, 8, 9, 10, 11, 12, 13, 14, 15, 16, 17, 18, 19, 6, 20, 21, 22, 23, 24, 25, 26, 27, 28, 29, 30, 31, 32, 33, 34, 35, 36, 37, 38, 39, 40, 41, 42, 43, 44, 45, 46, 47, 48, 49, 50, 51, 52, 53, 54, 55, 56, 57, 58, 59, 60, 61, 62, 63, 64, 65, 66, 67, 68, 69, 70, 71, 72, 73, 74, 75, 76, 77, 78, 79, 80, 81, 82, 83, 84, 85, 86, 87, 88, 89, 90, 91, 92, 93, 94, 95] (by decide +kernel) (by decide +kernel)) (goodIn_sub (fun _ h => List.mem_cons_of_mem _ (List.mem_append_left _ (List.mem_append_right _ h))) (by decide +kernel))) (goodIn_sub (fun _ h => List.mem_cons_of_mem _ (List.mem_append_right _ h)) (by decide +kernel))
set_option maxRecDepth 20000 in
theorem gL_ofKind_X5_ofKind : GoodIn wsL_ofKind (wsV RL 47 RX5 yX5_ofKind wsX5_ofKind) := goodIn_app (goodIn_of _ (by decide +kernel)) ggL_ofKind_X5_ofKind
theorem dL_ofKind_0 : decode cL_ofKind 0 = .ok (.aload_n 3, 1) := by decide +kernel
theorem dL_ofKind_1 : decode cL_ofKind 1 = .ok (.iconst 0, 1) := by decide +kernel
theorem dL_ofKind_2 : decode cL_ofKind 2 = .ok (.aload_n 0, 1) := by decide +kernel
theorem dL_ofKind_3 : decode cL_ofKind 3 = .ok (.iload_n 1, 1) := by decide +kernel
theorem dL_ofKind_4 : decode cL_ofKind 4 = .ok (.iload_n 2, 1) := by decide +kernel
theorem dL_ofKind_5 : decode cL_ofKind 5 = .ok (.invokevirtual 47, 3) := by decide +kernel
theorem dL_ofKind_13 : decode cL_ofKind 13 = .ok (.astore 4, 2) := by decide +kernel
theorem dL_ofKind_15 : decode cL_ofKind 15 = .ok (.iconst 1, 1) := by decide +kernel
theorem dL_ofKind_16 : decode cL_ofKind 16 = .ok (.ireturn, 1) := by decide +kernel
set_option maxRecDepth 20000 in
theorem ggL_ofThing_X5_ofThing : GoodIn wsL_ofThing wsX5_ofThing := goodIn_ca (goodIn_ca (goodIn_r _ [7, 8, 9, 10, 11, 12, 13, 14, 15, 16, 17, 18, 19, 20, 21, 22, 6, 23, 24, 25, 26, 27, 28, 29, 30, 31, 32, 33, 34, 35, 36, 37, 38, 39, 40, 41, 42, 43, 44, 45, 46, 47, 48, 49, 50, 51, 52, 53, 54, 55, 56, 57, 58, 59, 60, 61, 62, 63, 64, 65, 66, 67, 68, 69, 70, 71, 72, 73, 74, 75, 76, 77, 78, 79, 80, 81, 82, 83, 84, 85, 86, 87, 88, 89, 90, 91, 92, 93, 94, 95, 96, 97, 98, 99, 100, 101, 102, 103, 104, 105, 106, 107, 108, 109, 110, 111, 112, 113, 114, 115, 116, 117, 118, 119, 120, 121, 122, 123, 124, 125, 126, 127, 128, 129, 130, 131, 132, 133, 134, 135] (by decide +kernel) (by decide +kernel)) (goodIn_sub (fun _ h => List.mem_cons_of_mem _ (List.mem_append_left _ (List.mem_append_right _ h))) (by decide +kernel))) (goodIn_sub (fun _ h => List.mem_cons_of_mem _ (List.mem_append_right _ h)) (by decide +kernel))
set_option maxRecDepth 20000 in
theorem gL_ofThing_X5_ofThing : GoodIn wsL_ofThing (wsV RL 50 RX5 yX5_ofThing wsX5_ofThing) := goodIn_app (goodIn_of _ (by decide +kernel)) ggL_ofThing_X5_ofThing
theorem dL_ofThing_0 : decode cL_ofThing 0 = .ok (.aload_n 3, 1) := by decide +kernel
theorem dL_ofThing_1 : decode cL_ofThing 1 = .ok (.iconst 0, 1) := by decide +kernel
theorem dL_ofThing_2 : decode cL_ofThing 2 = .ok (.aload_n 0, 1) := by decide +kernel
theorem dL_ofThing_3 : decode cL_ofThing 3 = .ok (.iload_n 1, 1) := by decide +kernel
theorem dL_ofThing_4 : decode cL_ofThing 4 = .ok (.iload_n 2, 1) := by decide +kernel
theorem dL_ofThing_5 : decode cL_ofThing 5 = .ok (.invokevirtual 50, 3) := by decide +kernel
theorem dL_ofThing_13 : decode cL_ofThing 13 = .ok (.astore 4, 2) := by decide +kernel
theorem dL_ofThing_15 : decode cL_ofThing 15 = .ok (.iconst 1, 1) := by decide +kernel
theorem dL_ofThing_16 : decode cL_ofThing 16 = .ok (.ireturn, 1) := by decide +kernel
set_option maxRecDepth 20000 in
theorem ggL_hinders_X5_hinders : GoodIn wsL_hinders wsX5_hinders := goodIn_ca (goodIn_ca (goodIn_r _ [7, 8, 9, 10, 6, 11, 12, 13, 14, 15, 16, 17, 18, 19, 20, 21, 22, 23, 24, 25, 26, 27, 28, 29, 30, 31, 32, 33, 34, 35, 36, 37, 38, 39, 40, 41, 42, 43, 44, 45, 46, 47, 48, 49, 50, 51, 52, 53, 54, 55, 56, 57, 58, 59, 60, 61, 62, 63, 64, 65, 66, 67, 68, 69, 70, 71, 72, 73, 74, 75, 76, 77, 78, 79, 80, 81, 82, 83, 84, 85, 86, 87, 88, 89, 90, 91, 92, 93, 94, 95, 96, 97, 98, 99, 100, 101, 102, 103, 104, 105, 106, 107, 108, 109, 110, 111, 112, 113, 114, 115, 116, 117, 118, 119, 120, 121, 122, 123, 124, 125, 126, 127, 128, 129, 130, 131, 132, 133, 134, 135, 136, 137, 138, 139, 140, 141, 142, 143, 144, 145, 146, 147, 148, 149, 150, 151, 152, 153, 154, 155, 156, 157, 158, 159, 160, 161, 162, 163, 164, 165, 166, 167, 168, 169, 170, 171, 172, 173, 174, 175, 176, 177, 178, 179] (by decide +kernel) (by decide +kernel)) (goodIn_sub (fun _ h => List.mem_cons_of_mem _ (List.mem_append_left _ (List.mem_append_right _ h))) (by decide +kernel))) (goodIn_sub (fun _ h => List.mem_cons_of_mem _ (List.mem_append_right _ h)) (by decide +kernel))
set_option maxRecDepth 20000 in
theorem gL_hinders_X5_hinders : GoodIn wsL_hinders (wsV RL 53 RX5 yX5_hinders wsX5_hinders) := goodIn_app (goodIn_of _ (by decide +kernel)) ggL_hinders_X5_hinders
theorem dL_hinders_0 : decode cL_hinders 0 = .ok (.aload_n 3, 1) := by decide +kernel
theorem dL_hinders_1 : decode cL_hinders 1 = .ok (.iconst 0, 1) := by decide +kernel
theorem dL_hinders_2 : decode cL_hinders 2 = .ok (.aload_n 0, 1) := by decide +kernel
theorem dL_hinders_3 : decode cL_hinders 3 = .ok (.iload_n 1, 1) := by decide +kernel
theorem dL_hinders_4 : decode cL_hinders 4 = .ok (.iload_n 2, 1) := by decide +kernel
theorem dL_hinders_5 : decode cL_hinders 5 = .ok (.invokevirtual 53, 3) := by decide +kernel
theorem dL_hinders_13 : decode cL_hinders 13 = .ok (.astore 4, 2) := by decide +kernel
theorem dL_hinders_15 : decode cL_hinders 15 = .ok (.iconst 1, 1) := by decide +kernel
theorem dL_hinders_16 : decode cL_hinders 16 = .ok (.ireturn, 1) := by decide +kernel
set_option maxRecDepth 20000 in
theorem ggL_force_X5_force : GoodIn wsL_force wsX5_force := goodIn_ca (goodIn_ca (goodIn_r _ [7, 8, 9, 10, 11, 6, 12, 13, 14, 15, 16, 17, 18, 19, 20, 21, 22, 23, 24, 25, 26, 27, 28, 29, 30, 31, 32, 33, 34, 35, 36, 37, 38, 39, 40, 41, 42, 43, 44, 45, 46, 47, 48, 49, 50, 51, 52, 53, 54, 55, 56, 57, 58, 59, 60, 61, 62, 63, 64, 65, 66, 67, 68, 69, 70, 71, 72, 73, 74, 75, 76, 77, 78, 79, 80, 81, 82, 83, 84, 85, 86, 87, 88, 89, 90, 91, 92, 93, 94, 95, 96, 97, 98, 99, 100, 101, 102, 103, 104, 105, 106, 107, 108, 109, 110, 111, 112, 113, 114, 115, 116, 117, 118, 119, 120, 121, 122, 123, 124, 125, 126, 127, 128] (by decide +kernel) (by decide +kernel)) (goodIn_sub (fun _ h => List.mem_cons_of_mem _ (List.mem_append_left _ (List.mem_append_right _ h))) (by decide +kernel))) (goodIn_sub (fun _ h => List.mem_cons_of_mem _ (List.mem_append_right _ h)) (by decide +kernel))
set_option maxRecDepth 20000 in
theorem gL_force_X5_force : GoodIn wsL_force (wsV RL 56 RX5 yX5_force wsX5_force) := goodIn_app (goodIn_of _ (by decide +kernel)) ggL_force_X5_force
theorem dL_force_0 : decode cL_force 0 = .ok (.aload_n 3, 1) := by decide +kernel
theorem dL_force_1 : decode cL_force 1 = .ok (.iconst 0, 1) := by decide +kernel
theorem dL_force_2 : decode cL_force 2 = .ok (.aload_n 0, 1) := by decide +kernel
theorem dL_force_3 : decode cL_force 3 = .ok (.iload_n 1, 1) := by decide +kernel
theorem dL_force_4 : decode cL_force 4 = .ok (.iload_n 2, 1) := by decide +kernel
theorem dL_force_5 : decode cL_force 5 = .ok (.invokevirtual 56, 3) := by decide +kernel
theorem dL_force_12 : decode cL_force 12 = .ok (.astore 4, 2) := by decide +kernel
theorem dL_force_14 : decode cL_force 14 = .ok (.iconst 1, 1) := by decide +kernel
theorem dL_force_15 : decode cL_force 15 = .ok (.ireturn, 1) := by decide +kernel
set_option maxRecDepth 20000 in
theorem ggL_ticks_X5_ticks : GoodIn wsL_ticks wsX5_ticks := goodIn_ca (goodIn_ca (goodIn_r _ [7, 8, 9, 10, 11, 12, 6, 13, 14, 15, 16, 17, 18, 19, 20, 21, 22, 23, 24, 25, 26, 27, 28, 29, 30, 31, 32, 33, 34, 35, 36, 37, 38, 39, 40, 41, 42, 43, 44, 45, 46, 47, 48, 49, 50, 51, 52, 53, 54, 55, 56, 57, 58, 59, 60, 61, 62, 63, 64, 65, 66, 67, 68, 69, 70, 71, 72, 73, 74, 75, 76, 77, 78, 79, 80, 81, 82, 83, 84, 85, 86, 87, 88, 89, 90, 91, 92, 93, 94, 95, 96, 97, 98, 99, 100, 101, 102, 103, 104, 105, 106, 107, 108, 109, 110, 111, 112, 113, 114] (by decide +kernel) (by decide +kernel)) (goodIn_sub (fun _ h => List.mem_cons_of_mem _ (List.mem_append_left _ (List.mem_append_right _ h))) (by decide +kernel))) (goodIn_sub (fun _ h => List.mem_cons_of_mem _ (List.mem_append_right _ h)) (by decide +kernel))
set_option maxRecDepth 20000 in
theorem gL_ticks_X5_ticks : GoodIn wsL_ticks (wsV RL 60 RX5 yX5_ticks wsX5_ticks) := goodIn_app (goodIn_of _ (by decide +kernel)) ggL_ticks_X5_ticks
theorem dL_ticks_0 : decode cL_ticks 0 = .ok (.aload_n 3, 1) := by decide +kernel
theorem dL_ticks_1 : decode cL_ticks 1 = .ok (.iconst 0, 1) := by decide +kernel
theorem dL_ticks_2 : decode cL_ticks 2 = .ok (.aload_n 0, 1) := by decide +kernel
theorem dL_ticks_3 : decode cL_ticks 3 = .ok (.iload_n 1, 1) := by decide +kernel
theorem dL_ticks_4 : decode cL_ticks 4 = .ok (.iload_n 2, 1) := by decide +kernel
theorem dL_ticks_5 : decode cL_ticks 5 = .ok (.invokevirtual 60, 3) := by decide +kernel
theorem dL_ticks_12 : decode cL_ticks 12 = .ok (.astore 4, 2) := by decide +kernel
theorem dL_ticks_14 : decode cL_ticks 14 = .ok (.iconst 1, 1) := by decide +kernel
theorem dL_ticks_15 : decode cL_ticks 15 = .ok (.ireturn, 1) := by decide +kernel
set_option maxRecDepth 20000 in
theorem ggL_seen_X5_seen : GoodIn wsL_seen wsX5_seen := goodIn_ca (goodIn_r _ [6, 7, 8, 9, 10, 11, 5, 12, 13, 14, 15, 16, 17, 18, 19, 20, 21, 22, 23, 24, 25, 26, 27, 28, 29, 30] (by decide +kernel) (by decide +kernel)) (goodIn_sub (fun _ h => List.mem_cons_of_mem _ (List.mem_append_right _ h)) (by decide +kernel))
set_option maxRecDepth 20000 in
theorem gL_seen_X5_seen : GoodIn wsL_seen (wsV RL 63 RX5 yX5_seen wsX5_seen) := goodIn_app (goodIn_of _ (by decide +kernel)) ggL_seen_X5_seen
theorem dL_seen_0 : decode cL_seen 0 = .ok (.aload_n 3, 1) := by decide +kernel
theorem dL_seen_1 : decode cL_seen 1 = .ok (.iconst 0, 1) := by decide +kernel
theorem dL_seen_2 : decode cL_seen 2 = .ok (.aload_n 0, 1) := by decide +kernel
theorem dL_seen_3 : decode cL_seen 3 = .ok (.iload_n 1, 1) := by decide +kernel
theorem dL_seen_4 : decode cL_seen 4 = .ok (.iload_n 2, 1) := by decide +kernel
theorem dL_seen_5 : decode cL_seen 5 = .ok (.invokevirtual 63, 3) := by decide +kernel
theorem dL_seen_8 : decode cL_seen 8 = .ok (.i2l, 1) := by decide +kernel
theorem dL_seen_9 : decode cL_seen 9 = .ok (.lastore, 1) := by decide +kernel
theorem dL_seen_10 : decode cL_seen 10 = .ok (.goto 7, 3) := by decide +kernel
theorem dL_seen_13 : decode cL_seen 13 = .ok (.astore 4, 2) := by decide +kernel
theorem dL_seen_15 : decode cL_seen 15 = .ok (.iconst 1, 1) := by decide +kernel
theorem dL_seen_16 : decode cL_seen 16 = .ok (.ireturn, 1) := by decide +kernel
theorem dL_seen_17 : decode cL_seen 17 = .ok (.iconst 0, 1) := by decide +kernel
theorem dL_seen_18 : decode cL_seen 18 = .ok (.ireturn, 1) := by decide +kernel
set_option maxRecDepth 20000 in
theorem ggL_ofBox_X5_ofBox : GoodIn wsL_ofBox wsX5_ofBox := goodIn_ca (goodIn_ca (goodIn_r _ [7, 8, 9, 10, 11, 12, 13, 14, 6, 15, 16, 17, 18, 19, 20, 21, 22, 23, 24, 25, 26, 27, 28, 29, 30, 31, 32, 33, 34, 35, 36, 37, 38, 39, 40, 41, 42, 43, 44, 45, 46, 47, 48, 49, 50, 51, 52, 53, 54, 55, 56, 57, 58, 59, 60, 61, 62, 63, 64, 65, 66, 67, 68, 69, 70, 71, 72, 73, 74, 75, 76, 77, 78, 79, 80, 81, 82, 83, 84, 85, 86, 87, 88, 89, 90, 91, 92, 93, 94, 95, 96, 97, 98, 99, 100, 101, 102, 103, 104, 105] (by decide +kernel) (by decide +kernel)) (goodIn_sub (fun _ h => List.mem_cons_of_mem _ (List.mem_append_left _ (List.mem_append_right _ h))) (by decide +kernel))) (goodIn_sub (fun _ h => List.mem_cons_of_mem _ (List.mem_append_right _ h)) (by decide +kernel))
set_option maxRecDepth 20000 in
theorem gL_ofBox_X5_ofBox : GoodIn wsL_ofBox (wsV RL 66 RX5 yX5_ofBox wsX5_ofBox) := goodIn_app (goodIn_of _ (by decide +kernel)) ggL_ofBox_X5_ofBox
theorem dL_ofBox_0 : decode cL_ofBox 0 = .ok (.aload_n 3, 1) := by decide +kernel
theorem dL_ofBox_1 : decode cL_ofBox 1 = .ok (.iconst 0, 1) := by decide +kernel
theorem dL_ofBox_2 : decode cL_ofBox 2 = .ok (.aload_n 0, 1) := by decide +kernel
theorem dL_ofBox_3 : decode cL_ofBox 3 = .ok (.iload_n 1, 1) := by decide +kernel
theorem dL_ofBox_4 : decode cL_ofBox 4 = .ok (.iload_n 2, 1) := by decide +kernel
theorem dL_ofBox_5 : decode cL_ofBox 5 = .ok (.invokevirtual 66, 3) := by decide +kernel
theorem dL_ofBox_13 : decode cL_ofBox 13 = .ok (.astore 4, 2) := by decide +kernel
theorem dL_ofBox_15 : decode cL_ofBox 15 = .ok (.iconst 1, 1) := by decide +kernel
theorem dL_ofBox_16 : decode cL_ofBox 16 = .ok (.ireturn, 1) := by decide +kernel
set_option maxRecDepth 20000 in
theorem ggL_many_X5_many : GoodIn wsL_many wsX5_many := goodIn_ca (goodIn_r _ [6, 7, 8, 9, 10, 11, 12, 13, 14, 15, 16, 17, 18, 19, 20, 21, 22, 23, 24, 25, 26, 27, 28, 29, 30, 31, 32, 33, 34, 35, 36, 37, 38, 39, 40, 41, 42, 43, 44, 45, 46, 47, 48, 49, 50, 51, 52, 53, 54, 55, 56, 57, 58, 59, 5, 60, 61, 62, 63, 64, 65, 66, 67, 68, 69, 70, 71, 72, 73, 74, 75, 76, 77, 78, 79, 80, 81, 82, 83, 84, 85, 86, 87, 88, 89, 90, 91, 92, 93, 94, 95, 96, 97, 98, 99, 100, 101, 102, 103, 104, 105, 106, 107, 108, 109, 110, 111, 112, 113, 114, 115, 116, 117] (by decide +kernel) (by decide +kernel)) (goodIn_sub (fun _ h => List.mem_cons_of_mem _ (List.mem_append_right _ h)) (by decide +kernel))
set_option maxRecDepth 20000 in
theorem gL_many_X5_many : GoodIn wsL_many (wsV RL 69 RX5 yX5_many wsX5_many) := goodIn_app (goodIn_of _ (by decide +kernel)) ggL_many_X5_many
theorem dL_many_0 : decode cL_many 0 = .ok (.aload_n 2, 1) := by decide +kernel
theorem dL_many_1 : decode cL_many 1 = .ok (.iconst 0, 1) := by decide +kernel
theorem dL_many_2 : decode cL_many 2 = .ok (.aload_n 0, 1) := by decide +kernel
theorem dL_many_3 : decode cL_many 3 = .ok (.iload_n 1, 1) := by decide +kernel
theorem dL_many_4 : decode cL_many 4 = .ok (.invokevirtual 69, 3) := by decide +kernel
theorem dL_many_7 : decode cL_many 7 = .ok (.i2l, 1) := by decide +kernel
theorem dL_many_8 : decode cL_many 8 = .ok (.lastore, 1) := by decide +kernel
theorem dL_many_9 : decode cL_many 9 = .ok (.goto 6, 3) := by decide +kernel
theorem dL_many_12 : decode cL_many 12 = .ok (.astore_n 3, 1) := by decide +kernel
theorem dL_many_13 : decode cL_many 13 = .ok (.iconst 1, 1) := by decide +kernel
theorem dL_many_14 : decode cL_many 14 = .ok (.ireturn, 1) := by decide +kernel
theorem dL_many_15 : decode cL_many 15 = .ok (.iconst 0, 1) := by decide +kernel
theorem dL_many_16 : decode cL_many 16 = .ok (.ireturn, 1) := by decide +kernel
set_option maxRecDepth 20000 in
theorem ggL_ahead_X5_ahead : GoodIn wsL_ahead wsX5_ahead := goodIn_ca (goodIn_r _ [6, 7, 8, 9, 10, 5, 11, 12, 13, 14, 15, 16, 17, 18, 19, 20, 21, 22, 23, 24, 25, 26, 27, 28, 29, 30, 31, 32, 33, 34, 35, 36, 37, 38, 39, 40, 41, 42, 43, 44, 45, 46, 47, 48, 49, 50, 51, 52, 53, 54, 55, 56, 57, 58, 59, 60, 61, 62, 63, 64, 65, 66, 67, 68, 69, 70, 71, 72, 73, 74, 75, 76, 77, 78, 79, 80, 81, 82, 83, 84, 85, 86, 87, 88, 89, 90, 91, 92, 93, 94, 95, 96, 97, 98, 99, 100, 101, 102, 103, 104, 105, 106, 107, 108, 109, 110, 111, 112, 113, 114, 115] (by decide +kernel) (by decide +kernel)) (goodIn_sub (fun _ h => List.mem_cons_of_mem _ (List.mem_append_right _ h)) (by decide +kernel))
set_option maxRecDepth 20000 in
theorem gL_ahead_X5_ahead : GoodIn wsL_ahead (wsV RL 72 RX5 yX5_ahead wsX5_ahead) := goodIn_app (goodIn_of _ (by decide +kernel)) ggL_ahead_X5_ahead
theorem dL_ahead_0 : decode cL_ahead 0 = .ok (.aload_n 2, 1) := by decide +kernel
theorem dL_ahead_1 : decode cL_ahead 1 = .ok (.iconst 0, 1) := by decide +kernel
theorem dL_ahead_2 : decode cL_ahead 2 = .ok (.aload_n 0, 1) := by decide +kernel
theorem dL_ahead_3 : decode cL_ahead 3 = .ok (.iload_n 1, 1) := by decide +kernel
theorem dL_ahead_4 : decode cL_ahead 4 = .ok (.invokevirtual 72, 3) := by decide +kernel
theorem dL_ahead_12 : decode cL_ahead 12 = .ok (.astore_n 3, 1) := by decide +kernel
theorem dL_ahead_13 : decode cL_ahead 13 = .ok (.iconst 1, 1) := by decide +kernel
theorem dL_ahead_14 : decode cL_ahead 14 = .ok (.ireturn, 1) := by decide +kernel
set_option maxRecDepth 20000 in
theorem ggL_next_X5_next : GoodIn wsL_next wsX5_next := goodIn_ca (goodIn_r _ [6, 7, 8, 9, 10, 11, 12, 13, 14, 15, 5, 16, 17, 18, 19, 20, 21, 22, 23, 24, 25, 26, 27, 28, 29, 30, 31, 32, 33, 34, 35, 36, 37, 38, 39, 40, 41, 42, 43, 44, 45, 46, 47, 48, 49, 50, 51, 52, 53, 54, 55, 56, 57, 58, 59, 60, 61, 62, 63, 64, 65, 66, 67, 68, 69, 70, 71, 72, 73, 74, 75, 76, 77, 78, 79, 80, 81, 82, 83, 84, 85, 86, 87, 88, 89, 90, 91, 92, 93, 94, 95, 96, 97, 98, 99, 100, 101, 102, 103, 104, 105, 106, 107, 108, 109, 110, 111, 112, 113, 114, 115, 116, 117, 118, 119, 120, 121, 122, 123, 124, 125, 126, 127, 128, 129, 130, 131, 132, 133, 134, 135, 136, 137, 138, 139, 140, 141, 142, 143, 144, 145, 146, 147, 148, 149, 150, 151, 152, 153, 154, 155, 156, 157, 158, 159, 160, 161, 162, 163, 164, 165, 166, 167, 168, 169, 170, 171, 172, 173, 174, 175, 176, 177, 178, 179, 180, 181, 182, 183, 184, 185, 186, 187, 188, 189, 190, 191, 192, 193, 194, 195, 196, 197, 198, 199, 200, 201, 202, 203, 204, 205, 206, 207, 208, 209] (by decide +kernel) (by decide +kernel)) (goodIn_sub (fun _ h => List.mem_cons_of_mem _ (List.mem_append_right _ h)) (by decide +kernel))
set_option maxRecDepth 20000 in
theorem gL_next_X5_next : GoodIn wsL_next (wsV RL 75 RX5 yX5_next wsX5_next) := goodIn_app (goodIn_of _ (by decide +kernel)) ggL_next_X5_next
theorem dL_next_0 : decode cL_next 0 = .ok (.aload_n 2, 1) := by decide +kernel
theorem dL_next_1 : decode cL_next 1 = .ok (.iconst 0, 1) := by decide +kernel
theorem dL_next_2 : decode cL_next 2 = .ok (.aload_n 0, 1) := by decide +kernel
theorem dL_next_3 : decode cL_next 3 = .ok (.iload_n 1, 1) := by decide +kernel
theorem dL_next_4 : decode cL_next 4 = .ok (.invokevirtual 75, 3) := by decide +kernel
theorem dL_next_12 : decode cL_next 12 = .ok (.astore_n 3, 1) := by decide +kernel
theorem dL_next_13 : decode cL_next 13 = .ok (.iconst 1, 1) := by decide +kernel
theorem dL_next_14 : decode cL_next 14 = .ok (.ireturn, 1) := by decide +kernel
set_option maxRecDepth 20000 in
theorem ggL_wouldFit_X5_wouldFit : GoodIn wsL_wouldFit wsX5_wouldFit := goodIn_ca (goodIn_r _ [6, 7, 8, 9, 10, 11, 5, 12, 13, 14, 15, 16, 17, 18, 19, 20, 21, 22, 23, 24, 25, 26, 27, 28, 29, 30, 31, 32, 33, 34, 35, 36, 37, 38, 39, 40, 41, 42, 43, 44, 45, 46, 47, 48, 49, 50, 51, 52, 53, 54, 55, 56, 57, 58, 59, 60, 61, 62, 63, 64, 65, 66, 67, 68, 69, 70, 71, 72, 73, 74, 75, 76, 77, 78, 79, 80, 81, 82, 83, 84, 85, 86, 87, 88, 89, 90, 91, 92, 93, 94, 95, 96, 97, 98, 99, 100, 101, 102, 103, 104, 105, 106, 107, 108, 109, 110, 111, 112] (by decide +kernel) (by decide +kernel)) (goodIn_sub (fun _ h => List.mem_cons_of_mem _ (List.mem_append_right _ h)) (by decide +kernel))
set_option maxRecDepth 20000 in
theorem gL_wouldFit_X5_wouldFit : GoodIn wsL_wouldFit (wsV RL 78 RX5 yX5_wouldFit wsX5_wouldFit) := goodIn_app (goodIn_of _ (by decide +kernel)) ggL_wouldFit_X5_wouldFit
theorem dL_wouldFit_0 : decode cL_wouldFit 0 = .ok (.aload_n 3, 1) := by decide +kernel
theorem dL_wouldFit_1 : decode cL_wouldFit 1 = .ok (.iconst 0, 1) := by decide +kernel
theorem dL_wouldFit_2 : decode cL_wouldFit 2 = .ok (.aload_n 0, 1) := by decide +kernel
theorem dL_wouldFit_3 : decode cL_wouldFit 3 = .ok (.iload_n 1, 1) := by decide +kernel
theorem dL_wouldFit_4 : decode cL_wouldFit 4 = .ok (.iload_n 2, 1) := by decide +kernel
theorem dL_wouldFit_5 : decode cL_wouldFit 5 = .ok (.invokevirtual 78, 3) := by decide +kernel
theorem dL_wouldFit_13 : decode cL_wouldFit 13 = .ok (.astore 4, 2) := by decide +kernel
theorem dL_wouldFit_15 : decode cL_wouldFit 15 = .ok (.iconst 1, 1) := by decide +kernel
theorem dL_wouldFit_16 : decode cL_wouldFit 16 = .ok (.ireturn, 1) := by decide +kernel
set_option maxHeartbeats 4000000 in
set_option maxRecDepth 100000 in
/-- the law: fall, its exception caught -/
theorem c_w_fall (l : Launch) (hl9 : l.stackTraces = false) (D : va_G) (e0 sz : Nat) (x xk xb xo xa : Nat) (near : Int32) (o : Nat) (co : ClassId) (f : Nat → Int64) (p0 p1 p2 : Int32) : Ki (S := Unit) l yL_fall wsL_fall ({ frames := 8, cells := 1, slots := 6, locals := 130 } : Room) [.ref x, .int p0, .int p1, .int p2, .ref o] D [(x, .inr (7, [.ref xk, .ref xb, .ref xo, .ref xa, .int near, .int 0, .int 0, .int 0])), (xk, .inr (1, [.int 0, .ref e0, .int 0])), (o, .inl (co, 1, .inr (.inl f)))] [(co, .long)] e0 sz (fun r _ => r = 1) (fun _ => []) (fun _ => []) 1 6 := by
  refine va_MetW (hh := [(0, 12, 15, 21), (0, 12, 19, 13), (0, 12, 23, 15)]) (cc := cL_fall) (maxL := 6) (ret := (some .int)) (by decide) rfl ?_
  intro p e s m args below meth c s₁ B hml hv
  obtain ⟨rfl, hsz, hP, hK, hD0, hE⟩ := hv
  have hx := B.exec
  have hb := B.bytes
  have hr := B.returns
  have hts := atoms_spec (ws := wsL_fall) B.pre
  have hown : s.vm.findClass RL = some m.cls := findClass_of_methodNamed B.named
  have hlocks := B.notSynchronized
  have htb : c.exceptionTable.toList = tableOf [(0, 12, 15, 21), (0, 12, 19, 13), (0, 12, 23, 15)] := vx_table (x := yL_fall) B (hts _ List.mem_cons_self)
  subst hsz
  have hD := hD0.self (sz := s.heap.size)
  generalize hAe : va_A [(x, .inr (7, [.ref xk, .ref xb, .ref xo, .ref xa, .int near, .int 0, .int 0, .int 0])), (xk, .inr (1, [.int 0, .ref e0, .int 0])), (o, .inl (co, 1, .inr (.inl f)))] s.heap.size = A at hD hE ⊢
  have hA : ∀ q : Nat, s.heap.size ≤ q → A q := fun q h => by rw [← hAe]; exact Or.inr h
  have hS : va_S A s.heap s.heap [] := va_S.rf
  have hP : va_P D vwCl [(x, .inr (7, [.ref xk, .ref xb, .ref xo, .ref xa, .int near, .int 0, .int 0, .int 0])), (xk, .inr (1, [.int 0, .ref e0, .int 0])), (o, .inl (co, 1, .inr (.inl f)))] s.heap := hP
  have hl := lv_entry ([.ref x, .int p0, .int p1, .int p2, .ref o]) (n := 6) (Nat.le_of_ble_eq_true rfl)
  rw [lg_entry_eq]
  generalize (lg_sl ([.ref x, .int p0, .int p1, .int p2, .ref o]) ++ List.replicate (6 - (lg_sl ([.ref x, .int p0, .int p1, .int p2, .ref o])).length) Slot.unset).toArray = ls at hl ⊢
  have hl : lv_has ls 6 [(0, .ref x), (1, .int p0), (2, .int p1), (3, .int p2), (4, .ref o)] := hl
  refine lv_aload hx hb dL_fall_0 (lv_at hl 4 rfl) ?_
  refine lv_iconst (v := 0) hx hb dL_fall_2 (by decide) ?_
  refine lv_aload_n hx hb dL_fall_3 rfl (lv_at hl 0 rfl) ?_
  refine lv_iload_n hx hb dL_fall_4 rfl (lv_at hl 1 rfl) ?_
  refine lv_iload_n hx hb dL_fall_5 rfl (lv_at hl 2 rfl) ?_
  refine lv_iload_n hx hb dL_fall_6 rfl (lv_at hl 3 rfl) ?_
  refine kTV (As := [.int p0, .int p1, .int p2]) (rest := [.int 0, .ref o]) (wr := [(o, .inl (co, 1, .inr (.inl f)))]) ⟨hx, hb, hml, hown, hts⟩ (c_fall l hl9 D e0 _ x xk xb xo xa near p0 p1 p2) (cwV 3 hts gL_fall_X5_fall rfl rfl rfl (by decide +kernel) ⟨Nat.le_of_ble_eq_true rfl, Nat.le_of_ble_eq_true rfl⟩) hP hD hK hS hA hE rfl [0, 1] [2] [] rfl rfl (by decide) (by decide) (by decide) rfl 7 0 rfl rfl rfl rfl hl.1 (Nat.le_of_ble_eq_true rfl) dL_fall_7 ⟨Nat.le_of_ble_eq_true rfl, Nat.le_of_ble_eq_true rfl⟩ (fun ce q9 H locs hP hD hS hce hcv hcl => ?_)
  have hP : va_P D vwCl [(o, .inl (co, 1, .inr (.inl f)))] H := hP
  have hD : va_D A [(o, .inl (co, 1, .inr (.inl f)))] := hD
  refine vx_catch (name := "java/lang/IndexOutOfBoundsException") hown [] ⟨0, 12, 15, 21⟩ [⟨0, 12, 19, 13⟩, ⟨0, 12, 23, 15⟩] htb (fun z hz => nomatch hz) (by decide) (by decide) (hts (.classLink RL 21 "java/lang/IndexOutOfBoundsException") (by decide +kernel)) (va_Nw.use rfl (hE.2.2.2.2.2.1 _ (by decide +kernel))) hce hcv hcl ?_
  refine lv_astore (lv' := [(5, .ref q9), (0, .ref x), (1, .int p0), (2, .int p1), (3, .int p2), (4, .ref o)]) hx hb dL_fall_15 hl (by decide) rfl (fun ls hl => ?_)
  refine lv_iconst (v := 1) hx hb dL_fall_17 (by decide) ?_
  exact end_i (v := 1) hx hb hr rfl hlocks hP hD hK hS () rfl [] [] rfl (by decide) rfl (Nat.le_of_ble_eq_true rfl) (Nat.le_of_ble_eq_true rfl) dL_fall_18
set_option maxHeartbeats 4000000 in
set_option maxRecDepth 100000 in
/-- the law: tangle, its exception caught -/
theorem c_w_tangle (l : Launch) (hl9 : l.stackTraces = false) (D : va_G) (e0 sz : Nat) (x xk xb xo xa xt xp xs : Nat) (near : Int32) (o : Nat) (co : ClassId) (f : Nat → Int64) (p0 p1 : Int32) : Ki (S := Unit) l yL_tangle wsL_tangle ({ frames := 8, cells := 1, slots := 6, locals := 129 } : Room) [.ref x, .int p0, .int p1, .ref o] D [(x, .inr (7, [.ref xk, .ref xb, .ref xo, .ref xa, .int near, .int 0, .int 0, .int 0])), (xb, .inr (3, [.ref xt, .ref xp, .ref xs, .int 0])), (xt, .inr (1, [.int 0, .ref e0, .int 0])), (o, .inl (co, 1, .inr (.inl f)))] [(co, .long)] e0 sz (fun r _ => r = 1) (fun _ => []) (fun _ => []) 1 6 := by
  refine va_MetW (hh := [(0, 10, 13, 21), (0, 10, 17, 13), (0, 10, 21, 15)]) (cc := cL_tangle) (maxL := 5) (ret := (some .int)) (by decide) rfl ?_
  intro p e s m args below meth c s₁ B hml hv
  obtain ⟨rfl, hsz, hP, hK, hD0, hE⟩ := hv
  have hx := B.exec
  have hb := B.bytes
  have hr := B.returns
  have hts := atoms_spec (ws := wsL_tangle) B.pre
  have hown : s.vm.findClass RL = some m.cls := findClass_of_methodNamed B.named
  have hlocks := B.notSynchronized
  have htb : c.exceptionTable.toList = tableOf [(0, 10, 13, 21), (0, 10, 17, 13), (0, 10, 21, 15)] := vx_table (x := yL_tangle) B (hts _ List.mem_cons_self)
  subst hsz
  have hD := hD0.self (sz := s.heap.size)
  generalize hAe : va_A [(x, .inr (7, [.ref xk, .ref xb, .ref xo, .ref xa, .int near, .int 0, .int 0, .int 0])), (xb, .inr (3, [.ref xt, .ref xp, .ref xs, .int 0])), (xt, .inr (1, [.int 0, .ref e0, .int 0])), (o, .inl (co, 1, .inr (.inl f)))] s.heap.size = A at hD hE ⊢
  have hA : ∀ q : Nat, s.heap.size ≤ q → A q := fun q h => by rw [← hAe]; exact Or.inr h
  have hS : va_S A s.heap s.heap [] := va_S.rf
  have hP : va_P D vwCl [(x, .inr (7, [.ref xk, .ref xb, .ref xo, .ref xa, .int near, .int 0, .int 0, .int 0])), (xb, .inr (3, [.ref xt, .ref xp, .ref xs, .int 0])), (xt, .inr (1, [.int 0, .ref e0, .int 0])), (o, .inl (co, 1, .inr (.inl f)))] s.heap := hP
  have hl := lv_entry ([.ref x, .int p0, .int p1, .ref o]) (n := 5) (Nat.le_of_ble_eq_true rfl)
  rw [lg_entry_eq]
  generalize (lg_sl ([.ref x, .int p0, .int p1, .ref o]) ++ List.replicate (5 - (lg_sl ([.ref x, .int p0, .int p1, .ref o])).length) Slot.unset).toArray = ls at hl ⊢
  have hl : lv_has ls 5 [(0, .ref x), (1, .int p0), (2, .int p1), (3, .ref o)] := hl
  refine lv_aload_n hx hb dL_tangle_0 rfl (lv_at hl 3 rfl) ?_
  refine lv_iconst (v := 0) hx hb dL_tangle_1 (by decide) ?_
  refine lv_aload_n hx hb dL_tangle_2 rfl (lv_at hl 0 rfl) ?_
  refine lv_iload_n hx hb dL_tangle_3 rfl (lv_at hl 1 rfl) ?_
  refine lv_iload_n hx hb dL_tangle_4 rfl (lv_at hl 2 rfl) ?_
  refine kTV (As := [.int p0, .int p1]) (rest := [.int 0, .ref o]) (wr := [(o, .inl (co, 1, .inr (.inl f)))]) ⟨hx, hb, hml, hown, hts⟩ (c_tangle l hl9 D e0 _ x xk xb xo xa xt xp xs near p0 p1) (cwV 2 hts gL_tangle_X5_tangle rfl rfl rfl (by decide +kernel) ⟨Nat.le_of_ble_eq_true rfl, Nat.le_of_ble_eq_true rfl⟩) hP hD hK hS hA hE rfl [0, 1, 2] [3] [] rfl rfl (by decide) (by decide) (by decide) rfl 7 0 rfl rfl rfl rfl hl.1 (Nat.le_of_ble_eq_true rfl) dL_tangle_5 ⟨Nat.le_of_ble_eq_true rfl, Nat.le_of_ble_eq_true rfl⟩ (fun ce q9 H locs hP hD hS hce hcv hcl => ?_)
  have hP : va_P D vwCl [(o, .inl (co, 1, .inr (.inl f)))] H := hP
  have hD : va_D A [(o, .inl (co, 1, .inr (.inl f)))] := hD
  refine vx_catch (name := "java/lang/IndexOutOfBoundsException") hown [] ⟨0, 10, 13, 21⟩ [⟨0, 10, 17, 13⟩, ⟨0, 10, 21, 15⟩] htb (fun z hz => nomatch hz) (by decide) (by decide) (hts (.classLink RL 21 "java/lang/IndexOutOfBoundsException") (by decide +kernel)) (va_Nw.use rfl (hE.2.2.2.2.2.1 _ (by decide +kernel))) hce hcv hcl ?_
  refine lv_astore (lv' := [(4, .ref q9), (0, .ref x), (1, .int p0), (2, .int p1), (3, .ref o)]) hx hb dL_tangle_13 hl (by decide) rfl (fun ls hl => ?_)
  refine lv_iconst (v := 1) hx hb dL_tangle_15 (by decide) ?_
  exact end_i (v := 1) hx hb hr rfl hlocks hP hD hK hS () rfl [] [] rfl (by decide) rfl (Nat.le_of_ble_eq_true rfl) (Nat.le_of_ble_eq_true rfl) dL_tangle_16
set_option maxHeartbeats 4000000 in
set_option maxRecDepth 100000 in
/-- the law: shake, its exception caught -/
theorem c_w_shake (l : Launch) (hl9 : l.stackTraces = false) (D : va_G) (e0 sz : Nat) (x xk xb xo xa xt xp xs : Nat) (near : Int32) (o : Nat) (co : ClassId) (f : Nat → Int64) (p0 : Int32) : Ki (S := Unit) l yL_shake wsL_shake ({ frames := 8, cells := 1, slots := 6, locals := 128 } : Room) [.ref x, .int p0, .ref o] D [(x, .inr (7, [.ref xk, .ref xb, .ref xo, .ref xa, .int near, .int 0, .int 0, .int 0])), (xb, .inr (3, [.ref xt, .ref xp, .ref xs, .int 0])), (xt, .inr (1, [.int 0, .ref e0, .int 0])), (o, .inl (co, 1, .inr (.inl f)))] [(co, .long)] e0 sz (fun r _ => r = 1) (fun _ => []) (fun _ => []) 1 6 := by
  refine va_MetW (hh := [(0, 9, 12, 21)]) (cc := cL_shake) (maxL := 4) (ret := (some .int)) (by decide) rfl ?_
  intro p e s m args below meth c s₁ B hml hv
  obtain ⟨rfl, hsz, hP, hK, hD0, hE⟩ := hv
  have hx := B.exec
  have hb := B.bytes
  have hr := B.returns
  have hts := atoms_spec (ws := wsL_shake) B.pre
  have hown : s.vm.findClass RL = some m.cls := findClass_of_methodNamed B.named
  have hlocks := B.notSynchronized
  have htb : c.exceptionTable.toList = tableOf [(0, 9, 12, 21)] := vx_table (x := yL_shake) B (hts _ List.mem_cons_self)
  subst hsz
  have hD := hD0.self (sz := s.heap.size)
  generalize hAe : va_A [(x, .inr (7, [.ref xk, .ref xb, .ref xo, .ref xa, .int near, .int 0, .int 0, .int 0])), (xb, .inr (3, [.ref xt, .ref xp, .ref xs, .int 0])), (xt, .inr (1, [.int 0, .ref e0, .int 0])), (o, .inl (co, 1, .inr (.inl f)))] s.heap.size = A at hD hE ⊢
  have hA : ∀ q : Nat, s.heap.size ≤ q → A q := fun q h => by rw [← hAe]; exact Or.inr h
  have hS : va_S A s.heap s.heap [] := va_S.rf
  have hP : va_P D vwCl [(x, .inr (7, [.ref xk, .ref xb, .ref xo, .ref xa, .int near, .int 0, .int 0, .int 0])), (xb, .inr (3, [.ref xt, .ref xp, .ref xs, .int 0])), (xt, .inr (1, [.int 0, .ref e0, .int 0])), (o, .inl (co, 1, .inr (.inl f)))] s.heap := hP
  have hl := lv_entry ([.ref x, .int p0, .ref o]) (n := 4) (Nat.le_of_ble_eq_true rfl)
  rw [lg_entry_eq]
  generalize (lg_sl ([.ref x, .int p0, .ref o]) ++ List.replicate (4 - (lg_sl ([.ref x, .int p0, .ref o])).length) Slot.unset).toArray = ls at hl ⊢
  have hl : lv_has ls 4 [(0, .ref x), (1, .int p0), (2, .ref o)] := hl
  refine lv_aload_n hx hb dL_shake_0 rfl (lv_at hl 2 rfl) ?_
  refine lv_iconst (v := 0) hx hb dL_shake_1 (by decide) ?_
  refine lv_aload_n hx hb dL_shake_2 rfl (lv_at hl 0 rfl) ?_
  refine lv_iload_n hx hb dL_shake_3 rfl (lv_at hl 1 rfl) ?_
  refine kTV (As := [.int p0]) (rest := [.int 0, .ref o]) (wr := [(o, .inl (co, 1, .inr (.inl f)))]) ⟨hx, hb, hml, hown, hts⟩ (c_shake l hl9 D e0 _ x xk xb xo xa xt xp xs near p0) (cwV 1 hts gL_shake_X5_shake rfl rfl rfl (by decide +kernel) ⟨Nat.le_of_ble_eq_true rfl, Nat.le_of_ble_eq_true rfl⟩) hP hD hK hS hA hE rfl [0, 1, 2] [3] [] rfl rfl (by decide) (by decide) (by decide) rfl 7 0 rfl rfl rfl rfl hl.1 (Nat.le_of_ble_eq_true rfl) dL_shake_4 ⟨Nat.le_of_ble_eq_true rfl, Nat.le_of_ble_eq_true rfl⟩ (fun ce q9 H locs hP hD hS hce hcv hcl => ?_)
  have hP : va_P D vwCl [(o, .inl (co, 1, .inr (.inl f)))] H := hP
  have hD : va_D A [(o, .inl (co, 1, .inr (.inl f)))] := hD
  refine vx_catch (name := "java/lang/IndexOutOfBoundsException") hown [] ⟨0, 9, 12, 21⟩ [] htb (fun z hz => nomatch hz) (by decide) (by decide) (hts (.classLink RL 21 "java/lang/IndexOutOfBoundsException") (by decide +kernel)) (va_Nw.use rfl (hE.2.2.2.2.2.1 _ (by decide +kernel))) hce hcv hcl ?_
  refine lv_astore_n (lv' := [(3, .ref q9), (0, .ref x), (1, .int p0), (2, .ref o)]) hx hb dL_shake_12 rfl hl (by decide) rfl (fun ls hl => ?_)
  refine lv_iconst (v := 1) hx hb dL_shake_13 (by decide) ?_
  exact end_i (v := 1) hx hb hr rfl hlocks hP hD hK hS () rfl [] [] rfl (by decide) rfl (Nat.le_of_ble_eq_true rfl) (Nat.le_of_ble_eq_true rfl) dL_shake_14
set_option maxHeartbeats 4000000 in
set_option maxRecDepth 100000 in
/-- the law: pick, its exception caught -/
theorem c_w_pick (l : Launch) (hl9 : l.stackTraces = false) (D : va_G) (e0 sz : Nat) (x xk xb xo xa xt xp xs : Nat) (near : Int32) (o : Nat) (co : ClassId) (f : Nat → Int64) (p0 p1 : Int32) : Ki (S := Unit) l yL_pick wsL_pick ({ frames := 8, cells := 1, slots := 6, locals := 129 } : Room) [.ref x, .int p0, .int p1, .ref o] D [(x, .inr (7, [.ref xk, .ref xb, .ref xo, .ref xa, .int near, .int 0, .int 0, .int 0])), (xb, .inr (3, [.ref xt, .ref xp, .ref xs, .int 0])), (xt, .inr (1, [.int 0, .ref e0, .int 0])), (o, .inl (co, 1, .inr (.inl f)))] [(co, .long)] e0 sz (fun r _ => r = 1) (fun _ => []) (fun _ => []) 1 6 := by
  refine va_MetW (hh := [(0, 10, 13, 21), (0, 10, 17, 13), (0, 10, 21, 15)]) (cc := cL_pick) (maxL := 5) (ret := (some .int)) (by decide) rfl ?_
  intro p e s m args below meth c s₁ B hml hv
  obtain ⟨rfl, hsz, hP, hK, hD0, hE⟩ := hv
  have hx := B.exec
  have hb := B.bytes
  have hr := B.returns
  have hts := atoms_spec (ws := wsL_pick) B.pre
  have hown : s.vm.findClass RL = some m.cls := findClass_of_methodNamed B.named
  have hlocks := B.notSynchronized
  have htb : c.exceptionTable.toList = tableOf [(0, 10, 13, 21), (0, 10, 17, 13), (0, 10, 21, 15)] := vx_table (x := yL_pick) B (hts _ List.mem_cons_self)
  subst hsz
  have hD := hD0.self (sz := s.heap.size)
  generalize hAe : va_A [(x, .inr (7, [.ref xk, .ref xb, .ref xo, .ref xa, .int near, .int 0, .int 0, .int 0])), (xb, .inr (3, [.ref xt, .ref xp, .ref xs, .int 0])), (xt, .inr (1, [.int 0, .ref e0, .int 0])), (o, .inl (co, 1, .inr (.inl f)))] s.heap.size = A at hD hE ⊢
  have hA : ∀ q : Nat, s.heap.size ≤ q → A q := fun q h => by rw [← hAe]; exact Or.inr h
  have hS : va_S A s.heap s.heap [] := va_S.rf
  have hP : va_P D vwCl [(x, .inr (7, [.ref xk, .ref xb, .ref xo, .ref xa, .int near, .int 0, .int 0, .int 0])), (xb, .inr (3, [.ref xt, .ref xp, .ref xs, .int 0])), (xt, .inr (1, [.int 0, .ref e0, .int 0])), (o, .inl (co, 1, .inr (.inl f)))] s.heap := hP
  have hl := lv_entry ([.ref x, .int p0, .int p1, .ref o]) (n := 5) (Nat.le_of_ble_eq_true rfl)
  rw [lg_entry_eq]
  generalize (lg_sl ([.ref x, .int p0, .int p1, .ref o]) ++ List.replicate (5 - (lg_sl ([.ref x, .int p0, .int p1, .ref o])).length) Slot.unset).toArray = ls at hl ⊢
  have hl : lv_has ls 5 [(0, .ref x), (1, .int p0), (2, .int p1), (3, .ref o)] := hl
  refine lv_aload_n hx hb dL_pick_0 rfl (lv_at hl 3 rfl) ?_
  refine lv_iconst (v := 0) hx hb dL_pick_1 (by decide) ?_
  refine lv_aload_n hx hb dL_pick_2 rfl (lv_at hl 0 rfl) ?_
  refine lv_iload_n hx hb dL_pick_3 rfl (lv_at hl 1 rfl) ?_
  refine lv_iload_n hx hb dL_pick_4 rfl (lv_at hl 2 rfl) ?_
  refine kTV (As := [.int p0, .int p1]) (rest := [.int 0, .ref o]) (wr := [(o, .inl (co, 1, .inr (.inl f)))]) ⟨hx, hb, hml, hown, hts⟩ (c_pick l hl9 D e0 _ x xk xb xo xa xt xp xs near p0 p1) (cwV 2 hts gL_pick_X5_pick rfl rfl rfl (by decide +kernel) ⟨Nat.le_of_ble_eq_true rfl, Nat.le_of_ble_eq_true rfl⟩) hP hD hK hS hA hE rfl [0, 1, 2] [3] [] rfl rfl (by decide) (by decide) (by decide) rfl 7 0 rfl rfl rfl rfl hl.1 (Nat.le_of_ble_eq_true rfl) dL_pick_5 ⟨Nat.le_of_ble_eq_true rfl, Nat.le_of_ble_eq_true rfl⟩ (fun ce q9 H locs hP hD hS hce hcv hcl => ?_)
  have hP : va_P D vwCl [(o, .inl (co, 1, .inr (.inl f)))] H := hP
  have hD : va_D A [(o, .inl (co, 1, .inr (.inl f)))] := hD
  refine vx_catch (name := "java/lang/IndexOutOfBoundsException") hown [] ⟨0, 10, 13, 21⟩ [⟨0, 10, 17, 13⟩, ⟨0, 10, 21, 15⟩] htb (fun z hz => nomatch hz) (by decide) (by decide) (hts (.classLink RL 21 "java/lang/IndexOutOfBoundsException") (by decide +kernel)) (va_Nw.use rfl (hE.2.2.2.2.2.1 _ (by decide +kernel))) hce hcv hcl ?_
  refine lv_astore (lv' := [(4, .ref q9), (0, .ref x), (1, .int p0), (2, .int p1), (3, .ref o)]) hx hb dL_pick_13 hl (by decide) rfl (fun ls hl => ?_)
  refine lv_iconst (v := 1) hx hb dL_pick_15 (by decide) ?_
  exact end_i (v := 1) hx hb hr rfl hlocks hP hD hK hS () rfl [] [] rfl (by decide) rfl (Nat.le_of_ble_eq_true rfl) (Nat.le_of_ble_eq_true rfl) dL_pick_16
set_option maxHeartbeats 4000000 in
set_option maxRecDepth 100000 in
/-- the law: put, its exception caught -/
theorem c_w_put (l : Launch) (hl9 : l.stackTraces = false) (D : va_G) (e0 sz : Nat) (x xk xb xo xa : Nat) (near : Int32) (o : Nat) (co : ClassId) (f : Nat → Int64) (p0 : Int32) : Ki (S := Unit) l yL_put wsL_put ({ frames := 8, cells := 1, slots := 6, locals := 129 } : Room) [.ref x, .int p0, .ref o] D [(x, .inr (7, [.ref xk, .ref xb, .ref xo, .ref xa, .int near, .int 0, .int 0, .int 0])), (xo, .inr (1, [.int 0, .ref e0, .int 0])), (o, .inl (co, 1, .inr (.inl f)))] [(co, .long)] e0 sz (fun r _ => r = 1) (fun _ => []) (fun _ => []) 1 6 := by
  refine va_MetW (hh := [(0, 9, 12, 21), (0, 9, 15, 15)]) (cc := cL_put) (maxL := 4) (ret := (some .int)) (by decide) rfl ?_
  intro p e s m args below meth c s₁ B hml hv
  obtain ⟨rfl, hsz, hP, hK, hD0, hE⟩ := hv
  have hx := B.exec
  have hb := B.bytes
  have hr := B.returns
  have hts := atoms_spec (ws := wsL_put) B.pre
  have hown : s.vm.findClass RL = some m.cls := findClass_of_methodNamed B.named
  have hlocks := B.notSynchronized
  have htb : c.exceptionTable.toList = tableOf [(0, 9, 12, 21), (0, 9, 15, 15)] := vx_table (x := yL_put) B (hts _ List.mem_cons_self)
  subst hsz
  have hD := hD0.self (sz := s.heap.size)
  generalize hAe : va_A [(x, .inr (7, [.ref xk, .ref xb, .ref xo, .ref xa, .int near, .int 0, .int 0, .int 0])), (xo, .inr (1, [.int 0, .ref e0, .int 0])), (o, .inl (co, 1, .inr (.inl f)))] s.heap.size = A at hD hE ⊢
  have hA : ∀ q : Nat, s.heap.size ≤ q → A q := fun q h => by rw [← hAe]; exact Or.inr h
  have hS : va_S A s.heap s.heap [] := va_S.rf
  have hP : va_P D vwCl [(x, .inr (7, [.ref xk, .ref xb, .ref xo, .ref xa, .int near, .int 0, .int 0, .int 0])), (xo, .inr (1, [.int 0, .ref e0, .int 0])), (o, .inl (co, 1, .inr (.inl f)))] s.heap := hP
  have hl := lv_entry ([.ref x, .int p0, .ref o]) (n := 4) (Nat.le_of_ble_eq_true rfl)
  rw [lg_entry_eq]
  generalize (lg_sl ([.ref x, .int p0, .ref o]) ++ List.replicate (4 - (lg_sl ([.ref x, .int p0, .ref o])).length) Slot.unset).toArray = ls at hl ⊢
  have hl : lv_has ls 4 [(0, .ref x), (1, .int p0), (2, .ref o)] := hl
  refine lv_aload_n hx hb dL_put_0 rfl (lv_at hl 2 rfl) ?_
  refine lv_iconst (v := 0) hx hb dL_put_1 (by decide) ?_
  refine lv_aload_n hx hb dL_put_2 rfl (lv_at hl 0 rfl) ?_
  refine lv_iload_n hx hb dL_put_3 rfl (lv_at hl 1 rfl) ?_
  refine kTV (As := [.int p0]) (rest := [.int 0, .ref o]) (wr := [(o, .inl (co, 1, .inr (.inl f)))]) ⟨hx, hb, hml, hown, hts⟩ (c_put l hl9 D e0 _ x xk xb xo xa near p0) (cwV 1 hts gL_put_X5_put rfl rfl rfl (by decide +kernel) ⟨Nat.le_of_ble_eq_true rfl, Nat.le_of_ble_eq_true rfl⟩) hP hD hK hS hA hE rfl [0, 1] [2] [] rfl rfl (by decide) (by decide) (by decide) rfl 7 0 rfl rfl rfl rfl hl.1 (Nat.le_of_ble_eq_true rfl) dL_put_4 ⟨Nat.le_of_ble_eq_true rfl, Nat.le_of_ble_eq_true rfl⟩ (fun ce q9 H locs hP hD hS hce hcv hcl => ?_)
  have hP : va_P D vwCl [(o, .inl (co, 1, .inr (.inl f)))] H := hP
  have hD : va_D A [(o, .inl (co, 1, .inr (.inl f)))] := hD
  refine vx_catch (name := "java/lang/IndexOutOfBoundsException") hown [] ⟨0, 9, 12, 21⟩ [⟨0, 9, 15, 15⟩] htb (fun z hz => nomatch hz) (by decide) (by decide) (hts (.classLink RL 21 "java/lang/IndexOutOfBoundsException") (by decide +kernel)) (va_Nw.use rfl (hE.2.2.2.2.2.1 _ (by decide +kernel))) hce hcv hcl ?_
  refine lv_astore_n (lv' := [(3, .ref q9), (0, .ref x), (1, .int p0), (2, .ref o)]) hx hb dL_put_12 rfl hl (by decide) rfl (fun ls hl => ?_)
  refine lv_iconst (v := 1) hx hb dL_put_13 (by decide) ?_
  exact end_i (v := 1) hx hb hr rfl hlocks hP hD hK hS () rfl [] [] rfl (by decide) rfl (Nat.le_of_ble_eq_true rfl) (Nat.le_of_ble_eq_true rfl) dL_put_14
set_option maxHeartbeats 4000000 in
set_option maxRecDepth 100000 in
/-- the law: close, its exception caught -/
theorem c_w_close (l : Launch) (hl9 : l.stackTraces = false) (D : va_G) (e0 sz : Nat) (x xk xb xo xa : Nat) (near : Int32) (o : Nat) (co : ClassId) (f : Nat → Int64) (p0 : Int32) : Ki (S := Unit) l yL_close wsL_close ({ frames := 8, cells := 1, slots := 6, locals := 127 } : Room) [.ref x, .int p0, .ref o] D [(x, .inr (7, [.ref xk, .ref xb, .ref xo, .ref xa, .int near, .int 0, .int 0, .int 0])), (xo, .inr (1, [.int 0, .ref e0, .int 0])), (o, .inl (co, 1, .inr (.inl f)))] [(co, .long)] e0 sz (fun r _ => r = 1) (fun _ => []) (fun _ => []) 1 6 := by
  refine va_MetW (hh := [(0, 9, 12, 21), (0, 9, 15, 15)]) (cc := cL_close) (maxL := 4) (ret := (some .int)) (by decide) rfl ?_
  intro p e s m args below meth c s₁ B hml hv
  obtain ⟨rfl, hsz, hP, hK, hD0, hE⟩ := hv
  have hx := B.exec
  have hb := B.bytes
  have hr := B.returns
  have hts := atoms_spec (ws := wsL_close) B.pre
  have hown : s.vm.findClass RL = some m.cls := findClass_of_methodNamed B.named
  have hlocks := B.notSynchronized
  have htb : c.exceptionTable.toList = tableOf [(0, 9, 12, 21), (0, 9, 15, 15)] := vx_table (x := yL_close) B (hts _ List.mem_cons_self)
  subst hsz
  have hD := hD0.self (sz := s.heap.size)
  generalize hAe : va_A [(x, .inr (7, [.ref xk, .ref xb, .ref xo, .ref xa, .int near, .int 0, .int 0, .int 0])), (xo, .inr (1, [.int 0, .ref e0, .int 0])), (o, .inl (co, 1, .inr (.inl f)))] s.heap.size = A at hD hE ⊢
  have hA : ∀ q : Nat, s.heap.size ≤ q → A q := fun q h => by rw [← hAe]; exact Or.inr h
  have hS : va_S A s.heap s.heap [] := va_S.rf
  have hP : va_P D vwCl [(x, .inr (7, [.ref xk, .ref xb, .ref xo, .ref xa, .int near, .int 0, .int 0, .int 0])), (xo, .inr (1, [.int 0, .ref e0, .int 0])), (o, .inl (co, 1, .inr (.inl f)))] s.heap := hP
  have hl := lv_entry ([.ref x, .int p0, .ref o]) (n := 4) (Nat.le_of_ble_eq_true rfl)
  rw [lg_entry_eq]
  generalize (lg_sl ([.ref x, .int p0, .ref o]) ++ List.replicate (4 - (lg_sl ([.ref x, .int p0, .ref o])).length) Slot.unset).toArray = ls at hl ⊢
  have hl : lv_has ls 4 [(0, .ref x), (1, .int p0), (2, .ref o)] := hl
  refine lv_aload_n hx hb dL_close_0 rfl (lv_at hl 2 rfl) ?_
  refine lv_iconst (v := 0) hx hb dL_close_1 (by decide) ?_
  refine lv_aload_n hx hb dL_close_2 rfl (lv_at hl 0 rfl) ?_
  refine lv_iload_n hx hb dL_close_3 rfl (lv_at hl 1 rfl) ?_
  refine kTV (As := [.int p0]) (rest := [.int 0, .ref o]) (wr := [(o, .inl (co, 1, .inr (.inl f)))]) ⟨hx, hb, hml, hown, hts⟩ (c_close l hl9 D e0 _ x xk xb xo xa near p0) (cwV 1 hts gL_close_X5_close rfl rfl rfl (by decide +kernel) ⟨Nat.le_of_ble_eq_true rfl, Nat.le_of_ble_eq_true rfl⟩) hP hD hK hS hA hE rfl [0, 1] [2] [] rfl rfl (by decide) (by decide) (by decide) rfl 7 0 rfl rfl rfl rfl hl.1 (Nat.le_of_ble_eq_true rfl) dL_close_4 ⟨Nat.le_of_ble_eq_true rfl, Nat.le_of_ble_eq_true rfl⟩ (fun ce q9 H locs hP hD hS hce hcv hcl => ?_)
  have hP : va_P D vwCl [(o, .inl (co, 1, .inr (.inl f)))] H := hP
  have hD : va_D A [(o, .inl (co, 1, .inr (.inl f)))] := hD
  refine vx_catch (name := "java/lang/IndexOutOfBoundsException") hown [] ⟨0, 9, 12, 21⟩ [⟨0, 9, 15, 15⟩] htb (fun z hz => nomatch hz) (by decide) (by decide) (hts (.classLink RL 21 "java/lang/IndexOutOfBoundsException") (by decide +kernel)) (va_Nw.use rfl (hE.2.2.2.2.2.1 _ (by decide +kernel))) hce hcv hcl ?_
  refine lv_astore_n (lv' := [(3, .ref q9), (0, .ref x), (1, .int p0), (2, .ref o)]) hx hb dL_close_12 rfl hl (by decide) rfl (fun ls hl => ?_)
  refine lv_iconst (v := 1) hx hb dL_close_13 (by decide) ?_
  exact end_i (v := 1) hx hb hr rfl hlocks hP hD hK hS () rfl [] [] rfl (by decide) rfl (Nat.le_of_ble_eq_true rfl) (Nat.le_of_ble_eq_true rfl) dL_close_14
set_option maxHeartbeats 4000000 in
set_option maxRecDepth 100000 in
/-- the law: ofKind, its exception caught -/
theorem c_w_ofKind (l : Launch) (hl9 : l.stackTraces = false) (D : va_G) (e0 sz : Nat) (x xk xb xo xa : Nat) (near : Int32) (o : Nat) (co : ClassId) (f : Nat → Int64) (p0 p1 : Int32) : Ki (S := Unit) l yL_ofKind wsL_ofKind ({ frames := 8, cells := 1, slots := 6, locals := 128 } : Room) [.ref x, .int p0, .int p1, .ref o] D [(x, .inr (7, [.ref xk, .ref xb, .ref xo, .ref xa, .int near, .int 0, .int 0, .int 0])), (xk, .inr (1, [.int 0, .ref e0, .int 0])), (o, .inl (co, 1, .inr (.inl f)))] [(co, .long)] e0 sz (fun r _ => r = 1) (fun _ => []) (fun _ => []) 1 6 := by
  refine va_MetW (hh := [(0, 10, 13, 21), (0, 10, 17, 13)]) (cc := cL_ofKind) (maxL := 5) (ret := (some .int)) (by decide) rfl ?_
  intro p e s m args below meth c s₁ B hml hv
  obtain ⟨rfl, hsz, hP, hK, hD0, hE⟩ := hv
  have hx := B.exec
  have hb := B.bytes
  have hr := B.returns
  have hts := atoms_spec (ws := wsL_ofKind) B.pre
  have hown : s.vm.findClass RL = some m.cls := findClass_of_methodNamed B.named
  have hlocks := B.notSynchronized
  have htb : c.exceptionTable.toList = tableOf [(0, 10, 13, 21), (0, 10, 17, 13)] := vx_table (x := yL_ofKind) B (hts _ List.mem_cons_self)
  subst hsz
  have hD := hD0.self (sz := s.heap.size)
  generalize hAe : va_A [(x, .inr (7, [.ref xk, .ref xb, .ref xo, .ref xa, .int near, .int 0, .int 0, .int 0])), (xk, .inr (1, [.int 0, .ref e0, .int 0])), (o, .inl (co, 1, .inr (.inl f)))] s.heap.size = A at hD hE ⊢
  have hA : ∀ q : Nat, s.heap.size ≤ q → A q := fun q h => by rw [← hAe]; exact Or.inr h
  have hS : va_S A s.heap s.heap [] := va_S.rf
  have hP : va_P D vwCl [(x, .inr (7, [.ref xk, .ref xb, .ref xo, .ref xa, .int near, .int 0, .int 0, .int 0])), (xk, .inr (1, [.int 0, .ref e0, .int 0])), (o, .inl (co, 1, .inr (.inl f)))] s.heap := hP
  have hl := lv_entry ([.ref x, .int p0, .int p1, .ref o]) (n := 5) (Nat.le_of_ble_eq_true rfl)
  rw [lg_entry_eq]
  generalize (lg_sl ([.ref x, .int p0, .int p1, .ref o]) ++ List.replicate (5 - (lg_sl ([.ref x, .int p0, .int p1, .ref o])).length) Slot.unset).toArray = ls at hl ⊢
  have hl : lv_has ls 5 [(0, .ref x), (1, .int p0), (2, .int p1), (3, .ref o)] := hl
  refine lv_aload_n hx hb dL_ofKind_0 rfl (lv_at hl 3 rfl) ?_
  refine lv_iconst (v := 0) hx hb dL_ofKind_1 (by decide) ?_
  refine lv_aload_n hx hb dL_ofKind_2 rfl (lv_at hl 0 rfl) ?_
  refine lv_iload_n hx hb dL_ofKind_3 rfl (lv_at hl 1 rfl) ?_
  refine lv_iload_n hx hb dL_ofKind_4 rfl (lv_at hl 2 rfl) ?_
  refine kTV (As := [.int p0, .int p1]) (rest := [.int 0, .ref o]) (wr := [(o, .inl (co, 1, .inr (.inl f)))]) ⟨hx, hb, hml, hown, hts⟩ (c_ofKind l hl9 D e0 _ x xk xb xo xa near p0 p1) (cwV 2 hts gL_ofKind_X5_ofKind rfl rfl rfl (by decide +kernel) ⟨Nat.le_of_ble_eq_true rfl, Nat.le_of_ble_eq_true rfl⟩) hP hD hK hS hA hE rfl [0, 1] [2] [] rfl rfl (by decide) (by decide) (by decide) rfl 7 0 rfl rfl rfl rfl hl.1 (Nat.le_of_ble_eq_true rfl) dL_ofKind_5 ⟨Nat.le_of_ble_eq_true rfl, Nat.le_of_ble_eq_true rfl⟩ (fun ce q9 H locs hP hD hS hce hcv hcl => ?_)
  have hP : va_P D vwCl [(o, .inl (co, 1, .inr (.inl f)))] H := hP
  have hD : va_D A [(o, .inl (co, 1, .inr (.inl f)))] := hD
  refine vx_catch (name := "java/lang/IndexOutOfBoundsException") hown [] ⟨0, 10, 13, 21⟩ [⟨0, 10, 17, 13⟩] htb (fun z hz => nomatch hz) (by decide) (by decide) (hts (.classLink RL 21 "java/lang/IndexOutOfBoundsException") (by decide +kernel)) (va_Nw.use rfl (hE.2.2.2.2.2.1 _ (by decide +kernel))) hce hcv hcl ?_
  refine lv_astore (lv' := [(4, .ref q9), (0, .ref x), (1, .int p0), (2, .int p1), (3, .ref o)]) hx hb dL_ofKind_13 hl (by decide) rfl (fun ls hl => ?_)
  refine lv_iconst (v := 1) hx hb dL_ofKind_15 (by decide) ?_
  exact end_i (v := 1) hx hb hr rfl hlocks hP hD hK hS () rfl [] [] rfl (by decide) rfl (Nat.le_of_ble_eq_true rfl) (Nat.le_of_ble_eq_true rfl) dL_ofKind_16
set_option maxHeartbeats 4000000 in
set_option maxRecDepth 100000 in
/-- the law: ofThing, its exception caught -/
theorem c_w_ofThing (l : Launch) (hl9 : l.stackTraces = false) (D : va_G) (e0 sz : Nat) (x xk xb xo xa xt xp xs : Nat) (near : Int32) (o : Nat) (co : ClassId) (f : Nat → Int64) (p0 p1 : Int32) : Ki (S := Unit) l yL_ofThing wsL_ofThing ({ frames := 8, cells := 1, slots := 6, locals := 128 } : Room) [.ref x, .int p0, .int p1, .ref o] D [(x, .inr (7, [.ref xk, .ref xb, .ref xo, .ref xa, .int near, .int 0, .int 0, .int 0])), (xb, .inr (3, [.ref xt, .ref xp, .ref xs, .int 0])), (xt, .inr (1, [.int 0, .ref e0, .int 0])), (o, .inl (co, 1, .inr (.inl f)))] [(co, .long)] e0 sz (fun r _ => r = 1) (fun _ => []) (fun _ => []) 1 6 := by
  refine va_MetW (hh := [(0, 10, 13, 21), (0, 10, 17, 13)]) (cc := cL_ofThing) (maxL := 5) (ret := (some .int)) (by decide) rfl ?_
  intro p e s m args below meth c s₁ B hml hv
  obtain ⟨rfl, hsz, hP, hK, hD0, hE⟩ := hv
  have hx := B.exec
  have hb := B.bytes
  have hr := B.returns
  have hts := atoms_spec (ws := wsL_ofThing) B.pre
  have hown : s.vm.findClass RL = some m.cls := findClass_of_methodNamed B.named
  have hlocks := B.notSynchronized
  have htb : c.exceptionTable.toList = tableOf [(0, 10, 13, 21), (0, 10, 17, 13)] := vx_table (x := yL_ofThing) B (hts _ List.mem_cons_self)
  subst hsz
  have hD := hD0.self (sz := s.heap.size)
  generalize hAe : va_A [(x, .inr (7, [.ref xk, .ref xb, .ref xo, .ref xa, .int near, .int 0, .int 0, .int 0])), (xb, .inr (3, [.ref xt, .ref xp, .ref xs, .int 0])), (xt, .inr (1, [.int 0, .ref e0, .int 0])), (o, .inl (co, 1, .inr (.inl f)))] s.heap.size = A at hD hE ⊢
  have hA : ∀ q : Nat, s.heap.size ≤ q → A q := fun q h => by rw [← hAe]; exact Or.inr h
  have hS : va_S A s.heap s.heap [] := va_S.rf
  have hP : va_P D vwCl [(x, .inr (7, [.ref xk, .ref xb, .ref xo, .ref xa, .int near, .int 0, .int 0, .int 0])), (xb, .inr (3, [.ref xt, .ref xp, .ref xs, .int 0])), (xt, .inr (1, [.int 0, .ref e0, .int 0])), (o, .inl (co, 1, .inr (.inl f)))] s.heap := hP
  have hl := lv_entry ([.ref x, .int p0, .int p1, .ref o]) (n := 5) (Nat.le_of_ble_eq_true rfl)
  rw [lg_entry_eq]
  generalize (lg_sl ([.ref x, .int p0, .int p1, .ref o]) ++ List.replicate (5 - (lg_sl ([.ref x, .int p0, .int p1, .ref o])).length) Slot.unset).toArray = ls at hl ⊢
  have hl : lv_has ls 5 [(0, .ref x), (1, .int p0), (2, .int p1), (3, .ref o)] := hl
  refine lv_aload_n hx hb dL_ofThing_0 rfl (lv_at hl 3 rfl) ?_
  refine lv_iconst (v := 0) hx hb dL_ofThing_1 (by decide) ?_
  refine lv_aload_n hx hb dL_ofThing_2 rfl (lv_at hl 0 rfl) ?_
  refine lv_iload_n hx hb dL_ofThing_3 rfl (lv_at hl 1 rfl) ?_
  refine lv_iload_n hx hb dL_ofThing_4 rfl (lv_at hl 2 rfl) ?_
  refine kTV (As := [.int p0, .int p1]) (rest := [.int 0, .ref o]) (wr := [(o, .inl (co, 1, .inr (.inl f)))]) ⟨hx, hb, hml, hown, hts⟩ (c_ofThing l hl9 D e0 _ x xk xb xo xa xt xp xs near p0 p1) (cwV 2 hts gL_ofThing_X5_ofThing rfl rfl rfl (by decide +kernel) ⟨Nat.le_of_ble_eq_true rfl, Nat.le_of_ble_eq_true rfl⟩) hP hD hK hS hA hE rfl [0, 1, 2] [3] [] rfl rfl (by decide) (by decide) (by decide) rfl 7 0 rfl rfl rfl rfl hl.1 (Nat.le_of_ble_eq_true rfl) dL_ofThing_5 ⟨Nat.le_of_ble_eq_true rfl, Nat.le_of_ble_eq_true rfl⟩ (fun ce q9 H locs hP hD hS hce hcv hcl => ?_)
  have hP : va_P D vwCl [(o, .inl (co, 1, .inr (.inl f)))] H := hP
  have hD : va_D A [(o, .inl (co, 1, .inr (.inl f)))] := hD
  refine vx_catch (name := "java/lang/IndexOutOfBoundsException") hown [] ⟨0, 10, 13, 21⟩ [⟨0, 10, 17, 13⟩] htb (fun z hz => nomatch hz) (by decide) (by decide) (hts (.classLink RL 21 "java/lang/IndexOutOfBoundsException") (by decide +kernel)) (va_Nw.use rfl (hE.2.2.2.2.2.1 _ (by decide +kernel))) hce hcv hcl ?_
  refine lv_astore (lv' := [(4, .ref q9), (0, .ref x), (1, .int p0), (2, .int p1), (3, .ref o)]) hx hb dL_ofThing_13 hl (by decide) rfl (fun ls hl => ?_)
  refine lv_iconst (v := 1) hx hb dL_ofThing_15 (by decide) ?_
  exact end_i (v := 1) hx hb hr rfl hlocks hP hD hK hS () rfl [] [] rfl (by decide) rfl (Nat.le_of_ble_eq_true rfl) (Nat.le_of_ble_eq_true rfl) dL_ofThing_16
set_option maxHeartbeats 4000000 in
set_option maxRecDepth 100000 in
/-- the law: hinders, its exception caught -/
theorem c_w_hinders (l : Launch) (hl9 : l.stackTraces = false) (D : va_G) (e0 sz : Nat) (x xk xb xo xa xt xp xs : Nat) (near : Int32) (o : Nat) (co : ClassId) (f : Nat → Int64) (p0 p1 : Int32) : Ki (S := Unit) l yL_hinders wsL_hinders ({ frames := 8, cells := 1, slots := 6, locals := 128 } : Room) [.ref x, .int p0, .int p1, .ref o] D [(x, .inr (7, [.ref xk, .ref xb, .ref xo, .ref xa, .int near, .int 0, .int 0, .int 0])), (xb, .inr (3, [.ref xt, .ref xp, .ref xs, .int 0])), (xt, .inr (1, [.int 0, .ref e0, .int 0])), (o, .inl (co, 1, .inr (.inl f)))] [(co, .long)] e0 sz (fun r _ => r = 1) (fun _ => []) (fun _ => []) 1 6 := by
  refine va_MetW (hh := [(0, 10, 13, 21), (0, 10, 17, 13)]) (cc := cL_hinders) (maxL := 5) (ret := (some .int)) (by decide) rfl ?_
  intro p e s m args below meth c s₁ B hml hv
  obtain ⟨rfl, hsz, hP, hK, hD0, hE⟩ := hv
  have hx := B.exec
  have hb := B.bytes
  have hr := B.returns
  have hts := atoms_spec (ws := wsL_hinders) B.pre
  have hown : s.vm.findClass RL = some m.cls := findClass_of_methodNamed B.named
  have hlocks := B.notSynchronized
  have htb : c.exceptionTable.toList = tableOf [(0, 10, 13, 21), (0, 10, 17, 13)] := vx_table (x := yL_hinders) B (hts _ List.mem_cons_self)
  subst hsz
  have hD := hD0.self (sz := s.heap.size)
  generalize hAe : va_A [(x, .inr (7, [.ref xk, .ref xb, .ref xo, .ref xa, .int near, .int 0, .int 0, .int 0])), (xb, .inr (3, [.ref xt, .ref xp, .ref xs, .int 0])), (xt, .inr (1, [.int 0, .ref e0, .int 0])), (o, .inl (co, 1, .inr (.inl f)))] s.heap.size = A at hD hE ⊢
  have hA : ∀ q : Nat, s.heap.size ≤ q → A q := fun q h => by rw [← hAe]; exact Or.inr h
  have hS : va_S A s.heap s.heap [] := va_S.rf
  have hP : va_P D vwCl [(x, .inr (7, [.ref xk, .ref xb, .ref xo, .ref xa, .int near, .int 0, .int 0, .int 0])), (xb, .inr (3, [.ref xt, .ref xp, .ref xs, .int 0])), (xt, .inr (1, [.int 0, .ref e0, .int 0])), (o, .inl (co, 1, .inr (.inl f)))] s.heap := hP
  have hl := lv_entry ([.ref x, .int p0, .int p1, .ref o]) (n := 5) (Nat.le_of_ble_eq_true rfl)
  rw [lg_entry_eq]
  generalize (lg_sl ([.ref x, .int p0, .int p1, .ref o]) ++ List.replicate (5 - (lg_sl ([.ref x, .int p0, .int p1, .ref o])).length) Slot.unset).toArray = ls at hl ⊢
  have hl : lv_has ls 5 [(0, .ref x), (1, .int p0), (2, .int p1), (3, .ref o)] := hl
  refine lv_aload_n hx hb dL_hinders_0 rfl (lv_at hl 3 rfl) ?_
  refine lv_iconst (v := 0) hx hb dL_hinders_1 (by decide) ?_
  refine lv_aload_n hx hb dL_hinders_2 rfl (lv_at hl 0 rfl) ?_
  refine lv_iload_n hx hb dL_hinders_3 rfl (lv_at hl 1 rfl) ?_
  refine lv_iload_n hx hb dL_hinders_4 rfl (lv_at hl 2 rfl) ?_
  refine kTV (As := [.int p0, .int p1]) (rest := [.int 0, .ref o]) (wr := [(o, .inl (co, 1, .inr (.inl f)))]) ⟨hx, hb, hml, hown, hts⟩ (c_hinders l hl9 D e0 _ x xk xb xo xa xt xp xs near p0 p1) (cwV 2 hts gL_hinders_X5_hinders rfl rfl rfl (by decide +kernel) ⟨Nat.le_of_ble_eq_true rfl, Nat.le_of_ble_eq_true rfl⟩) hP hD hK hS hA hE rfl [0, 1, 2] [3] [] rfl rfl (by decide) (by decide) (by decide) rfl 7 0 rfl rfl rfl rfl hl.1 (Nat.le_of_ble_eq_true rfl) dL_hinders_5 ⟨Nat.le_of_ble_eq_true rfl, Nat.le_of_ble_eq_true rfl⟩ (fun ce q9 H locs hP hD hS hce hcv hcl => ?_)
  have hP : va_P D vwCl [(o, .inl (co, 1, .inr (.inl f)))] H := hP
  have hD : va_D A [(o, .inl (co, 1, .inr (.inl f)))] := hD
  refine vx_catch (name := "java/lang/IndexOutOfBoundsException") hown [] ⟨0, 10, 13, 21⟩ [⟨0, 10, 17, 13⟩] htb (fun z hz => nomatch hz) (by decide) (by decide) (hts (.classLink RL 21 "java/lang/IndexOutOfBoundsException") (by decide +kernel)) (va_Nw.use rfl (hE.2.2.2.2.2.1 _ (by decide +kernel))) hce hcv hcl ?_
  refine lv_astore (lv' := [(4, .ref q9), (0, .ref x), (1, .int p0), (2, .int p1), (3, .ref o)]) hx hb dL_hinders_13 hl (by decide) rfl (fun ls hl => ?_)
  refine lv_iconst (v := 1) hx hb dL_hinders_15 (by decide) ?_
  exact end_i (v := 1) hx hb hr rfl hlocks hP hD hK hS () rfl [] [] rfl (by decide) rfl (Nat.le_of_ble_eq_true rfl) (Nat.le_of_ble_eq_true rfl) dL_hinders_16
set_option maxHeartbeats 4000000 in
set_option maxRecDepth 100000 in
/-- the law: ofBox, its exception caught -/
theorem c_w_ofBox (l : Launch) (hl9 : l.stackTraces = false) (D : va_G) (e0 sz : Nat) (x xk xb xo xa : Nat) (near : Int32) (o : Nat) (co : ClassId) (f : Nat → Int64) (p0 p1 : Int32) : Ki (S := Unit) l yL_ofBox wsL_ofBox ({ frames := 8, cells := 1, slots := 6, locals := 128 } : Room) [.ref x, .int p0, .int p1, .ref o] D [(x, .inr (7, [.ref xk, .ref xb, .ref xo, .ref xa, .int near, .int 0, .int 0, .int 0])), (xo, .inr (1, [.int 0, .ref e0, .int 0])), (o, .inl (co, 1, .inr (.inl f)))] [(co, .long)] e0 sz (fun r _ => r = 1) (fun _ => []) (fun _ => []) 1 6 := by
  refine va_MetW (hh := [(0, 10, 13, 21), (0, 10, 17, 13)]) (cc := cL_ofBox) (maxL := 5) (ret := (some .int)) (by decide) rfl ?_
  intro p e s m args below meth c s₁ B hml hv
  obtain ⟨rfl, hsz, hP, hK, hD0, hE⟩ := hv
  have hx := B.exec
  have hb := B.bytes
  have hr := B.returns
  have hts := atoms_spec (ws := wsL_ofBox) B.pre
  have hown : s.vm.findClass RL = some m.cls := findClass_of_methodNamed B.named
  have hlocks := B.notSynchronized
  have htb : c.exceptionTable.toList = tableOf [(0, 10, 13, 21), (0, 10, 17, 13)] := vx_table (x := yL_ofBox) B (hts _ List.mem_cons_self)
  subst hsz
  have hD := hD0.self (sz := s.heap.size)
  generalize hAe : va_A [(x, .inr (7, [.ref xk, .ref xb, .ref xo, .ref xa, .int near, .int 0, .int 0, .int 0])), (xo, .inr (1, [.int 0, .ref e0, .int 0])), (o, .inl (co, 1, .inr (.inl f)))] s.heap.size = A at hD hE ⊢
  have hA : ∀ q : Nat, s.heap.size ≤ q → A q := fun q h => by rw [← hAe]; exact Or.inr h
  have hS : va_S A s.heap s.heap [] := va_S.rf
  have hP : va_P D vwCl [(x, .inr (7, [.ref xk, .ref xb, .ref xo, .ref xa, .int near, .int 0, .int 0, .int 0])), (xo, .inr (1, [.int 0, .ref e0, .int 0])), (o, .inl (co, 1, .inr (.inl f)))] s.heap := hP
  have hl := lv_entry ([.ref x, .int p0, .int p1, .ref o]) (n := 5) (Nat.le_of_ble_eq_true rfl)
  rw [lg_entry_eq]
  generalize (lg_sl ([.ref x, .int p0, .int p1, .ref o]) ++ List.replicate (5 - (lg_sl ([.ref x, .int p0, .int p1, .ref o])).length) Slot.unset).toArray = ls at hl ⊢
  have hl : lv_has ls 5 [(0, .ref x), (1, .int p0), (2, .int p1), (3, .ref o)] := hl
  refine lv_aload_n hx hb dL_ofBox_0 rfl (lv_at hl 3 rfl) ?_
  refine lv_iconst (v := 0) hx hb dL_ofBox_1 (by decide) ?_
  refine lv_aload_n hx hb dL_ofBox_2 rfl (lv_at hl 0 rfl) ?_
  refine lv_iload_n hx hb dL_ofBox_3 rfl (lv_at hl 1 rfl) ?_
  refine lv_iload_n hx hb dL_ofBox_4 rfl (lv_at hl 2 rfl) ?_
  refine kTV (As := [.int p0, .int p1]) (rest := [.int 0, .ref o]) (wr := [(o, .inl (co, 1, .inr (.inl f)))]) ⟨hx, hb, hml, hown, hts⟩ (c_ofBox l hl9 D e0 _ x xk xb xo xa near p0 p1) (cwV 2 hts gL_ofBox_X5_ofBox rfl rfl rfl (by decide +kernel) ⟨Nat.le_of_ble_eq_true rfl, Nat.le_of_ble_eq_true rfl⟩) hP hD hK hS hA hE rfl [0, 1] [2] [] rfl rfl (by decide) (by decide) (by decide) rfl 7 0 rfl rfl rfl rfl hl.1 (Nat.le_of_ble_eq_true rfl) dL_ofBox_5 ⟨Nat.le_of_ble_eq_true rfl, Nat.le_of_ble_eq_true rfl⟩ (fun ce q9 H locs hP hD hS hce hcv hcl => ?_)
  have hP : va_P D vwCl [(o, .inl (co, 1, .inr (.inl f)))] H := hP
  have hD : va_D A [(o, .inl (co, 1, .inr (.inl f)))] := hD
  refine vx_catch (name := "java/lang/IndexOutOfBoundsException") hown [] ⟨0, 10, 13, 21⟩ [⟨0, 10, 17, 13⟩] htb (fun z hz => nomatch hz) (by decide) (by decide) (hts (.classLink RL 21 "java/lang/IndexOutOfBoundsException") (by decide +kernel)) (va_Nw.use rfl (hE.2.2.2.2.2.1 _ (by decide +kernel))) hce hcv hcl ?_
  refine lv_astore (lv' := [(4, .ref q9), (0, .ref x), (1, .int p0), (2, .int p1), (3, .ref o)]) hx hb dL_ofBox_13 hl (by decide) rfl (fun ls hl => ?_)
  refine lv_iconst (v := 1) hx hb dL_ofBox_15 (by decide) ?_
  exact end_i (v := 1) hx hb hr rfl hlocks hP hD hK hS () rfl [] [] rfl (by decide) rfl (Nat.le_of_ble_eq_true rfl) (Nat.le_of_ble_eq_true rfl) dL_ofBox_16
set_option maxHeartbeats 4000000 in
set_option maxRecDepth 100000 in
/-- the law: ahead, its exception caught -/
theorem c_w_ahead (l : Launch) (hl9 : l.stackTraces = false) (D : va_G) (e0 sz : Nat) (x xk xb xo xa xt xp xs : Nat) (near : Int32) (o : Nat) (co : ClassId) (f : Nat → Int64) (p0 : Int32) : Ki (S := Unit) l yL_ahead wsL_ahead ({ frames := 8, cells := 1, slots := 6, locals := 126 } : Room) [.ref x, .int p0, .ref o] D [(x, .inr (7, [.ref xk, .ref xb, .ref xo, .ref xa, .int near, .int 0, .int 0, .int 0])), (xb, .inr (3, [.ref xt, .ref xp, .ref xs, .int 0])), (xt, .inr (1, [.int 0, .ref e0, .int 0])), (o, .inl (co, 1, .inr (.inl f)))] [(co, .long)] e0 sz (fun r _ => r = 1) (fun _ => []) (fun _ => []) 1 6 := by
  refine va_MetW (hh := [(0, 9, 12, 21)]) (cc := cL_ahead) (maxL := 4) (ret := (some .int)) (by decide) rfl ?_
  intro p e s m args below meth c s₁ B hml hv
  obtain ⟨rfl, hsz, hP, hK, hD0, hE⟩ := hv
  have hx := B.exec
  have hb := B.bytes
  have hr := B.returns
  have hts := atoms_spec (ws := wsL_ahead) B.pre
  have hown : s.vm.findClass RL = some m.cls := findClass_of_methodNamed B.named
  have hlocks := B.notSynchronized
  have htb : c.exceptionTable.toList = tableOf [(0, 9, 12, 21)] := vx_table (x := yL_ahead) B (hts _ List.mem_cons_self)
  subst hsz
  have hD := hD0.self (sz := s.heap.size)
  generalize hAe : va_A [(x, .inr (7, [.ref xk, .ref xb, .ref xo, .ref xa, .int near, .int 0, .int 0, .int 0])), (xb, .inr (3, [.ref xt, .ref xp, .ref xs, .int 0])), (xt, .inr (1, [.int 0, .ref e0, .int 0])), (o, .inl (co, 1, .inr (.inl f)))] s.heap.size = A at hD hE ⊢
  have hA : ∀ q : Nat, s.heap.size ≤ q → A q := fun q h => by rw [← hAe]; exact Or.inr h
  have hS : va_S A s.heap s.heap [] := va_S.rf
  have hP : va_P D vwCl [(x, .inr (7, [.ref xk, .ref xb, .ref xo, .ref xa, .int near, .int 0, .int 0, .int 0])), (xb, .inr (3, [.ref xt, .ref xp, .ref xs, .int 0])), (xt, .inr (1, [.int 0, .ref e0, .int 0])), (o, .inl (co, 1, .inr (.inl f)))] s.heap := hP
  have hl := lv_entry ([.ref x, .int p0, .ref o]) (n := 4) (Nat.le_of_ble_eq_true rfl)
  rw [lg_entry_eq]
  generalize (lg_sl ([.ref x, .int p0, .ref o]) ++ List.replicate (4 - (lg_sl ([.ref x, .int p0, .ref o])).length) Slot.unset).toArray = ls at hl ⊢
  have hl : lv_has ls 4 [(0, .ref x), (1, .int p0), (2, .ref o)] := hl
  refine lv_aload_n hx hb dL_ahead_0 rfl (lv_at hl 2 rfl) ?_
  refine lv_iconst (v := 0) hx hb dL_ahead_1 (by decide) ?_
  refine lv_aload_n hx hb dL_ahead_2 rfl (lv_at hl 0 rfl) ?_
  refine lv_iload_n hx hb dL_ahead_3 rfl (lv_at hl 1 rfl) ?_
  refine kTV (As := [.int p0]) (rest := [.int 0, .ref o]) (wr := [(o, .inl (co, 1, .inr (.inl f)))]) ⟨hx, hb, hml, hown, hts⟩ (c_ahead l hl9 D e0 _ x xk xb xo xa xt xp xs near p0) (cwV 1 hts gL_ahead_X5_ahead rfl rfl rfl (by decide +kernel) ⟨Nat.le_of_ble_eq_true rfl, Nat.le_of_ble_eq_true rfl⟩) hP hD hK hS hA hE rfl [0, 1, 2] [3] [] rfl rfl (by decide) (by decide) (by decide) rfl 7 0 rfl rfl rfl rfl hl.1 (Nat.le_of_ble_eq_true rfl) dL_ahead_4 ⟨Nat.le_of_ble_eq_true rfl, Nat.le_of_ble_eq_true rfl⟩ (fun ce q9 H locs hP hD hS hce hcv hcl => ?_)
  have hP : va_P D vwCl [(o, .inl (co, 1, .inr (.inl f)))] H := hP
  have hD : va_D A [(o, .inl (co, 1, .inr (.inl f)))] := hD
  refine vx_catch (name := "java/lang/IndexOutOfBoundsException") hown [] ⟨0, 9, 12, 21⟩ [] htb (fun z hz => nomatch hz) (by decide) (by decide) (hts (.classLink RL 21 "java/lang/IndexOutOfBoundsException") (by decide +kernel)) (va_Nw.use rfl (hE.2.2.2.2.2.1 _ (by decide +kernel))) hce hcv hcl ?_
  refine lv_astore_n (lv' := [(3, .ref q9), (0, .ref x), (1, .int p0), (2, .ref o)]) hx hb dL_ahead_12 rfl hl (by decide) rfl (fun ls hl => ?_)
  refine lv_iconst (v := 1) hx hb dL_ahead_13 (by decide) ?_
  exact end_i (v := 1) hx hb hr rfl hlocks hP hD hK hS () rfl [] [] rfl (by decide) rfl (Nat.le_of_ble_eq_true rfl) (Nat.le_of_ble_eq_true rfl) dL_ahead_14
set_option maxHeartbeats 4000000 in
set_option maxRecDepth 100000 in
/-- the law: next, its exception caught -/
theorem c_w_next (l : Launch) (hl9 : l.stackTraces = false) (D : va_G) (e0 sz : Nat) (x xk xb xo xa : Nat) (near : Int32) (o : Nat) (co : ClassId) (f : Nat → Int64) (p0 : Int32) : Ki (S := Unit) l yL_next wsL_next ({ frames := 8, cells := 1, slots := 6, locals := 136 } : Room) [.ref x, .int p0, .ref o] D [(x, .inr (7, [.ref xk, .ref xb, .ref xo, .ref xa, .int near, .int 0, .int 0, .int 0])), (xk, .inr (1, [.int 0, .ref e0, .int 0])), (o, .inl (co, 1, .inr (.inl f)))] [(co, .long)] e0 sz (fun r _ => r = 1) (fun _ => []) (fun _ => []) 1 6 := by
  refine va_MetW (hh := [(0, 9, 12, 21)]) (cc := cL_next) (maxL := 4) (ret := (some .int)) (by decide) rfl ?_
  intro p e s m args below meth c s₁ B hml hv
  obtain ⟨rfl, hsz, hP, hK, hD0, hE⟩ := hv
  have hx := B.exec
  have hb := B.bytes
  have hr := B.returns
  have hts := atoms_spec (ws := wsL_next) B.pre
  have hown : s.vm.findClass RL = some m.cls := findClass_of_methodNamed B.named
  have hlocks := B.notSynchronized
  have htb : c.exceptionTable.toList = tableOf [(0, 9, 12, 21)] := vx_table (x := yL_next) B (hts _ List.mem_cons_self)
  subst hsz
  have hD := hD0.self (sz := s.heap.size)
  generalize hAe : va_A [(x, .inr (7, [.ref xk, .ref xb, .ref xo, .ref xa, .int near, .int 0, .int 0, .int 0])), (xk, .inr (1, [.int 0, .ref e0, .int 0])), (o, .inl (co, 1, .inr (.inl f)))] s.heap.size = A at hD hE ⊢
  have hA : ∀ q : Nat, s.heap.size ≤ q → A q := fun q h => by rw [← hAe]; exact Or.inr h
  have hS : va_S A s.heap s.heap [] := va_S.rf
  have hP : va_P D vwCl [(x, .inr (7, [.ref xk, .ref xb, .ref xo, .ref xa, .int near, .int 0, .int 0, .int 0])), (xk, .inr (1, [.int 0, .ref e0, .int 0])), (o, .inl (co, 1, .inr (.inl f)))] s.heap := hP
  have hl := lv_entry ([.ref x, .int p0, .ref o]) (n := 4) (Nat.le_of_ble_eq_true rfl)
  rw [lg_entry_eq]
  generalize (lg_sl ([.ref x, .int p0, .ref o]) ++ List.replicate (4 - (lg_sl ([.ref x, .int p0, .ref o])).length) Slot.unset).toArray = ls at hl ⊢
  have hl : lv_has ls 4 [(0, .ref x), (1, .int p0), (2, .ref o)] := hl
  refine lv_aload_n hx hb dL_next_0 rfl (lv_at hl 2 rfl) ?_
  refine lv_iconst (v := 0) hx hb dL_next_1 (by decide) ?_
  refine lv_aload_n hx hb dL_next_2 rfl (lv_at hl 0 rfl) ?_
  refine lv_iload_n hx hb dL_next_3 rfl (lv_at hl 1 rfl) ?_
  refine kTV (As := [.int p0]) (rest := [.int 0, .ref o]) (wr := [(o, .inl (co, 1, .inr (.inl f)))]) ⟨hx, hb, hml, hown, hts⟩ (c_next l hl9 D e0 _ x xk xb xo xa near p0) (cwV 1 hts gL_next_X5_next rfl rfl rfl (by decide +kernel) ⟨Nat.le_of_ble_eq_true rfl, Nat.le_of_ble_eq_true rfl⟩) hP hD hK hS hA hE rfl [0, 1] [2] [] rfl rfl (by decide) (by decide) (by decide) rfl 7 0 rfl rfl rfl rfl hl.1 (Nat.le_of_ble_eq_true rfl) dL_next_4 ⟨Nat.le_of_ble_eq_true rfl, Nat.le_of_ble_eq_true rfl⟩ (fun ce q9 H locs hP hD hS hce hcv hcl => ?_)
  have hP : va_P D vwCl [(o, .inl (co, 1, .inr (.inl f)))] H := hP
  have hD : va_D A [(o, .inl (co, 1, .inr (.inl f)))] := hD
  refine vx_catch (name := "java/lang/IndexOutOfBoundsException") hown [] ⟨0, 9, 12, 21⟩ [] htb (fun z hz => nomatch hz) (by decide) (by decide) (hts (.classLink RL 21 "java/lang/IndexOutOfBoundsException") (by decide +kernel)) (va_Nw.use rfl (hE.2.2.2.2.2.1 _ (by decide +kernel))) hce hcv hcl ?_
  refine lv_astore_n (lv' := [(3, .ref q9), (0, .ref x), (1, .int p0), (2, .ref o)]) hx hb dL_next_12 rfl hl (by decide) rfl (fun ls hl => ?_)
  refine lv_iconst (v := 1) hx hb dL_next_13 (by decide) ?_
  exact end_i (v := 1) hx hb hr rfl hlocks hP hD hK hS () rfl [] [] rfl (by decide) rfl (Nat.le_of_ble_eq_true rfl) (Nat.le_of_ble_eq_true rfl) dL_next_14
set_option maxHeartbeats 4000000 in
set_option maxRecDepth 100000 in
/-- the law: wouldFit, its exception caught -/
theorem c_w_wouldFit (l : Launch) (hl9 : l.stackTraces = false) (D : va_G) (e0 sz : Nat) (x xk xb xo xa xt xp xs : Nat) (near : Int32) (o : Nat) (co : ClassId) (f : Nat → Int64) (p0 p1 : Int32) : Ki (S := Unit) l yL_wouldFit wsL_wouldFit ({ frames := 8, cells := 1, slots := 6, locals := 129 } : Room) [.ref x, .int p0, .int p1, .ref o] D [(x, .inr (7, [.ref xk, .ref xb, .ref xo, .ref xa, .int near, .int 0, .int 0, .int 0])), (xb, .inr (3, [.ref xt, .ref xp, .ref xs, .int 0])), (xt, .inr (1, [.int 0, .ref e0, .int 0])), (o, .inl (co, 1, .inr (.inl f)))] [(co, .long)] e0 sz (fun r _ => r = 1) (fun _ => []) (fun _ => []) 1 6 := by
  refine va_MetW (hh := [(0, 10, 13, 21)]) (cc := cL_wouldFit) (maxL := 5) (ret := (some .int)) (by decide) rfl ?_
  intro p e s m args below meth c s₁ B hml hv
  obtain ⟨rfl, hsz, hP, hK, hD0, hE⟩ := hv
  have hx := B.exec
  have hb := B.bytes
  have hr := B.returns
  have hts := atoms_spec (ws := wsL_wouldFit) B.pre
  have hown : s.vm.findClass RL = some m.cls := findClass_of_methodNamed B.named
  have hlocks := B.notSynchronized
  have htb : c.exceptionTable.toList = tableOf [(0, 10, 13, 21)] := vx_table (x := yL_wouldFit) B (hts _ List.mem_cons_self)
  subst hsz
  have hD := hD0.self (sz := s.heap.size)
  generalize hAe : va_A [(x, .inr (7, [.ref xk, .ref xb, .ref xo, .ref xa, .int near, .int 0, .int 0, .int 0])), (xb, .inr (3, [.ref xt, .ref xp, .ref xs, .int 0])), (xt, .inr (1, [.int 0, .ref e0, .int 0])), (o, .inl (co, 1, .inr (.inl f)))] s.heap.size = A at hD hE ⊢
  have hA : ∀ q : Nat, s.heap.size ≤ q → A q := fun q h => by rw [← hAe]; exact Or.inr h
  have hS : va_S A s.heap s.heap [] := va_S.rf
  have hP : va_P D vwCl [(x, .inr (7, [.ref xk, .ref xb, .ref xo, .ref xa, .int near, .int 0, .int 0, .int 0])), (xb, .inr (3, [.ref xt, .ref xp, .ref xs, .int 0])), (xt, .inr (1, [.int 0, .ref e0, .int 0])), (o, .inl (co, 1, .inr (.inl f)))] s.heap := hP
  have hl := lv_entry ([.ref x, .int p0, .int p1, .ref o]) (n := 5) (Nat.le_of_ble_eq_true rfl)
  rw [lg_entry_eq]
  generalize (lg_sl ([.ref x, .int p0, .int p1, .ref o]) ++ List.replicate (5 - (lg_sl ([.ref x, .int p0, .int p1, .ref o])).length) Slot.unset).toArray = ls at hl ⊢
  have hl : lv_has ls 5 [(0, .ref x), (1, .int p0), (2, .int p1), (3, .ref o)] := hl
  refine lv_aload_n hx hb dL_wouldFit_0 rfl (lv_at hl 3 rfl) ?_
  refine lv_iconst (v := 0) hx hb dL_wouldFit_1 (by decide) ?_
  refine lv_aload_n hx hb dL_wouldFit_2 rfl (lv_at hl 0 rfl) ?_
  refine lv_iload_n hx hb dL_wouldFit_3 rfl (lv_at hl 1 rfl) ?_
  refine lv_iload_n hx hb dL_wouldFit_4 rfl (lv_at hl 2 rfl) ?_
  refine kTV (As := [.int p0, .int p1]) (rest := [.int 0, .ref o]) (wr := [(o, .inl (co, 1, .inr (.inl f)))]) ⟨hx, hb, hml, hown, hts⟩ (c_wouldFit l hl9 D e0 _ x xk xb xo xa xt xp xs near p0 p1) (cwV 2 hts gL_wouldFit_X5_wouldFit rfl rfl rfl (by decide +kernel) ⟨Nat.le_of_ble_eq_true rfl, Nat.le_of_ble_eq_true rfl⟩) hP hD hK hS hA hE rfl [0, 1, 2] [3] [] rfl rfl (by decide) (by decide) (by decide) rfl 7 0 rfl rfl rfl rfl hl.1 (Nat.le_of_ble_eq_true rfl) dL_wouldFit_5 ⟨Nat.le_of_ble_eq_true rfl, Nat.le_of_ble_eq_true rfl⟩ (fun ce q9 H locs hP hD hS hce hcv hcl => ?_)
  have hP : va_P D vwCl [(o, .inl (co, 1, .inr (.inl f)))] H := hP
  have hD : va_D A [(o, .inl (co, 1, .inr (.inl f)))] := hD
  refine vx_catch (name := "java/lang/IndexOutOfBoundsException") hown [] ⟨0, 10, 13, 21⟩ [] htb (fun z hz => nomatch hz) (by decide) (by decide) (hts (.classLink RL 21 "java/lang/IndexOutOfBoundsException") (by decide +kernel)) (va_Nw.use rfl (hE.2.2.2.2.2.1 _ (by decide +kernel))) hce hcv hcl ?_
  refine lv_astore (lv' := [(4, .ref q9), (0, .ref x), (1, .int p0), (2, .int p1), (3, .ref o)]) hx hb dL_wouldFit_13 hl (by decide) rfl (fun ls hl => ?_)
  refine lv_iconst (v := 1) hx hb dL_wouldFit_15 (by decide) ?_
  exact end_i (v := 1) hx hb hr rfl hlocks hP hD hK hS () rfl [] [] rfl (by decide) rfl (Nat.le_of_ble_eq_true rfl) (Nat.le_of_ble_eq_true rfl) dL_wouldFit_16
set_option maxHeartbeats 4000000 in
set_option maxRecDepth 100000 in
/-- the law: force, its exception caught -/
theorem c_w_force (l : Launch) (hl9 : l.stackTraces = false) (D : va_G) (e0 sz : Nat) (x xk xb xo xa xt xp xs : Nat) (near : Int32) (o : Nat) (co : ClassId) (f : Nat → UInt64) (p0 p1 : Int32) : Ki (S := Unit) l yL_force wsL_force ({ frames := 8, cells := 1, slots := 6, locals := 128 } : Room) [.ref x, .int p0, .int p1, .ref o] D [(x, .inr (7, [.ref xk, .ref xb, .ref xo, .ref xa, .int near, .int 0, .int 0, .int 0])), (xb, .inr (3, [.ref xt, .ref xp, .ref xs, .int 0])), (xt, .inr (1, [.int 0, .ref e0, .int 0])), (o, .inl (co, 1, .inr (.inr (.inr (.inl f)))))] [(co, .double)] e0 sz (fun r _ => r = 1) (fun _ => []) (fun _ => []) 1 6 := by
  refine va_MetW (hh := [(0, 9, 12, 21), (0, 9, 16, 13)]) (cc := cL_force) (maxL := 5) (ret := (some .int)) (by decide) rfl ?_
  intro p e s m args below meth c s₁ B hml hv
  obtain ⟨rfl, hsz, hP, hK, hD0, hE⟩ := hv
  have hx := B.exec
  have hb := B.bytes
  have hr := B.returns
  have hts := atoms_spec (ws := wsL_force) B.pre
  have hown : s.vm.findClass RL = some m.cls := findClass_of_methodNamed B.named
  have hlocks := B.notSynchronized
  have htb : c.exceptionTable.toList = tableOf [(0, 9, 12, 21), (0, 9, 16, 13)] := vx_table (x := yL_force) B (hts _ List.mem_cons_self)
  subst hsz
  have hD := hD0.self (sz := s.heap.size)
  generalize hAe : va_A [(x, .inr (7, [.ref xk, .ref xb, .ref xo, .ref xa, .int near, .int 0, .int 0, .int 0])), (xb, .inr (3, [.ref xt, .ref xp, .ref xs, .int 0])), (xt, .inr (1, [.int 0, .ref e0, .int 0])), (o, .inl (co, 1, .inr (.inr (.inr (.inl f)))))] s.heap.size = A at hD hE ⊢
  have hA : ∀ q : Nat, s.heap.size ≤ q → A q := fun q h => by rw [← hAe]; exact Or.inr h
  have hS : va_S A s.heap s.heap [] := va_S.rf
  have hP : va_P D vwCl [(x, .inr (7, [.ref xk, .ref xb, .ref xo, .ref xa, .int near, .int 0, .int 0, .int 0])), (xb, .inr (3, [.ref xt, .ref xp, .ref xs, .int 0])), (xt, .inr (1, [.int 0, .ref e0, .int 0])), (o, .inl (co, 1, .inr (.inr (.inr (.inl f)))))] s.heap := hP
  have hl := lv_entry ([.ref x, .int p0, .int p1, .ref o]) (n := 5) (Nat.le_of_ble_eq_true rfl)
  rw [lg_entry_eq]
  generalize (lg_sl ([.ref x, .int p0, .int p1, .ref o]) ++ List.replicate (5 - (lg_sl ([.ref x, .int p0, .int p1, .ref o])).length) Slot.unset).toArray = ls at hl ⊢
  have hl : lv_has ls 5 [(0, .ref x), (1, .int p0), (2, .int p1), (3, .ref o)] := hl
  refine lv_aload_n hx hb dL_force_0 rfl (lv_at hl 3 rfl) ?_
  refine lv_iconst (v := 0) hx hb dL_force_1 (by decide) ?_
  refine lv_aload_n hx hb dL_force_2 rfl (lv_at hl 0 rfl) ?_
  refine lv_iload_n hx hb dL_force_3 rfl (lv_at hl 1 rfl) ?_
  refine lv_iload_n hx hb dL_force_4 rfl (lv_at hl 2 rfl) ?_
  refine kTV (As := [.int p0, .int p1]) (rest := [.int 0, .ref o]) (wr := [(o, .inl (co, 1, .inr (.inr (.inr (.inl f)))))]) ⟨hx, hb, hml, hown, hts⟩ (c_force l hl9 D e0 _ x xk xb xo xa xt xp xs near p0 p1) (cwV 2 hts gL_force_X5_force rfl rfl rfl (by decide +kernel) ⟨Nat.le_of_ble_eq_true rfl, Nat.le_of_ble_eq_true rfl⟩) hP hD hK hS hA hE rfl [0, 1, 2] [3] [] rfl rfl (by decide) (by decide) (by decide) rfl 7 0 rfl rfl rfl rfl hl.1 (Nat.le_of_ble_eq_true rfl) dL_force_5 ⟨Nat.le_of_ble_eq_true rfl, Nat.le_of_ble_eq_true rfl⟩ (fun ce q9 H locs hP hD hS hce hcv hcl => ?_)
  have hP : va_P D vwCl [(o, .inl (co, 1, .inr (.inr (.inr (.inl f)))))] H := hP
  have hD : va_D A [(o, .inl (co, 1, .inr (.inr (.inr (.inl f)))))] := hD
  refine vx_catch (name := "java/lang/IndexOutOfBoundsException") hown [] ⟨0, 9, 12, 21⟩ [⟨0, 9, 16, 13⟩] htb (fun z hz => nomatch hz) (by decide) (by decide) (hts (.classLink RL 21 "java/lang/IndexOutOfBoundsException") (by decide +kernel)) (va_Nw.use rfl (hE.2.2.2.2.2.1 _ (by decide +kernel))) hce hcv hcl ?_
  refine lv_astore (lv' := [(4, .ref q9), (0, .ref x), (1, .int p0), (2, .int p1), (3, .ref o)]) hx hb dL_force_12 hl (by decide) rfl (fun ls hl => ?_)
  refine lv_iconst (v := 1) hx hb dL_force_14 (by decide) ?_
  exact end_i (v := 1) hx hb hr rfl hlocks hP hD hK hS () rfl [] [] rfl (by decide) rfl (Nat.le_of_ble_eq_true rfl) (Nat.le_of_ble_eq_true rfl) dL_force_15
set_option maxHeartbeats 4000000 in
set_option maxRecDepth 100000 in
/-- the law: ticks, its exception caught -/
theorem c_w_ticks (l : Launch) (hl9 : l.stackTraces = false) (D : va_G) (e0 sz : Nat) (x xk xb xo xa xt xp xs : Nat) (near : Int32) (o : Nat) (co : ClassId) (f : Nat → UInt64) (p0 p1 : Int32) : Ki (S := Unit) l yL_ticks wsL_ticks ({ frames := 8, cells := 1, slots := 6, locals := 128 } : Room) [.ref x, .int p0, .int p1, .ref o] D [(x, .inr (7, [.ref xk, .ref xb, .ref xo, .ref xa, .int near, .int 0, .int 0, .int 0])), (xb, .inr (3, [.ref xt, .ref xp, .ref xs, .int 0])), (xt, .inr (1, [.int 0, .ref e0, .int 0])), (o, .inl (co, 1, .inr (.inr (.inr (.inl f)))))] [(co, .double)] e0 sz (fun r _ => r = 1) (fun _ => []) (fun _ => []) 1 6 := by
  refine va_MetW (hh := [(0, 9, 12, 21), (0, 9, 16, 13)]) (cc := cL_ticks) (maxL := 5) (ret := (some .int)) (by decide) rfl ?_
  intro p e s m args below meth c s₁ B hml hv
  obtain ⟨rfl, hsz, hP, hK, hD0, hE⟩ := hv
  have hx := B.exec
  have hb := B.bytes
  have hr := B.returns
  have hts := atoms_spec (ws := wsL_ticks) B.pre
  have hown : s.vm.findClass RL = some m.cls := findClass_of_methodNamed B.named
  have hlocks := B.notSynchronized
  have htb : c.exceptionTable.toList = tableOf [(0, 9, 12, 21), (0, 9, 16, 13)] := vx_table (x := yL_ticks) B (hts _ List.mem_cons_self)
  subst hsz
  have hD := hD0.self (sz := s.heap.size)
  generalize hAe : va_A [(x, .inr (7, [.ref xk, .ref xb, .ref xo, .ref xa, .int near, .int 0, .int 0, .int 0])), (xb, .inr (3, [.ref xt, .ref xp, .ref xs, .int 0])), (xt, .inr (1, [.int 0, .ref e0, .int 0])), (o, .inl (co, 1, .inr (.inr (.inr (.inl f)))))] s.heap.size = A at hD hE ⊢
  have hA : ∀ q : Nat, s.heap.size ≤ q → A q := fun q h => by rw [← hAe]; exact Or.inr h
  have hS : va_S A s.heap s.heap [] := va_S.rf
  have hP : va_P D vwCl [(x, .inr (7, [.ref xk, .ref xb, .ref xo, .ref xa, .int near, .int 0, .int 0, .int 0])), (xb, .inr (3, [.ref xt, .ref xp, .ref xs, .int 0])), (xt, .inr (1, [.int 0, .ref e0, .int 0])), (o, .inl (co, 1, .inr (.inr (.inr (.inl f)))))] s.heap := hP
  have hl := lv_entry ([.ref x, .int p0, .int p1, .ref o]) (n := 5) (Nat.le_of_ble_eq_true rfl)
  rw [lg_entry_eq]
  generalize (lg_sl ([.ref x, .int p0, .int p1, .ref o]) ++ List.replicate (5 - (lg_sl ([.ref x, .int p0, .int p1, .ref o])).length) Slot.unset).toArray = ls at hl ⊢
  have hl : lv_has ls 5 [(0, .ref x), (1, .int p0), (2, .int p1), (3, .ref o)] := hl
  refine lv_aload_n hx hb dL_ticks_0 rfl (lv_at hl 3 rfl) ?_
  refine lv_iconst (v := 0) hx hb dL_ticks_1 (by decide) ?_
  refine lv_aload_n hx hb dL_ticks_2 rfl (lv_at hl 0 rfl) ?_
  refine lv_iload_n hx hb dL_ticks_3 rfl (lv_at hl 1 rfl) ?_
  refine lv_iload_n hx hb dL_ticks_4 rfl (lv_at hl 2 rfl) ?_
  refine kTV (As := [.int p0, .int p1]) (rest := [.int 0, .ref o]) (wr := [(o, .inl (co, 1, .inr (.inr (.inr (.inl f)))))]) ⟨hx, hb, hml, hown, hts⟩ (c_ticks l hl9 D e0 _ x xk xb xo xa xt xp xs near p0 p1) (cwV 2 hts gL_ticks_X5_ticks rfl rfl rfl (by decide +kernel) ⟨Nat.le_of_ble_eq_true rfl, Nat.le_of_ble_eq_true rfl⟩) hP hD hK hS hA hE rfl [0, 1, 2] [3] [] rfl rfl (by decide) (by decide) (by decide) rfl 7 0 rfl rfl rfl rfl hl.1 (Nat.le_of_ble_eq_true rfl) dL_ticks_5 ⟨Nat.le_of_ble_eq_true rfl, Nat.le_of_ble_eq_true rfl⟩ (fun ce q9 H locs hP hD hS hce hcv hcl => ?_)
  have hP : va_P D vwCl [(o, .inl (co, 1, .inr (.inr (.inr (.inl f)))))] H := hP
  have hD : va_D A [(o, .inl (co, 1, .inr (.inr (.inr (.inl f)))))] := hD
  refine vx_catch (name := "java/lang/IndexOutOfBoundsException") hown [] ⟨0, 9, 12, 21⟩ [⟨0, 9, 16, 13⟩] htb (fun z hz => nomatch hz) (by decide) (by decide) (hts (.classLink RL 21 "java/lang/IndexOutOfBoundsException") (by decide +kernel)) (va_Nw.use rfl (hE.2.2.2.2.2.1 _ (by decide +kernel))) hce hcv hcl ?_
  refine lv_astore (lv' := [(4, .ref q9), (0, .ref x), (1, .int p0), (2, .int p1), (3, .ref o)]) hx hb dL_ticks_12 hl (by decide) rfl (fun ls hl => ?_)
  refine lv_iconst (v := 1) hx hb dL_ticks_14 (by decide) ?_
  exact end_i (v := 1) hx hb hr rfl hlocks hP hD hK hS () rfl [] [] rfl (by decide) rfl (Nat.le_of_ble_eq_true rfl) (Nat.le_of_ble_eq_true rfl) dL_ticks_15
set_option maxHeartbeats 4000000 in
set_option maxRecDepth 100000 in
/-- the law: box, its exception caught -/
theorem c_w_box (l : Launch) (hl9 : l.stackTraces = false) (D : va_G) (e0 sz : Nat) (x xk xb xo xa : Nat) (near : Int32) (o : Nat) (co : ClassId) (f : Nat → Int64) (p0 : Int32) : Ki (S := Unit) l yL_box wsL_box ({ frames := 7, cells := 1, slots := 6, locals := 106 } : Room) [.ref x, .int p0, .ref o] D [(x, .inr (7, [.ref xk, .ref xb, .ref xo, .ref xa, .int near, .int 0, .int 0, .int 0])), (xk, .inr (1, [.int 0, .ref e0, .int 0])), (o, .inl (co, 1, .inr (.inl f)))] [(co, .long)] e0 sz (fun r _ => r = 1) (fun _ => []) (fun _ => []) 1 6 := by
  refine va_MetW (hh := [(0, 9, 12, 13), (0, 9, 15, 15)]) (cc := cL_box) (maxL := 4) (ret := (some .int)) (by decide) rfl ?_
  intro p e s m args below meth c s₁ B hml hv
  obtain ⟨rfl, hsz, hP, hK, hD0, hE⟩ := hv
  have hx := B.exec
  have hb := B.bytes
  have hr := B.returns
  have hts := atoms_spec (ws := wsL_box) B.pre
  have hown : s.vm.findClass RL = some m.cls := findClass_of_methodNamed B.named
  have hlocks := B.notSynchronized
  have htb : c.exceptionTable.toList = tableOf [(0, 9, 12, 13), (0, 9, 15, 15)] := vx_table (x := yL_box) B (hts _ List.mem_cons_self)
  subst hsz
  have hD := hD0.self (sz := s.heap.size)
  generalize hAe : va_A [(x, .inr (7, [.ref xk, .ref xb, .ref xo, .ref xa, .int near, .int 0, .int 0, .int 0])), (xk, .inr (1, [.int 0, .ref e0, .int 0])), (o, .inl (co, 1, .inr (.inl f)))] s.heap.size = A at hD hE ⊢
  have hA : ∀ q : Nat, s.heap.size ≤ q → A q := fun q h => by rw [← hAe]; exact Or.inr h
  have hS : va_S A s.heap s.heap [] := va_S.rf
  have hP : va_P D vwCl [(x, .inr (7, [.ref xk, .ref xb, .ref xo, .ref xa, .int near, .int 0, .int 0, .int 0])), (xk, .inr (1, [.int 0, .ref e0, .int 0])), (o, .inl (co, 1, .inr (.inl f)))] s.heap := hP
  have hl := lv_entry ([.ref x, .int p0, .ref o]) (n := 4) (Nat.le_of_ble_eq_true rfl)
  rw [lg_entry_eq]
  generalize (lg_sl ([.ref x, .int p0, .ref o]) ++ List.replicate (4 - (lg_sl ([.ref x, .int p0, .ref o])).length) Slot.unset).toArray = ls at hl ⊢
  have hl : lv_has ls 4 [(0, .ref x), (1, .int p0), (2, .ref o)] := hl
  refine lv_aload_n hx hb dL_box_0 rfl (lv_at hl 2 rfl) ?_
  refine lv_iconst (v := 0) hx hb dL_box_1 (by decide) ?_
  refine lv_aload_n hx hb dL_box_2 rfl (lv_at hl 0 rfl) ?_
  refine lv_iload_n hx hb dL_box_3 rfl (lv_at hl 1 rfl) ?_
  refine kTV (As := [.int p0]) (rest := [.int 0, .ref o]) (wr := [(o, .inl (co, 1, .inr (.inl f)))]) ⟨hx, hb, hml, hown, hts⟩ (c_box l hl9 D e0 _ x xk xb xo xa near p0) (cwV 1 hts gL_box_X5_box rfl rfl rfl (by decide +kernel) ⟨Nat.le_of_ble_eq_true rfl, Nat.le_of_ble_eq_true rfl⟩) hP hD hK hS hA hE rfl [0, 1] [2] [] rfl rfl (by decide) (by decide) (by decide) rfl 7 0 rfl rfl rfl rfl hl.1 (Nat.le_of_ble_eq_true rfl) dL_box_4 ⟨Nat.le_of_ble_eq_true rfl, Nat.le_of_ble_eq_true rfl⟩ (fun ce q9 H locs hP hD hS hce hcv hcl => ?_)
  have hP : va_P D vwCl [(o, .inl (co, 1, .inr (.inl f)))] H := hP
  have hD : va_D A [(o, .inl (co, 1, .inr (.inl f)))] := hD
  refine vx_catch (name := "java/lang/IllegalArgumentException") hown [] ⟨0, 9, 12, 13⟩ [⟨0, 9, 15, 15⟩] htb (fun z hz => nomatch hz) (by decide) (by decide) (hts (.classLink RL 13 "java/lang/IllegalArgumentException") (by decide +kernel)) (va_Nw.use rfl (hE.2.2.2.2.2.1 _ (by decide +kernel))) hce hcv hcl ?_
  refine lv_astore_n (lv' := [(3, .ref q9), (0, .ref x), (1, .int p0), (2, .ref o)]) hx hb dL_box_12 rfl hl (by decide) rfl (fun ls hl => ?_)
  refine lv_iconst (v := 1) hx hb dL_box_13 (by decide) ?_
  exact end_i (v := 1) hx hb hr rfl hlocks hP hD hK hS () rfl [] [] rfl (by decide) rfl (Nat.le_of_ble_eq_true rfl) (Nat.le_of_ble_eq_true rfl) dL_box_14
set_option maxHeartbeats 4000000 in
set_option maxRecDepth 100000 in
/-- the law: back, its exception caught -/
theorem c_w_back (l : Launch) (hl9 : l.stackTraces = false) (D : va_G) (e0 sz : Nat) (x xk xb xo xa : Nat) (near : Int32) (o : Nat) (co : ClassId) (f : Nat → Int64) : Ki (S := Unit) l yL_back wsL_back ({ frames := 7, cells := 1, slots := 6, locals := 105 } : Room) [.ref x, .ref o] D [(x, .inr (7, [.ref xk, .ref xb, .ref xo, .ref xa, .int near, .int 0, .int 0, .int 0])), (xa, .inr (2, [.int 0, .int 0, .int 0, .null, .int 0, .double 0])), (o, .inl (co, 1, .inr (.inl f)))] [(co, .long)] e0 sz (fun r _ => r = 1) (fun _ => []) (fun _ => []) 1 6 := by
  refine va_MetW (hh := [(0, 8, 11, 15)]) (cc := cL_back) (maxL := 3) (ret := (some .int)) (by decide) rfl ?_
  intro p e s m args below meth c s₁ B hml hv
  obtain ⟨rfl, hsz, hP, hK, hD0, hE⟩ := hv
  have hx := B.exec
  have hb := B.bytes
  have hr := B.returns
  have hts := atoms_spec (ws := wsL_back) B.pre
  have hown : s.vm.findClass RL = some m.cls := findClass_of_methodNamed B.named
  have hlocks := B.notSynchronized
  have htb : c.exceptionTable.toList = tableOf [(0, 8, 11, 15)] := vx_table (x := yL_back) B (hts _ List.mem_cons_self)
  subst hsz
  have hD := hD0.self (sz := s.heap.size)
  generalize hAe : va_A [(x, .inr (7, [.ref xk, .ref xb, .ref xo, .ref xa, .int near, .int 0, .int 0, .int 0])), (xa, .inr (2, [.int 0, .int 0, .int 0, .null, .int 0, .double 0])), (o, .inl (co, 1, .inr (.inl f)))] s.heap.size = A at hD hE ⊢
  have hA : ∀ q : Nat, s.heap.size ≤ q → A q := fun q h => by rw [← hAe]; exact Or.inr h
  have hS : va_S A s.heap s.heap [] := va_S.rf
  have hP : va_P D vwCl [(x, .inr (7, [.ref xk, .ref xb, .ref xo, .ref xa, .int near, .int 0, .int 0, .int 0])), (xa, .inr (2, [.int 0, .int 0, .int 0, .null, .int 0, .double 0])), (o, .inl (co, 1, .inr (.inl f)))] s.heap := hP
  have hl := lv_entry ([.ref x, .ref o]) (n := 3) (Nat.le_of_ble_eq_true rfl)
  rw [lg_entry_eq]
  generalize (lg_sl ([.ref x, .ref o]) ++ List.replicate (3 - (lg_sl ([.ref x, .ref o])).length) Slot.unset).toArray = ls at hl ⊢
  have hl : lv_has ls 3 [(0, .ref x), (1, .ref o)] := hl
  refine lv_aload_n hx hb dL_back_0 rfl (lv_at hl 1 rfl) ?_
  refine lv_iconst (v := 0) hx hb dL_back_1 (by decide) ?_
  refine lv_aload_n hx hb dL_back_2 rfl (lv_at hl 0 rfl) ?_
  refine kTV (As := []) (rest := [.int 0, .ref o]) (wr := [(o, .inl (co, 1, .inr (.inl f)))]) ⟨hx, hb, hml, hown, hts⟩ (c_back l hl9 D e0 _ x xk xb xo xa near) (cwV 0 hts gL_back_X5_back rfl rfl rfl (by decide +kernel) ⟨Nat.le_of_ble_eq_true rfl, Nat.le_of_ble_eq_true rfl⟩) hP hD hK hS hA hE rfl [0, 1] [2] [] rfl rfl (by decide) (by decide) (by decide) rfl 7 0 rfl rfl rfl rfl hl.1 (Nat.le_of_ble_eq_true rfl) dL_back_3 ⟨Nat.le_of_ble_eq_true rfl, Nat.le_of_ble_eq_true rfl⟩ (fun ce q9 H locs hP hD hS hce hcv hcl => ?_)
  have hP : va_P D vwCl [(o, .inl (co, 1, .inr (.inl f)))] H := hP
  have hD : va_D A [(o, .inl (co, 1, .inr (.inl f)))] := hD
  refine vx_catch (name := "java/lang/IllegalStateException") hown [] ⟨0, 8, 11, 15⟩ [] htb (fun z hz => nomatch hz) (by decide) (by decide) (hts (.classLink RL 15 "java/lang/IllegalStateException") (by decide +kernel)) (va_Nw.use rfl (hE.2.2.2.2.2.1 _ (by decide +kernel))) hce hcv hcl ?_
  refine lv_astore_n (lv' := [(2, .ref q9), (0, .ref x), (1, .ref o)]) hx hb dL_back_11 rfl hl (by decide) rfl (fun ls hl => ?_)
  refine lv_iconst (v := 1) hx hb dL_back_12 (by decide) ?_
  exact end_i (v := 1) hx hb hr rfl hlocks hP hD hK hS () rfl [] [] rfl (by decide) rfl (Nat.le_of_ble_eq_true rfl) (Nat.le_of_ble_eq_true rfl) dL_back_13
set_option maxHeartbeats 4000000 in
set_option maxRecDepth 100000 in
/-- the law: kind -/
theorem c_w_kind (l : Launch) (hl9 : l.stackTraces = false) (D : va_G) (e0 sz : Nat) (x xk xb xo xa : Nat) (near : Int32) (o : Nat) (co : ClassId) (f : Nat → Int64) (p0 p1 p2 p3 p4 p5 : Int32) : Ki (S := Nat → Int64) l yL_kind wsL_kind ({ frames := 7, cells := 2, slots := 17, locals := 130 } : Room) [.ref x, .int p0, .int p1, .int p2, .int p3, .int p4, .int p5, .ref o] D [(x, .inr (7, [.ref xk, .ref xb, .ref xo, .ref xa, .int near, .int 0, .int 0, .int 0])), (xk, .inr (1, [.int 0, .ref e0, .int 0])), (o, .inl (co, 1, .inr (.inl f)))] [(co, .long)] e0 sz (fun (r : Int32) (u : Nat → Int64) => (kdT p0 p1 p2 p3 p4 p5 = 0 ∧ r = 0 ∧ u 0 = 0) ∨ (kdT p0 p1 p2 p3 p4 p5 = 1 ∧ r = 1)) (fun (u : Nat → Int64) => [(o, .inl (co, 1, .inr (.inl u)))]) (fun _ => []) 2 17 := by
  refine va_MetW (hh := [(0, 18, 21, 13), (0, 18, 25, 15)]) (cc := cL_kind) (maxL := 9) (ret := (some .int)) (by decide) rfl ?_
  intro p e s m args below meth c s₁ B hml hv
  obtain ⟨rfl, hsz, hP, hK, hD0, hE⟩ := hv
  have hx := B.exec
  have hb := B.bytes
  have hr := B.returns
  have hts := atoms_spec (ws := wsL_kind) B.pre
  have hown : s.vm.findClass RL = some m.cls := findClass_of_methodNamed B.named
  have hlocks := B.notSynchronized
  have htb : c.exceptionTable.toList = tableOf [(0, 18, 21, 13), (0, 18, 25, 15)] := vx_table (x := yL_kind) B (hts _ List.mem_cons_self)
  subst hsz
  have hD := hD0.self (sz := s.heap.size)
  generalize hAe : va_A [(x, .inr (7, [.ref xk, .ref xb, .ref xo, .ref xa, .int near, .int 0, .int 0, .int 0])), (xk, .inr (1, [.int 0, .ref e0, .int 0])), (o, .inl (co, 1, .inr (.inl f)))] s.heap.size = A at hD hE ⊢
  have hA : ∀ q : Nat, s.heap.size ≤ q → A q := fun q h => by rw [← hAe]; exact Or.inr h
  have hS : va_S A s.heap s.heap [] := va_S.rf
  have hP : va_P D vwCl [(x, .inr (7, [.ref xk, .ref xb, .ref xo, .ref xa, .int near, .int 0, .int 0, .int 0])), (xk, .inr (1, [.int 0, .ref e0, .int 0])), (o, .inl (co, 1, .inr (.inl f)))] s.heap := hP
  have hl := lv_entry ([.ref x, .int p0, .int p1, .int p2, .int p3, .int p4, .int p5, .ref o]) (n := 9) (Nat.le_of_ble_eq_true rfl)
  rw [lg_entry_eq]
  generalize (lg_sl ([.ref x, .int p0, .int p1, .int p2, .int p3, .int p4, .int p5, .ref o]) ++ List.replicate (9 - (lg_sl ([.ref x, .int p0, .int p1, .int p2, .int p3, .int p4, .int p5, .ref o])).length) Slot.unset).toArray = ls at hl ⊢
  have hl : lv_has ls 9 [(0, .ref x), (1, .int p0), (2, .int p1), (3, .int p2), (4, .int p3), (5, .int p4), (6, .int p5), (7, .ref o)] := hl
  refine lv_aload hx hb dL_kind_0 (lv_at hl 7 rfl) ?_
  refine lv_iconst (v := 0) hx hb dL_kind_2 (by decide) ?_
  refine lv_aload_n hx hb dL_kind_3 rfl (lv_at hl 0 rfl) ?_
  refine lv_iload_n hx hb dL_kind_4 rfl (lv_at hl 1 rfl) ?_
  refine lv_iload_n hx hb dL_kind_5 rfl (lv_at hl 2 rfl) ?_
  refine lv_iload_n hx hb dL_kind_6 rfl (lv_at hl 3 rfl) ?_
  refine lv_iload hx hb dL_kind_7 (lv_at hl 4 rfl) ?_
  refine lv_iload hx hb dL_kind_9 (lv_at hl 5 rfl) ?_
  refine lv_iload hx hb dL_kind_11 (lv_at hl 6 rfl) ?_
  refine kXV_i (As := [.int p0, .int p1, .int p2, .int p3, .int p4, .int p5]) (rest := [.int 0, .ref o]) (wr := [(o, .inl (co, 1, .inr (.inl f)))]) ⟨hx, hb, hml, hown, hts⟩ (c_kind l hl9 D e0 _ x xk xb xo xa near p0 p1 p2 p3 p4 p5) (cwV 6 hts gL_kind_X5_kind rfl rfl rfl (by decide +kernel) ⟨Nat.le_of_ble_eq_true rfl, Nat.le_of_ble_eq_true rfl⟩) hP hD hK hS hA hE rfl [0, 1] [2] [] rfl rfl (by decide) (by decide) (by decide) rfl 7 0 rfl rfl rfl rfl hl.1 (Nat.le_of_ble_eq_true rfl) dL_kind_13 ⟨Nat.le_of_ble_eq_true rfl, Nat.le_of_ble_eq_true rfl⟩ (fun ce q9 H locs hpx hP hD hS hce hcv hcl => ?_) (fun r_1 u9 H locs hw hP hD hK hS => ?_)
  · refine vx_catch (name := "java/lang/IllegalArgumentException") hown [] ⟨0, 18, 21, 13⟩ [⟨0, 18, 25, 15⟩] htb (fun z hz => nomatch hz) (by decide) (by decide) (hts (.classLink RL 13 "java/lang/IllegalArgumentException") (by decide +kernel)) (va_Nw.use rfl (hE.2.2.2.2.2.1 _ (by decide +kernel))) hce hcv hcl ?_
    refine lv_astore (lv' := [(8, .ref q9), (0, .ref x), (1, .int p0), (2, .int p1), (3, .int p2), (4, .int p3), (5, .int p4), (6, .int p5), (7, .ref o)]) hx hb dL_kind_21 hl (by decide) rfl (fun ls hl => ?_)
    refine lv_iconst (v := 1) hx hb dL_kind_23 (by decide) ?_
    exact end_i (v := 1) hx hb hr rfl hlocks hP hD hK hS f (Or.inr ⟨hpx, rfl⟩) [0] [] rfl (by decide) rfl (Nat.le_of_ble_eq_true rfl) (Nat.le_of_ble_eq_true rfl) dL_kind_24
  · skip
    have hw0 := hw.1
    have hw : r_1 = 0 := hw.2
    subst hw
    have hP : va_P D vwCl [(o, .inl (co, 1, .inr (.inl f)))] H := hP
    have hD : va_D A [(o, .inl (co, 1, .inr (.inl f)))] := hD
    have hK : va_K D vwCl [(co, .long)] s := hK
    refine lv_i2l (v := 0) hx hb dL_kind_16 (by decide) ?_
    refine va_last hx hb hK hP hD hS 0 0 rfl rfl (by unfold vp_in; decide) dL_kind_17 (fun H locs hP hD hS => ?_)
    have hP : va_P D vwCl [(o, .inl (co, 1, .inr (.inl (vp_updL f (0 : Int32).toNatClampNeg 0))))] H := hP
    have hD : va_D A [(o, .inl (co, 1, .inr (.inl (vp_updL f (0 : Int32).toNatClampNeg 0))))] := hD
    refine lv_goto (tgt := 29) hx hb dL_kind_18 (by decide) ?_
    refine lv_iconst (v := 0) hx hb dL_kind_29 (by decide) ?_
    exact end_i (v := 0) hx hb hr rfl hlocks hP hD hK hS (vp_updL f (0 : Int32).toNatClampNeg 0) (Or.inl ⟨hw0, rfl, rfl⟩) [0] [] rfl (by decide) rfl (Nat.le_of_ble_eq_true rfl) (Nat.le_of_ble_eq_true rfl) dL_kind_30
set_option maxHeartbeats 4000000 in
set_option maxRecDepth 100000 in
/-- the law: seen -/
theorem c_w_seen (l : Launch) (hl9 : l.stackTraces = false) (D : va_G) (e0 sz : Nat) (x xk xb xo xa xt xp xs : Nat) (cxs : ClassId) (g : Nat → Int32) (near : Int32) (o : Nat) (co : ClassId) (f : Nat → Int64) (p0 p1 : Int32) (hg : ∀ j, j < 36 → g j = -1) : Ki (S := Nat → Int64) l yL_seen wsL_seen ({ frames := 7, cells := 1, slots := 6, locals := 106 } : Room) [.ref x, .int p0, .int p1, .ref o] D [(x, .inr (7, [.ref xk, .ref xb, .ref xo, .ref xa, .int near, .int 0, .int 0, .int 0])), (xb, .inr (3, [.ref xt, .ref xp, .ref xs, .int 0])), (xs, .inl (cxs, 36, .inl g)), (o, .inl (co, 1, .inr (.inl f)))] [(cxs, .int), (co, .long)] e0 sz (fun (r : Int32) (u : Nat → Int64) => ((0 ≤ p0 ∧ 0 ≤ p1 ∧ p0 ≤ 5 ∧ p1 ≤ 5) ∧ r = 0 ∧ u 0 = (-1)) ∨ (¬ (0 ≤ p0 ∧ 0 ≤ p1 ∧ p0 ≤ 5 ∧ p1 ≤ 5) ∧ r = 1)) (fun (u : Nat → Int64) => [(o, .inl (co, 1, .inr (.inl u)))]) (fun _ => []) 1 6 := by
  refine va_MetW (hh := [(0, 10, 13, 21)]) (cc := cL_seen) (maxL := 5) (ret := (some .int)) (by decide) rfl ?_
  intro p e s m args below meth c s₁ B hml hv
  obtain ⟨rfl, hsz, hP, hK, hD0, hE⟩ := hv
  have hx := B.exec
  have hb := B.bytes
  have hr := B.returns
  have hts := atoms_spec (ws := wsL_seen) B.pre
  have hown : s.vm.findClass RL = some m.cls := findClass_of_methodNamed B.named
  have hlocks := B.notSynchronized
  have htb : c.exceptionTable.toList = tableOf [(0, 10, 13, 21)] := vx_table (x := yL_seen) B (hts _ List.mem_cons_self)
  subst hsz
  have hD := hD0.self (sz := s.heap.size)
  generalize hAe : va_A [(x, .inr (7, [.ref xk, .ref xb, .ref xo, .ref xa, .int near, .int 0, .int 0, .int 0])), (xb, .inr (3, [.ref xt, .ref xp, .ref xs, .int 0])), (xs, .inl (cxs, 36, .inl g)), (o, .inl (co, 1, .inr (.inl f)))] s.heap.size = A at hD hE ⊢
  have hA : ∀ q : Nat, s.heap.size ≤ q → A q := fun q h => by rw [← hAe]; exact Or.inr h
  have hS : va_S A s.heap s.heap [] := va_S.rf
  have hP : va_P D vwCl [(x, .inr (7, [.ref xk, .ref xb, .ref xo, .ref xa, .int near, .int 0, .int 0, .int 0])), (xb, .inr (3, [.ref xt, .ref xp, .ref xs, .int 0])), (xs, .inl (cxs, 36, .inl g)), (o, .inl (co, 1, .inr (.inl f)))] s.heap := hP
  have hl := lv_entry ([.ref x, .int p0, .int p1, .ref o]) (n := 5) (Nat.le_of_ble_eq_true rfl)
  rw [lg_entry_eq]
  generalize (lg_sl ([.ref x, .int p0, .int p1, .ref o]) ++ List.replicate (5 - (lg_sl ([.ref x, .int p0, .int p1, .ref o])).length) Slot.unset).toArray = ls at hl ⊢
  have hl : lv_has ls 5 [(0, .ref x), (1, .int p0), (2, .int p1), (3, .ref o)] := hl
  refine lv_aload_n hx hb dL_seen_0 rfl (lv_at hl 3 rfl) ?_
  refine lv_iconst (v := 0) hx hb dL_seen_1 (by decide) ?_
  refine lv_aload_n hx hb dL_seen_2 rfl (lv_at hl 0 rfl) ?_
  refine lv_iload_n hx hb dL_seen_3 rfl (lv_at hl 1 rfl) ?_
  refine lv_iload_n hx hb dL_seen_4 rfl (lv_at hl 2 rfl) ?_
  refine kXV_i (As := [.int p0, .int p1]) (rest := [.int 0, .ref o]) (wr := [(o, .inl (co, 1, .inr (.inl f)))]) ⟨hx, hb, hml, hown, hts⟩ (c_seen l hl9 D e0 _ x xk xb xo xa xt xp xs cxs g near p0 p1 hg) (cwV 2 hts gL_seen_X5_seen rfl rfl rfl (by decide +kernel) ⟨Nat.le_of_ble_eq_true rfl, Nat.le_of_ble_eq_true rfl⟩) hP hD hK hS hA hE rfl [0, 1, 2] [3] [0] rfl rfl (by decide) (by decide) (by decide) rfl 7 0 rfl rfl rfl rfl hl.1 (Nat.le_of_ble_eq_true rfl) dL_seen_5 ⟨Nat.le_of_ble_eq_true rfl, Nat.le_of_ble_eq_true rfl⟩ (fun ce q9 H locs hpx hP hD hS hce hcv hcl => ?_) (fun r_1 u9 H locs hw hP hD hK hS => ?_)
  · refine vx_catch (name := "java/lang/IndexOutOfBoundsException") hown [] ⟨0, 10, 13, 21⟩ [] htb (fun z hz => nomatch hz) (by decide) (by decide) (hts (.classLink RL 21 "java/lang/IndexOutOfBoundsException") (by decide +kernel)) (va_Nw.use rfl (hE.2.2.2.2.2.1 _ (by decide +kernel))) hce hcv hcl ?_
    refine lv_astore (lv' := [(4, .ref q9), (0, .ref x), (1, .int p0), (2, .int p1), (3, .ref o)]) hx hb dL_seen_13 hl (by decide) rfl (fun ls hl => ?_)
    refine lv_iconst (v := 1) hx hb dL_seen_15 (by decide) ?_
    exact end_i (v := 1) hx hb hr rfl hlocks hP hD hK hS f (Or.inr ⟨hpx, rfl⟩) [0] [] rfl (by decide) rfl (Nat.le_of_ble_eq_true rfl) (Nat.le_of_ble_eq_true rfl) dL_seen_16
  · skip
    have hw0 := hw.1
    have hw : r_1 = (-1) := hw.2
    subst hw
    have hP : va_P D vwCl [(o, .inl (co, 1, .inr (.inl f)))] H := hP
    have hD : va_D A [(o, .inl (co, 1, .inr (.inl f)))] := hD
    have hK : va_K D vwCl [(cxs, .int), (co, .long)] s := hK
    refine lv_i2l (v := (-1)) hx hb dL_seen_8 (by decide) ?_
    refine va_last hx hb hK hP hD hS 0 1 rfl rfl (by unfold vp_in; decide) dL_seen_9 (fun H locs hP hD hS => ?_)
    have hP : va_P D vwCl [(o, .inl (co, 1, .inr (.inl (vp_updL f (0 : Int32).toNatClampNeg (-1)))))] H := hP
    have hD : va_D A [(o, .inl (co, 1, .inr (.inl (vp_updL f (0 : Int32).toNatClampNeg (-1)))))] := hD
    refine lv_goto (tgt := 17) hx hb dL_seen_10 (by decide) ?_
    refine lv_iconst (v := 0) hx hb dL_seen_17 (by decide) ?_
    exact end_i (v := 0) hx hb hr rfl hlocks hP hD hK hS (vp_updL f (0 : Int32).toNatClampNeg (-1)) (Or.inl ⟨hw0, rfl, rfl⟩) [0] [] rfl (by decide) rfl (Nat.le_of_ble_eq_true rfl) (Nat.le_of_ble_eq_true rfl) dL_seen_18
set_option maxHeartbeats 4000000 in
set_option maxRecDepth 100000 in
/-- the law: many -/
theorem c_w_many (l : Launch) (hl9 : l.stackTraces = false) (D : va_G) (e0 sz : Nat) (x xk xb xo xa xt xp xs : Nat) (cxp : ClassId) (near : Int32) (o : Nat) (co : ClassId) (f : Nat → Int64) (p0 : Int32) : Ki (S := Nat → Int64) l yL_many wsL_many ({ frames := 7, cells := 1, slots := 6, locals := 105 } : Room) [.ref x, .int p0, .ref o] D [(x, .inr (7, [.ref xk, .ref xb, .ref xo, .ref xa, .int near, .int 0, .int 0, .int 0])), (xk, .inr (1, [.int 0, .ref e0, .int 0])), (xb, .inr (3, [.ref xt, .ref xp, .ref xs, .int 0])), (xt, .inr (1, [.int 0, .ref e0, .int 0])), (xp, .inl (cxp, 36, .inl (fun _ => 0))), (xo, .inr (1, [.int 0, .ref e0, .int 0])), (xa, .inr (2, [.int 0, .int 0, .int 0, .null, .int 0, .double 0])), (o, .inl (co, 1, .inr (.inl f)))] [(cxp, .int), (co, .long)] e0 sz (fun (r : Int32) (u : Nat → Int64) => ((0 ≤ p0 ∧ p0 ≤ 12) ∧ r = 0 ∧ u 0 = ((manyF p0) : Int32).toInt64) ∨ (¬ (0 ≤ p0 ∧ p0 ≤ 12) ∧ r = 1)) (fun (u : Nat → Int64) => [(o, .inl (co, 1, .inr (.inl u)))]) (fun _ => []) 1 6 := by
  refine va_MetW (hh := [(0, 9, 12, 13)]) (cc := cL_many) (maxL := 4) (ret := (some .int)) (by decide) rfl ?_
  intro p e s m args below meth c s₁ B hml hv
  obtain ⟨rfl, hsz, hP, hK, hD0, hE⟩ := hv
  have hx := B.exec
  have hb := B.bytes
  have hr := B.returns
  have hts := atoms_spec (ws := wsL_many) B.pre
  have hown : s.vm.findClass RL = some m.cls := findClass_of_methodNamed B.named
  have hlocks := B.notSynchronized
  have htb : c.exceptionTable.toList = tableOf [(0, 9, 12, 13)] := vx_table (x := yL_many) B (hts _ List.mem_cons_self)
  subst hsz
  have hD := hD0.self (sz := s.heap.size)
  generalize hAe : va_A [(x, .inr (7, [.ref xk, .ref xb, .ref xo, .ref xa, .int near, .int 0, .int 0, .int 0])), (xk, .inr (1, [.int 0, .ref e0, .int 0])), (xb, .inr (3, [.ref xt, .ref xp, .ref xs, .int 0])), (xt, .inr (1, [.int 0, .ref e0, .int 0])), (xp, .inl (cxp, 36, .inl (fun _ => 0))), (xo, .inr (1, [.int 0, .ref e0, .int 0])), (xa, .inr (2, [.int 0, .int 0, .int 0, .null, .int 0, .double 0])), (o, .inl (co, 1, .inr (.inl f)))] s.heap.size = A at hD hE ⊢
  have hA : ∀ q : Nat, s.heap.size ≤ q → A q := fun q h => by rw [← hAe]; exact Or.inr h
  have hS : va_S A s.heap s.heap [] := va_S.rf
  have hP : va_P D vwCl [(x, .inr (7, [.ref xk, .ref xb, .ref xo, .ref xa, .int near, .int 0, .int 0, .int 0])), (xk, .inr (1, [.int 0, .ref e0, .int 0])), (xb, .inr (3, [.ref xt, .ref xp, .ref xs, .int 0])), (xt, .inr (1, [.int 0, .ref e0, .int 0])), (xp, .inl (cxp, 36, .inl (fun _ => 0))), (xo, .inr (1, [.int 0, .ref e0, .int 0])), (xa, .inr (2, [.int 0, .int 0, .int 0, .null, .int 0, .double 0])), (o, .inl (co, 1, .inr (.inl f)))] s.heap := hP
  have hl := lv_entry ([.ref x, .int p0, .ref o]) (n := 4) (Nat.le_of_ble_eq_true rfl)
  rw [lg_entry_eq]
  generalize (lg_sl ([.ref x, .int p0, .ref o]) ++ List.replicate (4 - (lg_sl ([.ref x, .int p0, .ref o])).length) Slot.unset).toArray = ls at hl ⊢
  have hl : lv_has ls 4 [(0, .ref x), (1, .int p0), (2, .ref o)] := hl
  refine lv_aload_n hx hb dL_many_0 rfl (lv_at hl 2 rfl) ?_
  refine lv_iconst (v := 0) hx hb dL_many_1 (by decide) ?_
  refine lv_aload_n hx hb dL_many_2 rfl (lv_at hl 0 rfl) ?_
  refine lv_iload_n hx hb dL_many_3 rfl (lv_at hl 1 rfl) ?_
  refine kXV_i (As := [.int p0]) (rest := [.int 0, .ref o]) (wr := [(o, .inl (co, 1, .inr (.inl f)))]) ⟨hx, hb, hml, hown, hts⟩ (c_many l hl9 D e0 _ x xk xb xo xa xt xp xs cxp near p0) (cwV 1 hts gL_many_X5_many rfl rfl rfl (by decide +kernel) ⟨Nat.le_of_ble_eq_true rfl, Nat.le_of_ble_eq_true rfl⟩) hP hD hK hS hA hE rfl [0, 1, 2, 3, 4, 5, 6] [7] [0] rfl rfl (by decide) (by decide) (by decide) rfl 7 0 rfl rfl rfl rfl hl.1 (Nat.le_of_ble_eq_true rfl) dL_many_4 ⟨Nat.le_of_ble_eq_true rfl, Nat.le_of_ble_eq_true rfl⟩ (fun ce q9 H locs hpx hP hD hS hce hcv hcl => ?_) (fun r_1 u9 H locs hw hP hD hK hS => ?_)
  · refine vx_catch (name := "java/lang/IllegalArgumentException") hown [] ⟨0, 9, 12, 13⟩ [] htb (fun z hz => nomatch hz) (by decide) (by decide) (hts (.classLink RL 13 "java/lang/IllegalArgumentException") (by decide +kernel)) (va_Nw.use rfl (hE.2.2.2.2.2.1 _ (by decide +kernel))) hce hcv hcl ?_
    refine lv_astore_n (lv' := [(3, .ref q9), (0, .ref x), (1, .int p0), (2, .ref o)]) hx hb dL_many_12 rfl hl (by decide) rfl (fun ls hl => ?_)
    refine lv_iconst (v := 1) hx hb dL_many_13 (by decide) ?_
    exact end_i (v := 1) hx hb hr rfl hlocks hP hD hK hS f (Or.inr ⟨hpx, rfl⟩) [0] [] rfl (by decide) rfl (Nat.le_of_ble_eq_true rfl) (Nat.le_of_ble_eq_true rfl) dL_many_14
  · skip
    have hw0 := hw.1
    have hw : r_1 = (manyF p0) := hw.2
    subst hw
    have hP : va_P D vwCl [(o, .inl (co, 1, .inr (.inl f))), (x, .inr (7, [.ref xk, .ref xb, .ref xo, .ref xa, .int near, .int 0, .int 0, .int 0])), (xk, .inr (1, [.int 0, .ref e0, .int 0])), (xb, .inr (3, [.ref xt, .ref xp, .ref xs, .int 0])), (xt, .inr (1, [.int 0, .ref e0, .int 0])), (xp, .inl (cxp, 36, .inl (fun _ => 0))), (xo, .inr (1, [.int 0, .ref e0, .int 0])), (xa, .inr (2, [.int 0, .int 0, .int 0, .null, .int 0, .double 0]))] H := hP
    have hD : va_D A [(o, .inl (co, 1, .inr (.inl f))), (x, .inr (7, [.ref xk, .ref xb, .ref xo, .ref xa, .int near, .int 0, .int 0, .int 0])), (xk, .inr (1, [.int 0, .ref e0, .int 0])), (xb, .inr (3, [.ref xt, .ref xp, .ref xs, .int 0])), (xt, .inr (1, [.int 0, .ref e0, .int 0])), (xp, .inl (cxp, 36, .inl (fun _ => 0))), (xo, .inr (1, [.int 0, .ref e0, .int 0])), (xa, .inr (2, [.int 0, .int 0, .int 0, .null, .int 0, .double 0]))] := hD
    have hK : va_K D vwCl [(cxp, .int), (co, .long)] s := hK
    refine lv_i2l (v := (manyF p0).toInt64) hx hb dL_many_7 rfl ?_
    refine va_last hx hb hK hP hD hS 0 1 rfl rfl (by unfold vp_in; decide) dL_many_8 (fun H locs hP hD hS => ?_)
    have hP : va_P D vwCl [(o, .inl (co, 1, .inr (.inl (vp_updL f (0 : Int32).toNatClampNeg ((manyF p0).toInt64))))), (x, .inr (7, [.ref xk, .ref xb, .ref xo, .ref xa, .int near, .int 0, .int 0, .int 0])), (xk, .inr (1, [.int 0, .ref e0, .int 0])), (xb, .inr (3, [.ref xt, .ref xp, .ref xs, .int 0])), (xt, .inr (1, [.int 0, .ref e0, .int 0])), (xp, .inl (cxp, 36, .inl (fun _ => 0))), (xo, .inr (1, [.int 0, .ref e0, .int 0])), (xa, .inr (2, [.int 0, .int 0, .int 0, .null, .int 0, .double 0]))] H := hP
    have hD : va_D A [(o, .inl (co, 1, .inr (.inl (vp_updL f (0 : Int32).toNatClampNeg ((manyF p0).toInt64))))), (x, .inr (7, [.ref xk, .ref xb, .ref xo, .ref xa, .int near, .int 0, .int 0, .int 0])), (xk, .inr (1, [.int 0, .ref e0, .int 0])), (xb, .inr (3, [.ref xt, .ref xp, .ref xs, .int 0])), (xt, .inr (1, [.int 0, .ref e0, .int 0])), (xp, .inl (cxp, 36, .inl (fun _ => 0))), (xo, .inr (1, [.int 0, .ref e0, .int 0])), (xa, .inr (2, [.int 0, .int 0, .int 0, .null, .int 0, .double 0]))] := hD
    refine lv_goto (tgt := 15) hx hb dL_many_9 (by decide) ?_
    refine lv_iconst (v := 0) hx hb dL_many_15 (by decide) ?_
    exact end_i (v := 0) hx hb hr rfl hlocks hP hD hK hS (vp_updL f (0 : Int32).toNatClampNeg ((manyF p0).toInt64)) (Or.inl ⟨hw0, rfl, rfl⟩) [0] [] rfl (by decide) rfl (Nat.le_of_ble_eq_true rfl) (Nat.le_of_ble_eq_true rfl) dL_many_16
