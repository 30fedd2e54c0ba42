set_option maxRecDepth 20000 in
theorem ggX5_fall_X5_kindNumbered : GoodIn wsX5_fall wsX5_kindNumbered := goodIn_ca (goodIn_r _ [17, 18, 19, 20, 21, 22, 23, 24, 25, 26, 27, 28, 29, 30, 31, 32, 33, 34, 35, 36, 37, 38, 39, 40, 41, 42, 43, 44, 174, 175, 176, 177, 178, 179, 180, 181, 196, 197, 198] (by decide +kernel) (by decide +kernel)) (goodIn_sub (fun _ h => List.mem_cons_of_mem _ (List.mem_append_right _ h)) (by decide +kernel))
set_option maxRecDepth 20000 in
theorem gX5_fall_X5_kindNumbered : GoodIn wsX5_fall (wsV RX5 76 RX5 yX5_kindNumbered wsX5_kindNumbered) := goodIn_app (goodIn_of _ (by decide +kernel)) ggX5_fall_X5_kindNumbered
theorem dX5_fall_0 : decode cX5_fall 0 = .ok (.aload_n 0, 1) := by decide +kernel
theorem dX5_fall_1 : decode cX5_fall 1 = .ok (.iload_n 1, 1) := by decide +kernel
theorem dX5_fall_2 : decode cX5_fall 2 = .ok (.invokevirtual 76, 3) := by decide +kernel
set_option maxRecDepth 20000 in
theorem ggX5_tangle_X5_thingNumbered : GoodIn wsX5_tangle wsX5_thingNumbered := goodIn_ca (goodIn_r _ [10, 11, 12, 13, 14, 15, 16, 17, 18, 19, 20, 21, 22, 23, 24, 25, 26, 27, 28, 29, 30, 31, 32, 33, 34, 35, 36, 37, 38, 67, 68, 69, 70, 71, 72, 73, 74, 75, 76, 77, 78, 79, 80, 81] (by decide +kernel) (by decide +kernel)) (goodIn_sub (fun _ h => List.mem_cons_of_mem _ (List.mem_append_right _ h)) (by decide +kernel))
set_option maxRecDepth 20000 in
theorem gX5_tangle_X5_thingNumbered : GoodIn wsX5_tangle (wsV RX5 109 RX5 yX5_thingNumbered wsX5_thingNumbered) := goodIn_app (goodIn_of _ (by decide +kernel)) ggX5_tangle_X5_thingNumbered
theorem dX5_tangle_0 : decode cX5_tangle 0 = .ok (.aload_n 0, 1) := by decide +kernel
theorem dX5_tangle_1 : decode cX5_tangle 1 = .ok (.iload_n 1, 1) := by decide +kernel
theorem dX5_tangle_2 : decode cX5_tangle 2 = .ok (.invokevirtual 109, 3) := by decide +kernel
set_option maxRecDepth 20000 in
theorem ggX5_shake_X5_thingNumbered : GoodIn wsX5_shake wsX5_thingNumbered := goodIn_ca (goodIn_r _ [7, 8, 9, 2, 10, 11, 12, 13, 14, 15, 16, 17, 18, 19, 20, 21, 22, 23, 24, 25, 26, 27, 28, 29, 30, 31, 32, 33, 34, 68, 69, 70, 71, 72, 73, 74, 75, 76, 77, 78, 79, 80, 81, 82] (by decide +kernel) (by decide +kernel)) (goodIn_sub (fun _ h => List.mem_cons_of_mem _ (List.mem_append_right _ h)) (by decide +kernel))
set_option maxRecDepth 20000 in
theorem gX5_shake_X5_thingNumbered : GoodIn wsX5_shake (wsV RX5 109 RX5 yX5_thingNumbered wsX5_thingNumbered) := goodIn_app (goodIn_of _ (by decide +kernel)) ggX5_shake_X5_thingNumbered
theorem dX5_shake_0 : decode cX5_shake 0 = .ok (.aload_n 0, 1) := by decide +kernel
theorem dX5_shake_1 : decode cX5_shake 1 = .ok (.iload_n 1, 1) := by decide +kernel
theorem dX5_shake_2 : decode cX5_shake 2 = .ok (.invokevirtual 109, 3) := by decide +kernel
set_option maxRecDepth 20000 in
theorem ggX5_pick_X5_thingNumbered : GoodIn wsX5_pick wsX5_thingNumbered := goodIn_ca (goodIn_r _ [12, 13, 14, 7, 15, 16, 17, 18, 19, 20, 21, 22, 23, 24, 25, 26, 27, 28, 29, 30, 31, 32, 33, 34, 35, 36, 37, 38, 39, 247, 248, 249, 250, 251, 252, 253, 254, 261, 262, 263, 264, 265, 266, 267] (by decide +kernel) (by decide +kernel)) (goodIn_sub (fun _ h => List.mem_cons_of_mem _ (List.mem_append_left _ (List.mem_append_right _ h))) (by decide +kernel))
set_option maxRecDepth 20000 in
theorem gX5_pick_X5_thingNumbered : GoodIn wsX5_pick (wsV RX5 109 RX5 yX5_thingNumbered wsX5_thingNumbered) := goodIn_app (goodIn_of _ (by decide +kernel)) ggX5_pick_X5_thingNumbered
theorem dX5_pick_0 : decode cX5_pick 0 = .ok (.aload_n 0, 1) := by decide +kernel
theorem dX5_pick_1 : decode cX5_pick 1 = .ok (.iload_n 1, 1) := by decide +kernel
theorem dX5_pick_2 : decode cX5_pick 2 = .ok (.invokevirtual 109, 3) := by decide +kernel
set_option maxRecDepth 20000 in
theorem ggX5_put_X5_boxNumbered : GoodIn wsX5_put wsX5_boxNumbered := goodIn_ca (goodIn_r _ [15, 16, 17, 18, 19, 20, 21, 22, 23, 24, 25, 26, 27, 28, 29, 30, 31, 32, 33, 34, 35, 36, 37, 38, 39, 40, 41, 42, 138, 139, 140, 141, 142, 143, 144, 145, 166, 167, 168] (by decide +kernel) (by decide +kernel)) (goodIn_sub (fun _ h => List.mem_cons_of_mem _ (List.mem_append_right _ h)) (by decide +kernel))
set_option maxRecDepth 20000 in
theorem gX5_put_X5_boxNumbered : GoodIn wsX5_put (wsV RX5 181 RX5 yX5_boxNumbered wsX5_boxNumbered) := goodIn_app (goodIn_of _ (by decide +kernel)) ggX5_put_X5_boxNumbered
theorem dX5_put_0 : decode cX5_put 0 = .ok (.aload_n 0, 1) := by decide +kernel
theorem dX5_put_1 : decode cX5_put 1 = .ok (.iload_n 1, 1) := by decide +kernel
theorem dX5_put_2 : decode cX5_put 2 = .ok (.invokevirtual 181, 3) := by decide +kernel
theorem dX5_back_0 : decode cX5_back 0 = .ok (.aload_n 0, 1) := by decide +kernel
theorem dX5_back_1 : decode cX5_back 1 = .ok (.getfield 29, 3) := by decide +kernel
theorem dX5_back_4 : decode cX5_back 4 = .ok (.getfield 158, 3) := by decide +kernel
theorem dX5_back_7 : decode cX5_back 7 = .ok (.astore_n 1, 1) := by decide +kernel
theorem dX5_back_8 : decode cX5_back 8 = .ok (.aload_n 1, 1) := by decide +kernel
theorem dX5_back_9 : decode cX5_back 9 = .ok (.ifnonnull 13, 3) := by decide +kernel
theorem dX5_back_12 : decode cX5_back 12 = .ok (.new 62, 3) := by decide +kernel
theorem dX5_back_15 : decode cX5_back 15 = .ok (.dup, 1) := by decide +kernel
theorem dX5_back_16 : decode cX5_back 16 = .ok (.ldc 209, 2) := by decide +kernel
theorem dX5_back_18 : decode cX5_back 18 = .ok (.invokespecial 66, 3) := by decide +kernel
theorem dX5_back_21 : decode cX5_back 21 = .ok (.athrow, 1) := by decide +kernel
set_option maxRecDepth 20000 in
theorem ggX5_close_X5_boxNumbered : GoodIn wsX5_close wsX5_boxNumbered := goodIn_ca (goodIn_r _ [8, 9, 10, 11, 12, 13, 14, 15, 16, 17, 18, 19, 20, 21, 22, 23, 24, 25, 26, 27, 28, 29, 30, 31, 32, 33, 34, 35, 48, 49, 50, 51, 52, 53, 54, 55, 56, 57, 58] (by decide +kernel) (by decide +kernel)) (goodIn_sub (fun _ h => List.mem_cons_of_mem _ (List.mem_append_right _ h)) (by decide +kernel))
set_option maxRecDepth 20000 in
theorem gX5_close_X5_boxNumbered : GoodIn wsX5_close (wsV RX5 181 RX5 yX5_boxNumbered wsX5_boxNumbered) := goodIn_app (goodIn_of _ (by decide +kernel)) ggX5_close_X5_boxNumbered
theorem dX5_close_0 : decode cX5_close 0 = .ok (.aload_n 0, 1) := by decide +kernel
theorem dX5_close_1 : decode cX5_close 1 = .ok (.iload_n 1, 1) := by decide +kernel
theorem dX5_close_2 : decode cX5_close 2 = .ok (.invokevirtual 181, 3) := by decide +kernel
set_option maxRecDepth 20000 in
theorem ggX5_ofKind_X5_kindNumbered : GoodIn wsX5_ofKind wsX5_kindNumbered := goodIn_ca (goodIn_r _ [14, 15, 16, 17, 18, 19, 20, 21, 22, 23, 24, 25, 26, 27, 28, 29, 30, 31, 32, 33, 34, 35, 36, 37, 38, 39, 40, 41, 65, 66, 67, 68, 69, 70, 71, 72, 73, 74, 75] (by decide +kernel) (by decide +kernel)) (goodIn_sub (fun _ h => List.mem_cons_of_mem _ (List.mem_append_right _ h)) (by decide +kernel))
set_option maxRecDepth 20000 in
theorem gX5_ofKind_X5_kindNumbered : GoodIn wsX5_ofKind (wsV RX5 76 RX5 yX5_kindNumbered wsX5_kindNumbered) := goodIn_app (goodIn_of _ (by decide +kernel)) ggX5_ofKind_X5_kindNumbered
theorem dX5_ofKind_0 : decode cX5_ofKind 0 = .ok (.aload_n 0, 1) := by decide +kernel
theorem dX5_ofKind_1 : decode cX5_ofKind 1 = .ok (.iload_n 1, 1) := by decide +kernel
theorem dX5_ofKind_2 : decode cX5_ofKind 2 = .ok (.invokevirtual 76, 3) := by decide +kernel
set_option maxRecDepth 20000 in
theorem ggX5_ofThing_X5_thingNumbered : GoodIn wsX5_ofThing wsX5_thingNumbered := goodIn_ca (goodIn_r _ [17, 18, 19, 10, 20, 21, 22, 23, 24, 25, 26, 27, 28, 29, 30, 31, 32, 33, 34, 35, 36, 37, 38, 39, 40, 41, 42, 43, 44, 115, 116, 117, 118, 119, 120, 121, 122, 123, 124, 125, 126, 127, 128, 129] (by decide +kernel) (by decide +kernel)) (goodIn_sub (fun _ h => List.mem_cons_of_mem _ (List.mem_append_right _ h)) (by decide +kernel))
set_option maxRecDepth 20000 in
theorem gX5_ofThing_X5_thingNumbered : GoodIn wsX5_ofThing (wsV RX5 109 RX5 yX5_thingNumbered wsX5_thingNumbered) := goodIn_app (goodIn_of _ (by decide +kernel)) ggX5_ofThing_X5_thingNumbered
theorem dX5_ofThing_0 : decode cX5_ofThing 0 = .ok (.aload_n 0, 1) := by decide +kernel
theorem dX5_ofThing_1 : decode cX5_ofThing 1 = .ok (.iload_n 1, 1) := by decide +kernel
theorem dX5_ofThing_2 : decode cX5_ofThing 2 = .ok (.invokevirtual 109, 3) := by decide +kernel
set_option maxRecDepth 20000 in
theorem ggX5_hinders_X5_thingNumbered : GoodIn wsX5_hinders wsX5_thingNumbered := goodIn_ca (goodIn_r _ [5, 6, 7, 8, 9, 10, 11, 12, 13, 14, 15, 16, 17, 18, 19, 20, 21, 22, 23, 24, 25, 26, 27, 28, 29, 30, 31, 32, 33, 142, 143, 144, 145, 146, 147, 148, 149, 150, 151, 152, 153, 154, 155, 156] (by decide +kernel) (by decide +kernel)) (goodIn_sub (fun _ h => List.mem_cons_of_mem _ (List.mem_append_left _ (List.mem_append_right _ h))) (by decide +kernel))
set_option maxRecDepth 20000 in
theorem gX5_hinders_X5_thingNumbered : GoodIn wsX5_hinders (wsV RX5 109 RX5 yX5_thingNumbered wsX5_thingNumbered) := goodIn_app (goodIn_of _ (by decide +kernel)) ggX5_hinders_X5_thingNumbered
theorem dX5_hinders_0 : decode cX5_hinders 0 = .ok (.aload_n 0, 1) := by decide +kernel
theorem dX5_hinders_1 : decode cX5_hinders 1 = .ok (.iload_n 1, 1) := by decide +kernel
theorem dX5_hinders_2 : decode cX5_hinders 2 = .ok (.invokevirtual 109, 3) := by decide +kernel
set_option maxRecDepth 20000 in
theorem ggX5_force_X5_thingNumbered : GoodIn wsX5_force wsX5_thingNumbered := goodIn_ca (goodIn_r _ [6, 7, 8, 1, 9, 10, 11, 12, 13, 14, 15, 16, 17, 18, 19, 20, 21, 22, 23, 24, 25, 26, 27, 28, 29, 30, 31, 32, 33, 91, 92, 93, 94, 95, 96, 97, 98, 99, 100, 101, 102, 103, 104, 105] (by decide +kernel) (by decide +kernel)) (goodIn_sub (fun _ h => List.mem_cons_of_mem _ (List.mem_append_left _ (List.mem_append_right _ h))) (by decide +kernel))
set_option maxRecDepth 20000 in
theorem gX5_force_X5_thingNumbered : GoodIn wsX5_force (wsV RX5 109 RX5 yX5_thingNumbered wsX5_thingNumbered) := goodIn_app (goodIn_of _ (by decide +kernel)) ggX5_force_X5_thingNumbered
theorem dX5_force_0 : decode cX5_force 0 = .ok (.aload_n 0, 1) := by decide +kernel
theorem dX5_force_1 : decode cX5_force 1 = .ok (.iload_n 1, 1) := by decide +kernel
theorem dX5_force_2 : decode cX5_force 2 = .ok (.invokevirtual 109, 3) := by decide +kernel
set_option maxRecDepth 20000 in
theorem ggX5_ticks_X5_thingNumbered : GoodIn wsX5_ticks wsX5_thingNumbered := goodIn_ca (goodIn_r _ [7, 8, 9, 10, 11, 12, 13, 14, 15, 16, 17, 18, 19, 20, 21, 22, 23, 24, 25, 26, 27, 28, 29, 30, 31, 32, 33, 34, 35, 78, 79, 80, 81, 82, 83, 84, 85, 86, 87, 88, 89, 90, 91, 92] (by decide +kernel) (by decide +kernel)) (goodIn_sub (fun _ h => List.mem_cons_of_mem _ (List.mem_append_left _ (List.mem_append_right _ h))) (by decide +kernel))
set_option maxRecDepth 20000 in
theorem gX5_ticks_X5_thingNumbered : GoodIn wsX5_ticks (wsV RX5 109 RX5 yX5_thingNumbered wsX5_thingNumbered) := goodIn_app (goodIn_of _ (by decide +kernel)) ggX5_ticks_X5_thingNumbered
theorem dX5_ticks_0 : decode cX5_ticks 0 = .ok (.aload_n 0, 1) := by decide +kernel
theorem dX5_ticks_1 : decode cX5_ticks 1 = .ok (.iload_n 1, 1) := by decide +kernel
theorem dX5_ticks_2 : decode cX5_ticks 2 = .ok (.invokevirtual 109, 3) := by decide +kernel
set_option maxRecDepth 20000 in
theorem ggX5_ofBox_X5_boxNumbered : GoodIn wsX5_ofBox wsX5_boxNumbered := goodIn_ca (goodIn_r _ [9, 10, 11, 12, 13, 14, 15, 16, 17, 18, 19, 20, 21, 22, 23, 24, 25, 26, 27, 28, 29, 30, 31, 32, 33, 34, 35, 36, 72, 73, 74, 75, 76, 77, 78, 79, 80, 81, 82] (by decide +kernel) (by decide +kernel)) (goodIn_sub (fun _ h => List.mem_cons_of_mem _ (List.mem_append_right _ h)) (by decide +kernel))
set_option maxRecDepth 20000 in
theorem gX5_ofBox_X5_boxNumbered : GoodIn wsX5_ofBox (wsV RX5 181 RX5 yX5_boxNumbered wsX5_boxNumbered) := goodIn_app (goodIn_of _ (by decide +kernel)) ggX5_ofBox_X5_boxNumbered
theorem dX5_ofBox_0 : decode cX5_ofBox 0 = .ok (.aload_n 0, 1) := by decide +kernel
theorem dX5_ofBox_1 : decode cX5_ofBox 1 = .ok (.iload_n 1, 1) := by decide +kernel
theorem dX5_ofBox_2 : decode cX5_ofBox 2 = .ok (.invokevirtual 181, 3) := by decide +kernel
set_option maxRecDepth 20000 in
theorem ggX5_ahead_X5_thingNumbered : GoodIn wsX5_ahead wsX5_thingNumbered := goodIn_ca (goodIn_r _ [6, 7, 8, 1, 9, 10, 11, 12, 13, 14, 15, 16, 17, 18, 19, 20, 21, 22, 23, 24, 25, 26, 27, 28, 29, 30, 31, 32, 33, 79, 80, 81, 82, 83, 84, 85, 86, 87, 88, 89, 90, 91, 92, 93] (by decide +kernel) (by decide +kernel)) (goodIn_sub (fun _ h => List.mem_cons_of_mem _ (List.mem_append_right _ h)) (by decide +kernel))
set_option maxRecDepth 20000 in
theorem gX5_ahead_X5_thingNumbered : GoodIn wsX5_ahead (wsV RX5 109 RX5 yX5_thingNumbered wsX5_thingNumbered) := goodIn_app (goodIn_of _ (by decide +kernel)) ggX5_ahead_X5_thingNumbered
theorem dX5_ahead_0 : decode cX5_ahead 0 = .ok (.aload_n 0, 1) := by decide +kernel
theorem dX5_ahead_1 : decode cX5_ahead 1 = .ok (.getfield 19, 3) := by decide +kernel
theorem dX5_ahead_4 : decode cX5_ahead 4 = .ok (.aload_n 0, 1) := by decide +kernel
theorem dX5_ahead_5 : decode cX5_ahead 5 = .ok (.iload_n 1, 1) := by decide +kernel
theorem dX5_ahead_6 : decode cX5_ahead 6 = .ok (.invokevirtual 109, 3) := by decide +kernel
set_option maxRecDepth 20000 in
theorem ggX5_next_X5_kindNumbered : GoodIn wsX5_next wsX5_kindNumbered := goodIn_ca (goodIn_r _ [11, 12, 13, 14, 15, 16, 17, 18, 19, 20, 21, 22, 23, 24, 25, 26, 27, 28, 29, 30, 31, 32, 33, 34, 35, 36, 37, 38, 167, 168, 169, 170, 171, 172, 173, 174, 189, 190, 191] (by decide +kernel) (by decide +kernel)) (goodIn_sub (fun _ h => List.mem_cons_of_mem _ (List.mem_append_right _ h)) (by decide +kernel))
set_option maxRecDepth 20000 in
theorem gX5_next_X5_kindNumbered : GoodIn wsX5_next (wsV RX5 76 RX5 yX5_kindNumbered wsX5_kindNumbered) := goodIn_app (goodIn_of _ (by decide +kernel)) ggX5_next_X5_kindNumbered
theorem dX5_next_0 : decode cX5_next 0 = .ok (.aload_n 0, 1) := by decide +kernel
theorem dX5_next_1 : decode cX5_next 1 = .ok (.iload_n 1, 1) := by decide +kernel
theorem dX5_next_2 : decode cX5_next 2 = .ok (.invokevirtual 76, 3) := by decide +kernel
set_option maxRecDepth 20000 in
theorem ggX5_wouldFit_X5_thingNumbered : GoodIn wsX5_wouldFit wsX5_thingNumbered := goodIn_ca (goodIn_r _ [7, 8, 9, 10, 11, 12, 13, 14, 15, 16, 17, 18, 19, 20, 21, 22, 23, 24, 25, 26, 27, 28, 29, 30, 31, 32, 33, 34, 35, 86, 87, 88, 89, 90, 91, 92, 93, 94, 95, 96, 97, 98, 99, 100] (by decide +kernel) (by decide +kernel)) (goodIn_sub (fun _ h => List.mem_cons_of_mem _ (List.mem_append_right _ h)) (by decide +kernel))
set_option maxRecDepth 20000 in
theorem gX5_wouldFit_X5_thingNumbered : GoodIn wsX5_wouldFit (wsV RX5 109 RX5 yX5_thingNumbered wsX5_thingNumbered) := goodIn_app (goodIn_of _ (by decide +kernel)) ggX5_wouldFit_X5_thingNumbered
theorem dX5_wouldFit_0 : decode cX5_wouldFit 0 = .ok (.aload_n 0, 1) := by decide +kernel
theorem dX5_wouldFit_1 : decode cX5_wouldFit 1 = .ok (.iload_n 1, 1) := by decide +kernel
theorem dX5_wouldFit_2 : decode cX5_wouldFit 2 = .ok (.invokevirtual 109, 3) := by decide +kernel
set_option maxRecDepth 20000 in
theorem ggX5_kindNumbered_Jx4a65c_size_8abf5 : GoodIn wsX5_kindNumbered wsJx4a65c_size_8abf5 := goodIn_r _ [9, 10, 36, 37, 38] (by decide +kernel) (by decide +kernel)
set_option maxRecDepth 20000 in
theorem gX5_kindNumbered_Jx4a65c_size_8abf5 : GoodIn wsX5_kindNumbered (wsV RX5 58 RJx4a65c yJx4a65c_size_8abf5 wsJx4a65c_size_8abf5) := goodIn_app (goodIn_of _ (by decide +kernel)) ggX5_kindNumbered_Jx4a65c_size_8abf5
theorem dX5_kindNumbered_0 : decode cX5_kindNumbered 0 = .ok (.iload_n 1, 1) := by decide +kernel
theorem dX5_kindNumbered_1 : decode cX5_kindNumbered 1 = .ok (.ifCond .lt 14, 3) := by decide +kernel
theorem dX5_kindNumbered_4 : decode cX5_kindNumbered 4 = .ok (.iload_n 1, 1) := by decide +kernel
theorem dX5_kindNumbered_5 : decode cX5_kindNumbered 5 = .ok (.aload_n 0, 1) := by decide +kernel
theorem dX5_kindNumbered_6 : decode cX5_kindNumbered 6 = .ok (.getfield 10, 3) := by decide +kernel
theorem dX5_kindNumbered_9 : decode cX5_kindNumbered 9 = .ok (.invokevirtual 58, 3) := by decide +kernel
theorem dX5_kindNumbered_12 : decode cX5_kindNumbered 12 = .ok (.if_icmp .lt 14, 3) := by decide +kernel
theorem dX5_kindNumbered_15 : decode cX5_kindNumbered 15 = .ok (.new 270, 3) := by decide +kernel
theorem dX5_kindNumbered_18 : decode cX5_kindNumbered 18 = .ok (.dup, 1) := by decide +kernel
theorem dX5_kindNumbered_19 : decode cX5_kindNumbered 19 = .ok (.ldc_w 349, 3) := by decide +kernel
theorem dX5_kindNumbered_22 : decode cX5_kindNumbered 22 = .ok (.invokespecial 274, 3) := by decide +kernel
theorem dX5_kindNumbered_25 : decode cX5_kindNumbered 25 = .ok (.athrow, 1) := by decide +kernel
set_option maxRecDepth 20000 in
theorem ggX5_thingNumbered_Jx4a65c_size_8abf5 : GoodIn wsX5_thingNumbered wsJx4a65c_size_8abf5 := goodIn_r _ [10, 11, 41, 42, 43] (by decide +kernel) (by decide +kernel)
set_option maxRecDepth 20000 in
theorem gX5_thingNumbered_Jx4a65c_size_8abf5 : GoodIn wsX5_thingNumbered (wsV RX5 58 RJx4a65c yJx4a65c_size_8abf5 wsJx4a65c_size_8abf5) := goodIn_app (goodIn_of _ (by decide +kernel)) ggX5_thingNumbered_Jx4a65c_size_8abf5
theorem dX5_thingNumbered_0 : decode cX5_thingNumbered 0 = .ok (.iload_n 1, 1) := by decide +kernel
theorem dX5_thingNumbered_1 : decode cX5_thingNumbered 1 = .ok (.ifCond .lt 17, 3) := by decide +kernel
theorem dX5_thingNumbered_4 : decode cX5_thingNumbered 4 = .ok (.iload_n 1, 1) := by decide +kernel
theorem dX5_thingNumbered_5 : decode cX5_thingNumbered 5 = .ok (.aload_n 0, 1) := by decide +kernel
theorem dX5_thingNumbered_6 : decode cX5_thingNumbered 6 = .ok (.getfield 19, 3) := by decide +kernel
theorem dX5_thingNumbered_9 : decode cX5_thingNumbered 9 = .ok (.getfield 92, 3) := by decide +kernel
theorem dX5_thingNumbered_12 : decode cX5_thingNumbered 12 = .ok (.invokevirtual 58, 3) := by decide +kernel
theorem dX5_thingNumbered_15 : decode cX5_thingNumbered 15 = .ok (.if_icmp .lt 14, 3) := by decide +kernel
theorem dX5_thingNumbered_18 : decode cX5_thingNumbered 18 = .ok (.new 270, 3) := by decide +kernel
theorem dX5_thingNumbered_21 : decode cX5_thingNumbered 21 = .ok (.dup, 1) := by decide +kernel
theorem dX5_thingNumbered_22 : decode cX5_thingNumbered 22 = .ok (.ldc_w 351, 3) := by decide +kernel
theorem dX5_thingNumbered_25 : decode cX5_thingNumbered 25 = .ok (.invokespecial 274, 3) := by decide +kernel
theorem dX5_thingNumbered_28 : decode cX5_thingNumbered 28 = .ok (.athrow, 1) := by decide +kernel
set_option maxRecDepth 20000 in
theorem ggX5_boxNumbered_Jx4a65c_size_8abf5 : GoodIn wsX5_boxNumbered wsJx4a65c_size_8abf5 := goodIn_r _ [9, 10, 36, 37, 38] (by decide +kernel) (by decide +kernel)
set_option maxRecDepth 20000 in
theorem gX5_boxNumbered_Jx4a65c_size_8abf5 : GoodIn wsX5_boxNumbered (wsV RX5 58 RJx4a65c yJx4a65c_size_8abf5 wsJx4a65c_size_8abf5) := goodIn_app (goodIn_of _ (by decide +kernel)) ggX5_boxNumbered_Jx4a65c_size_8abf5
theorem dX5_boxNumbered_0 : decode cX5_boxNumbered 0 = .ok (.iload_n 1, 1) := by decide +kernel
theorem dX5_boxNumbered_1 : decode cX5_boxNumbered 1 = .ok (.ifCond .lt 14, 3) := by decide +kernel
theorem dX5_boxNumbered_4 : decode cX5_boxNumbered 4 = .ok (.iload_n 1, 1) := by decide +kernel
theorem dX5_boxNumbered_5 : decode cX5_boxNumbered 5 = .ok (.aload_n 0, 1) := by decide +kernel
theorem dX5_boxNumbered_6 : decode cX5_boxNumbered 6 = .ok (.getfield 23, 3) := by decide +kernel
theorem dX5_boxNumbered_9 : decode cX5_boxNumbered 9 = .ok (.invokevirtual 58, 3) := by decide +kernel
theorem dX5_boxNumbered_12 : decode cX5_boxNumbered 12 = .ok (.if_icmp .lt 14, 3) := by decide +kernel
theorem dX5_boxNumbered_15 : decode cX5_boxNumbered 15 = .ok (.new 270, 3) := by decide +kernel
theorem dX5_boxNumbered_18 : decode cX5_boxNumbered 18 = .ok (.dup, 1) := by decide +kernel
theorem dX5_boxNumbered_19 : decode cX5_boxNumbered 19 = .ok (.ldc_w 353, 3) := by decide +kernel
theorem dX5_boxNumbered_22 : decode cX5_boxNumbered 22 = .ok (.invokespecial 274, 3) := by decide +kernel
theorem dX5_boxNumbered_25 : decode cX5_boxNumbered 25 = .ok (.athrow, 1) := by decide +kernel
theorem dX5_isWithin_0 : decode cX5_isWithin 0 = .ok (.iload_n 0, 1) := by decide +kernel
theorem dX5_isWithin_1 : decode cX5_isWithin 1 = .ok (.iload_n 1, 1) := by decide +kernel
theorem dX5_isWithin_2 : decode cX5_isWithin 2 = .ok (.if_icmp .lt 12, 3) := by decide +kernel
theorem dX5_isWithin_5 : decode cX5_isWithin 5 = .ok (.iload_n 0, 1) := by decide +kernel
theorem dX5_isWithin_6 : decode cX5_isWithin 6 = .ok (.iload_n 2, 1) := by decide +kernel
theorem dX5_isWithin_7 : decode cX5_isWithin 7 = .ok (.if_icmp .gt 7, 3) := by decide +kernel
theorem dX5_isWithin_10 : decode cX5_isWithin 10 = .ok (.iconst 1, 1) := by decide +kernel
theorem dX5_isWithin_11 : decode cX5_isWithin 11 = .ok (.goto 4, 3) := by decide +kernel
theorem dX5_isWithin_14 : decode cX5_isWithin 14 = .ok (.iconst 0, 1) := by decide +kernel
theorem dX5_isWithin_15 : decode cX5_isWithin 15 = .ok (.ireturn, 1) := by decide +kernel
theorem dX5_areInBin_0 : decode cX5_areInBin 0 = .ok (.iload_n 0, 1) := by decide +kernel
theorem dX5_areInBin_1 : decode cX5_areInBin 1 = .ok (.ifCond .lt 27, 3) := by decide +kernel
theorem dX5_areInBin_4 : decode cX5_areInBin 4 = .ok (.iload_n 1, 1) := by decide +kernel
theorem dX5_areInBin_5 : decode cX5_areInBin 5 = .ok (.ifCond .lt 23, 3) := by decide +kernel
theorem dX5_areInBin_8 : decode cX5_areInBin 8 = .ok (.iload_n 0, 1) := by decide +kernel
theorem dX5_areInBin_9 : decode cX5_areInBin 9 = .ok (.bipush 6, 2) := by decide +kernel
theorem dX5_areInBin_11 : decode cX5_areInBin 11 = .ok (.iload_n 2, 1) := by decide +kernel
theorem dX5_areInBin_12 : decode cX5_areInBin 12 = .ok (.isub, 1) := by decide +kernel
theorem dX5_areInBin_13 : decode cX5_areInBin 13 = .ok (.if_icmp .gt 15, 3) := by decide +kernel
theorem dX5_areInBin_16 : decode cX5_areInBin 16 = .ok (.iload_n 1, 1) := by decide +kernel
theorem dX5_areInBin_17 : decode cX5_areInBin 17 = .ok (.bipush 6, 2) := by decide +kernel
theorem dX5_areInBin_19 : decode cX5_areInBin 19 = .ok (.iload_n 3, 1) := by decide +kernel
theorem dX5_areInBin_20 : decode cX5_areInBin 20 = .ok (.isub, 1) := by decide +kernel
theorem dX5_areInBin_21 : decode cX5_areInBin 21 = .ok (.if_icmp .gt 7, 3) := by decide +kernel
theorem dX5_areInBin_24 : decode cX5_areInBin 24 = .ok (.iconst 1, 1) := by decide +kernel
theorem dX5_areInBin_25 : decode cX5_areInBin 25 = .ok (.goto 4, 3) := by decide +kernel
theorem dX5_areInBin_28 : decode cX5_areInBin 28 = .ok (.iconst 0, 1) := by decide +kernel
theorem dX5_areInBin_29 : decode cX5_areInBin 29 = .ok (.ireturn, 1) := by decide +kernel
theorem dX9_isIn_0 : decode cX9_isIn 0 = .ok (.iload_n 0, 1) := by decide +kernel
theorem dX9_isIn_1 : decode cX9_isIn 1 = .ok (.iload_n 1, 1) := by decide +kernel
theorem dX9_isIn_2 : decode cX9_isIn 2 = .ok (.if_icmp .lt 12, 3) := by decide +kernel
theorem dX9_isIn_5 : decode cX9_isIn 5 = .ok (.iload_n 0, 1) := by decide +kernel
theorem dX9_isIn_6 : decode cX9_isIn 6 = .ok (.iload_n 2, 1) := by decide +kernel
theorem dX9_isIn_7 : decode cX9_isIn 7 = .ok (.if_icmp .gt 7, 3) := by decide +kernel
theorem dX9_isIn_10 : decode cX9_isIn 10 = .ok (.iconst 1, 1) := by decide +kernel
theorem dX9_isIn_11 : decode cX9_isIn 11 = .ok (.goto 4, 3) := by decide +kernel
theorem dX9_isIn_14 : decode cX9_isIn 14 = .ok (.iconst 0, 1) := by decide +kernel
theorem dX9_isIn_15 : decode cX9_isIn 15 = .ok (.ireturn, 1) := by decide +kernel
set_option maxHeartbeats 4000000 in
set_option maxRecDepth 100000 in
/-- isWithin -/
theorem c_isWithin (l : Launch) (D : va_G) (e0 sz : Nat) (v a b : Int32) : Ki (S := Unit) l yX5_isWithin wsX5_isWithin ({ frames := 0, cells := 0, slots := 0, locals := 0 } : Room) [.int v, .int a, .int b] D [] [] e0 sz (fun r _ => r = isW v a b) (fun _ => []) (fun _ => []) 0 0 := by
  refine Met.ofW (cc := cX5_isWithin) (maxL := 3) (ret := (some .boolean)) (by decide) rfl ?_
  intro p e s m args below meth c s₁ B hml hv
  obtain ⟨rfl, hsz, hP, hK, hD0, hE⟩ := hv
  have hx := B.exec
  have hb := B.bytes
  have hr := B.returns
  have hts := atoms_spec (ws := wsX5_isWithin) B.pre
  have hown : s.vm.findClass RX5 = some m.cls := findClass_of_methodNamed B.named
  have hlocks := B.notSynchronized
  subst hsz
  have hD := hD0.self (sz := s.heap.size)
  generalize hAe : va_A [] s.heap.size = A at hD hE ⊢
  have hA : ∀ q : Nat, s.heap.size ≤ q → A q := fun q h => by rw [← hAe]; exact Or.inr h
  have hS : va_S A s.heap s.heap [] := va_S.rf
  have hP : va_P D vwCl [] s.heap := hP
  have hl := lv_entry ([.int v, .int a, .int b]) (n := 3) (Nat.le_of_ble_eq_true rfl)
  rw [lg_entry_eq]
  generalize (lg_sl ([.int v, .int a, .int b]) ++ List.replicate (3 - (lg_sl ([.int v, .int a, .int b])).length) Slot.unset).toArray = ls at hl ⊢
  have hl : lv_has ls 3 [(0, .int v), (1, .int a), (2, .int b)] := hl
  refine lv_iload_n hx hb dX5_isWithin_0 rfl (lv_at hl 0 rfl) ?_
  refine lv_iload_n hx hb dX5_isWithin_1 rfl (lv_at hl 1 rfl) ?_
  refine lv_icmp_lt (tgt := 14) hx hb dX5_isWithin_2 (by decide) (fun c_2 => ?_) (fun c_2 => ?_)
  · refine lv_iconst (v := 0) hx hb dX5_isWithin_14 (by decide) ?_
    exact end_i (v := 0) hx hb hr rfl hlocks hP hD hK hS () ((if_neg (fun h => absurd c_2 (Int32.not_lt.mpr h.1))).symm) [] [] rfl (by decide) rfl (Nat.le_of_ble_eq_true rfl) (Nat.le_of_ble_eq_true rfl) dX5_isWithin_15
  · refine lv_iload_n hx hb dX5_isWithin_5 rfl (lv_at hl 0 rfl) ?_
    refine lv_iload_n hx hb dX5_isWithin_6 rfl (lv_at hl 2 rfl) ?_
    refine lv_icmp_gt (tgt := 14) hx hb dX5_isWithin_7 (by decide) (fun c_7 => ?_) (fun c_7 => ?_)
    · refine lv_iconst (v := 0) hx hb dX5_isWithin_14 (by decide) ?_
      exact end_i (v := 0) hx hb hr rfl hlocks hP hD hK hS () ((if_neg (fun h => absurd c_7 (Int32.not_lt.mpr h.2))).symm) [] [] rfl (by decide) rfl (Nat.le_of_ble_eq_true rfl) (Nat.le_of_ble_eq_true rfl) dX5_isWithin_15
    · refine lv_iconst (v := 1) hx hb dX5_isWithin_10 (by decide) ?_
      refine lv_goto (tgt := 15) hx hb dX5_isWithin_11 (by decide) ?_
      exact end_i (v := 1) hx hb hr rfl hlocks hP hD hK hS () ((if_pos ⟨Int32.not_lt.mp c_2, Int32.not_lt.mp c_7⟩).symm) [] [] rfl (by decide) rfl (Nat.le_of_ble_eq_true rfl) (Nat.le_of_ble_eq_true rfl) dX5_isWithin_15
set_option maxHeartbeats 4000000 in
set_option maxRecDepth 100000 in
/-- isIn -/
theorem c_isIn (l : Launch) (D : va_G) (e0 sz : Nat) (v a b : Int32) : Ki (S := Unit) l yX9_isIn wsX9_isIn ({ frames := 0, cells := 0, slots := 0, locals := 0 } : Room) [.int v, .int a, .int b] D [] [] e0 sz (fun r _ => r = isW v a b) (fun _ => []) (fun _ => []) 0 0 := by
  refine Met.ofW (cc := cX9_isIn) (maxL := 3) (ret := (some .boolean)) (by decide) rfl ?_
  intro p e s m args below meth c s₁ B hml hv
  obtain ⟨rfl, hsz, hP, hK, hD0, hE⟩ := hv
  have hx := B.exec
  have hb := B.bytes
  have hr := B.returns
  have hts := atoms_spec (ws := wsX9_isIn) B.pre
  have hown : s.vm.findClass RX9 = some m.cls := findClass_of_methodNamed B.named
  have hlocks := B.notSynchronized
  subst hsz
  have hD := hD0.self (sz := s.heap.size)
  generalize hAe : va_A [] s.heap.size = A at hD hE ⊢
  have hA : ∀ q : Nat, s.heap.size ≤ q → A q := fun q h => by rw [← hAe]; exact Or.inr h
  have hS : va_S A s.heap s.heap [] := va_S.rf
  have hP : va_P D vwCl [] s.heap := hP
  have hl := lv_entry ([.int v, .int a, .int b]) (n := 3) (Nat.le_of_ble_eq_true rfl)
  rw [lg_entry_eq]
  generalize (lg_sl ([.int v, .int a, .int b]) ++ List.replicate (3 - (lg_sl ([.int v, .int a, .int b])).length) Slot.unset).toArray = ls at hl ⊢
  have hl : lv_has ls 3 [(0, .int v), (1, .int a), (2, .int b)] := hl
  refine lv_iload_n hx hb dX9_isIn_0 rfl (lv_at hl 0 rfl) ?_
  refine lv_iload_n hx hb dX9_isIn_1 rfl (lv_at hl 1 rfl) ?_
  refine lv_icmp_lt (tgt := 14) hx hb dX9_isIn_2 (by decide) (fun c_2 => ?_) (fun c_2 => ?_)
  · refine lv_iconst (v := 0) hx hb dX9_isIn_14 (by decide) ?_
    exact end_i (v := 0) hx hb hr rfl hlocks hP hD hK hS () ((if_neg (fun h => absurd c_2 (Int32.not_lt.mpr h.1))).symm) [] [] rfl (by decide) rfl (Nat.le_of_ble_eq_true rfl) (Nat.le_of_ble_eq_true rfl) dX9_isIn_15
  · refine lv_iload_n hx hb dX9_isIn_5 rfl (lv_at hl 0 rfl) ?_
    refine lv_iload_n hx hb dX9_isIn_6 rfl (lv_at hl 2 rfl) ?_
    refine lv_icmp_gt (tgt := 14) hx hb dX9_isIn_7 (by decide) (fun c_7 => ?_) (fun c_7 => ?_)
    · refine lv_iconst (v := 0) hx hb dX9_isIn_14 (by decide) ?_
      exact end_i (v := 0) hx hb hr rfl hlocks hP hD hK hS () ((if_neg (fun h => absurd c_7 (Int32.not_lt.mpr h.2))).symm) [] [] rfl (by decide) rfl (Nat.le_of_ble_eq_true rfl) (Nat.le_of_ble_eq_true rfl) dX9_isIn_15
    · refine lv_iconst (v := 1) hx hb dX9_isIn_10 (by decide) ?_
      refine lv_goto (tgt := 15) hx hb dX9_isIn_11 (by decide) ?_
      exact end_i (v := 1) hx hb hr rfl hlocks hP hD hK hS () ((if_pos ⟨Int32.not_lt.mp c_2, Int32.not_lt.mp c_7⟩).symm) [] [] rfl (by decide) rfl (Nat.le_of_ble_eq_true rfl) (Nat.le_of_ble_eq_true rfl) dX9_isIn_15
set_option maxHeartbeats 4000000 in
set_option maxRecDepth 100000 in
/-- areInBin(x, y, 1, 1) -/
theorem c_areInBin (l : Launch) (D : va_G) (e0 sz : Nat) (x y : Int32) : Ki (S := Unit) l yX5_areInBin wsX5_areInBin ({ frames := 0, cells := 0, slots := 0, locals := 0 } : Room) [.int x, .int y, .int 1, .int 1] D [] [] e0 sz (fun r _ => r = (if 0 ≤ x ∧ 0 ≤ y ∧ x ≤ 5 ∧ y ≤ 5 then 1 else 0)) (fun _ => []) (fun _ => []) 0 0 := by
  refine Met.ofW (cc := cX5_areInBin) (maxL := 4) (ret := (some .boolean)) (by decide) rfl ?_
  intro p e s m args below meth c s₁ B hml hv
  obtain ⟨rfl, hsz, hP, hK, hD0, hE⟩ := hv
  have hx := B.exec
  have hb := B.bytes
  have hr := B.returns
  have hts := atoms_spec (ws := wsX5_areInBin) B.pre
  have hown : s.vm.findClass RX5 = some m.cls := findClass_of_methodNamed B.named
  have hlocks := B.notSynchronized
  subst hsz
  have hD := hD0.self (sz := s.heap.size)
  generalize hAe : va_A [] s.heap.size = A at hD hE ⊢
  have hA : ∀ q : Nat, s.heap.size ≤ q → A q := fun q h => by rw [← hAe]; exact Or.inr h
  have hS : va_S A s.heap s.heap [] := va_S.rf
  have hP : va_P D vwCl [] s.heap := hP
  have hl := lv_entry ([.int x, .int y, .int 1, .int 1]) (n := 4) (Nat.le_of_ble_eq_true rfl)
  rw [lg_entry_eq]
  generalize (lg_sl ([.int x, .int y, .int 1, .int 1]) ++ List.replicate (4 - (lg_sl ([.int x, .int y, .int 1, .int 1])).length) Slot.unset).toArray = ls at hl ⊢
  have hl : lv_has ls 4 [(0, .int x), (1, .int y), (2, .int 1), (3, .int 1)] := hl
  refine lv_iload_n hx hb dX5_areInBin_0 rfl (lv_at hl 0 rfl) ?_
  refine lv_if_lt (tgt := 28) hx hb dX5_areInBin_1 (by decide) (fun c_1 => ?_) (fun c_1 => ?_)
  · refine lv_iconst (v := 0) hx hb dX5_areInBin_28 (by decide) ?_
    exact end_i (v := 0) hx hb hr rfl hlocks hP hD hK hS () ((if_neg (fun h => absurd c_1 (Int32.not_lt.mpr h.1))).symm) [] [] rfl (by decide) rfl (Nat.le_of_ble_eq_true rfl) (Nat.le_of_ble_eq_true rfl) dX5_areInBin_29
  · refine lv_iload_n hx hb dX5_areInBin_4 rfl (lv_at hl 1 rfl) ?_
    refine lv_if_lt (tgt := 28) hx hb dX5_areInBin_5 (by decide) (fun c_5 => ?_) (fun c_5 => ?_)
    · refine lv_iconst (v := 0) hx hb dX5_areInBin_28 (by decide) ?_
      exact end_i (v := 0) hx hb hr rfl hlocks hP hD hK hS () ((if_neg (fun h => absurd c_5 (Int32.not_lt.mpr h.2.1))).symm) [] [] rfl (by decide) rfl (Nat.le_of_ble_eq_true rfl) (Nat.le_of_ble_eq_true rfl) dX5_areInBin_29
    · refine lv_iload_n hx hb dX5_areInBin_8 rfl (lv_at hl 0 rfl) ?_
      refine lv_bipush (v := 6) hx hb dX5_areInBin_9 (by decide) ?_
      refine lv_iload_n hx hb dX5_areInBin_11 rfl (lv_at hl 2 rfl) ?_
      refine lv_isub hx hb dX5_areInBin_12 ?_
      refine lv_topi (fun x_1 ex_1 => ?_)
      obtain rfl : x_1 = 5 := ex_1.trans (by decide)
      refine lv_icmp_gt (tgt := 28) hx hb dX5_areInBin_13 (by decide) (fun c_13 => ?_) (fun c_13 => ?_)
      · refine lv_iconst (v := 0) hx hb dX5_areInBin_28 (by decide) ?_
        exact end_i (v := 0) hx hb hr rfl hlocks hP hD hK hS () ((if_neg (fun h => absurd c_13 (Int32.not_lt.mpr h.2.2.1))).symm) [] [] rfl (by decide) rfl (Nat.le_of_ble_eq_true rfl) (Nat.le_of_ble_eq_true rfl) dX5_areInBin_29
      · refine lv_iload_n hx hb dX5_areInBin_16 rfl (lv_at hl 1 rfl) ?_
        refine lv_bipush (v := 6) hx hb dX5_areInBin_17 (by decide) ?_
        refine lv_iload_n hx hb dX5_areInBin_19 rfl (lv_at hl 3 rfl) ?_
        refine lv_isub hx hb dX5_areInBin_20 ?_
        refine lv_topi (fun x_2 ex_2 => ?_)
        obtain rfl : x_2 = 5 := ex_2.trans (by decide)
        refine lv_icmp_gt (tgt := 28) hx hb dX5_areInBin_21 (by decide) (fun c_21 => ?_) (fun c_21 => ?_)
        · refine lv_iconst (v := 0) hx hb dX5_areInBin_28 (by decide) ?_
          exact end_i (v := 0) hx hb hr rfl hlocks hP hD hK hS () ((if_neg (fun h => absurd c_21 (Int32.not_lt.mpr h.2.2.2))).symm) [] [] rfl (by decide) rfl (Nat.le_of_ble_eq_true rfl) (Nat.le_of_ble_eq_true rfl) dX5_areInBin_29
        · refine lv_iconst (v := 1) hx hb dX5_areInBin_24 (by decide) ?_
          refine lv_goto (tgt := 29) hx hb dX5_areInBin_25 (by decide) ?_
          exact end_i (v := 1) hx hb hr rfl hlocks hP hD hK hS () ((if_pos ⟨Int32.not_lt.mp c_1, Int32.not_lt.mp c_5, Int32.not_lt.mp c_13, Int32.not_lt.mp c_21⟩).symm) [] [] rfl (by decide) rfl (Nat.le_of_ble_eq_true rfl) (Nat.le_of_ble_eq_true rfl) dX5_areInBin_29
set_option maxHeartbeats 4000000 in
set_option maxRecDepth 100000 in
/-- kindNumbered: there is none -/
theorem c_kindNumbered (l : Launch) (hl9 : l.stackTraces = false) (D : va_G) (e0 sz : Nat) (x xk xb xo xa : Nat) (near : Int32) (p0 : Int32) : KT l yX5_kindNumbered wsX5_kindNumbered ({ frames := 6, cells := 1, slots := 6, locals := 84 } : Room) [.ref x, .int p0] D [(x, .inr (7, [.ref xk, .ref xb, .ref xo, .ref xa, .int near, .int 0, .int 0, .int 0])), (xk, .inr (1, [.int 0, .ref e0, .int 0]))] [] e0 sz "java/lang/IndexOutOfBoundsException" 1 6 := by
  refine vx_ofW (cc := cX5_kindNumbered) (maxL := 2) (ret := (some (.object "PickCell$Kind"))) (by decide) rfl ?_
  intro p e s m args below meth c s₁ B hml ht0 hv
  obtain ⟨rfl, hsz, hP, hK, hD0, hE⟩ := hv
  have hx := B.exec
  have hb := B.bytes
  have hr := B.returns
  have hts := atoms_spec (ws := wsX5_kindNumbered) B.pre
  have hown : s.vm.findClass RX5 = some m.cls := findClass_of_methodNamed B.named
  have hlocks := B.notSynchronized
  subst hsz
  have hD := hD0.self (sz := s.heap.size)
  generalize hAe : va_A [(x, .inr (7, [.ref xk, .ref xb, .ref xo, .ref xa, .int near, .int 0, .int 0, .int 0])), (xk, .inr (1, [.int 0, .ref e0, .int 0]))] s.heap.size = A at hD hE ⊢
  have hA : ∀ q : Nat, s.heap.size ≤ q → A q := fun q h => by rw [← hAe]; exact Or.inr h
  have hS : va_S A s.heap s.heap [] := va_S.rf
  have hP : va_P D vwCl [(x, .inr (7, [.ref xk, .ref xb, .ref xo, .ref xa, .int near, .int 0, .int 0, .int 0])), (xk, .inr (1, [.int 0, .ref e0, .int 0]))] s.heap := hP
  have hl := lv_entry ([.ref x, .int p0]) (n := 2) (Nat.le_of_ble_eq_true rfl)
  rw [lg_entry_eq]
  generalize (lg_sl ([.ref x, .int p0]) ++ List.replicate (2 - (lg_sl ([.ref x, .int p0])).length) Slot.unset).toArray = ls at hl ⊢
  have hl : lv_has ls 2 [(0, .ref x), (1, .int p0)] := hl
  refine lv_iload_n hx hb dX5_kindNumbered_0 rfl (lv_at hl 1 rfl) ?_
  refine lv_if_lt (tgt := 15) hx hb dX5_kindNumbered_1 (by decide) (fun c_1 => ?_) (fun c_1 => ?_)
  · exact kthrowW (X := "java/lang/IndexOutOfBoundsException") (tx := "there is no such kind") (ik := 270) (is := 349) (ic := 274) ⟨hx, hb, hml, hown, hts⟩ hl9 hS hE (by decide) (by decide +kernel) (by decide +kernel) (by decide +kernel) (by decide +kernel) (by decide +kernel) (by decide +kernel) hl.1 dX5_kindNumbered_15 dX5_kindNumbered_18 dX5_kindNumbered_19 dX5_kindNumbered_22 dX5_kindNumbered_25 ht0 (Nat.le_of_ble_eq_true rfl) (Nat.le_of_ble_eq_true rfl) (Nat.le_of_ble_eq_true rfl) (Nat.le_of_ble_eq_true rfl) hlocks trivial (Nat.le_of_ble_eq_true rfl) (Nat.le_of_ble_eq_true rfl)
  · refine lv_iload_n hx hb dX5_kindNumbered_4 rfl (lv_at hl 1 rfl) ?_
    refine lv_aload_n hx hb dX5_kindNumbered_5 rfl (lv_at hl 0 rfl) ?_
    refine va_get (D := D) (ci := 7) (v := .ref xk) (C := RX5) (T := TX5) (N := 8) hx hb hts (by decide +kernel) hown hK hP 0 rfl rfl 0 (by decide) (hts (.fieldLink RX5 10 "PickCell" "kinds" "Ljava/util/ArrayList;") (by decide +kernel)) (fun _ h9 => h9) rfl dX5_kindNumbered_6 ?_
    refine kV_i (As := []) (rest := [.int p0]) (wr := [(x, .inr (7, [.ref xk, .ref xb, .ref xo, .ref xa, .int near, .int 0, .int 0, .int 0]))]) ⟨hx, hb, hml, hown, hts⟩ (c_size l D e0 _ xk 0 0 (.ref e0)) (cwV 0 hts gX5_kindNumbered_Jx4a65c_size_8abf5 rfl rfl rfl (by decide +kernel) ⟨Nat.le_of_ble_eq_true rfl, Nat.le_of_ble_eq_true rfl⟩) hP hD hK hS hA hE rfl [1] [0] [] rfl rfl (by decide) (by decide) (by decide) rfl 1 1 rfl rfl rfl rfl hl.1 (Nat.le_of_ble_eq_true rfl) dX5_kindNumbered_9 ⟨Nat.le_of_ble_eq_true rfl, Nat.le_of_ble_eq_true rfl⟩ (fun r_1 u9 H locs hw hP hD hK hS => ?_)
    have hw : r_1 = 0 := hw
    subst hw
    have hP : va_P D vwCl [(x, .inr (7, [.ref xk, .ref xb, .ref xo, .ref xa, .int near, .int 0, .int 0, .int 0])), (xk, .inr (1, [.int 0, .ref e0, .int 0]))] H := hP
    have hD : va_D A [(x, .inr (7, [.ref xk, .ref xb, .ref xo, .ref xa, .int near, .int 0, .int 0, .int 0])), (xk, .inr (1, [.int 0, .ref e0, .int 0]))] := hD
    have hK : va_K D vwCl [] s := hK
    refine lv_icmp_lt (tgt := 26) hx hb dX5_kindNumbered_12 (by decide) (fun h9 => False.elim (c_1 h9)) (fun c_12 => ?_)
    exact kthrowW (X := "java/lang/IndexOutOfBoundsException") (tx := "there is no such kind") (ik := 270) (is := 349) (ic := 274) ⟨hx, hb, hml, hown, hts⟩ hl9 hS hE (by decide) (by decide +kernel) (by decide +kernel) (by decide +kernel) (by decide +kernel) (by decide +kernel) (by decide +kernel) hl.1 dX5_kindNumbered_15 dX5_kindNumbered_18 dX5_kindNumbered_19 dX5_kindNumbered_22 dX5_kindNumbered_25 ht0 (Nat.le_of_ble_eq_true rfl) (Nat.le_of_ble_eq_true rfl) (Nat.le_of_ble_eq_true rfl) (Nat.le_of_ble_eq_true rfl) hlocks trivial (Nat.le_of_ble_eq_true rfl) (Nat.le_of_ble_eq_true rfl)
set_option maxHeartbeats 4000000 in
set_option maxRecDepth 100000 in
/-- thingNumbered: there is none -/
theorem c_thingNumbered (l : Launch) (hl9 : l.stackTraces = false) (D : va_G) (e0 sz : Nat) (x xk xb xo xa xt xp xs : Nat) (near : Int32) (p0 : Int32) : KT l yX5_thingNumbered wsX5_thingNumbered ({ frames := 6, cells := 1, slots := 6, locals := 84 } : Room) [.ref x, .int p0] D [(x, .inr (7, [.ref xk, .ref xb, .ref xo, .ref xa, .int near, .int 0, .int 0, .int 0])), (xb, .inr (3, [.ref xt, .ref xp, .ref xs, .int 0])), (xt, .inr (1, [.int 0, .ref e0, .int 0]))] [] e0 sz "java/lang/IndexOutOfBoundsException" 1 6 := by
  refine vx_ofW (cc := cX5_thingNumbered) (maxL := 2) (ret := (some (.object "PickCell$Thing"))) (by decide) rfl ?_
  intro p e s m args below meth c s₁ B hml ht0 hv
  obtain ⟨rfl, hsz, hP, hK, hD0, hE⟩ := hv
  have hx := B.exec
  have hb := B.bytes
  have hr := B.returns
  have hts := atoms_spec (ws := wsX5_thingNumbered) B.pre
  have hown : s.vm.findClass RX5 = some m.cls := findClass_of_methodNamed B.named
  have hlocks := B.notSynchronized
  subst hsz
  have hD := hD0.self (sz := s.heap.size)
  generalize hAe : va_A [(x, .inr (7, [.ref xk, .ref xb, .ref xo, .ref xa, .int near, .int 0, .int 0, .int 0])), (xb, .inr (3, [.ref xt, .ref xp, .ref xs, .int 0])), (xt, .inr (1, [.int 0, .ref e0, .int 0]))] s.heap.size = A at hD hE ⊢
  have hA : ∀ q : Nat, s.heap.size ≤ q → A q := fun q h => by rw [← hAe]; exact Or.inr h
  have hS : va_S A s.heap s.heap [] := va_S.rf
  have hP : va_P D vwCl [(x, .inr (7, [.ref xk, .ref xb, .ref xo, .ref xa, .int near, .int 0, .int 0, .int 0])), (xb, .inr (3, [.ref xt, .ref xp, .ref xs, .int 0])), (xt, .inr (1, [.int 0, .ref e0, .int 0]))] s.heap := hP
  have hl := lv_entry ([.ref x, .int p0]) (n := 2) (Nat.le_of_ble_eq_true rfl)
  rw [lg_entry_eq]
  generalize (lg_sl ([.ref x, .int p0]) ++ List.replicate (2 - (lg_sl ([.ref x, .int p0])).length) Slot.unset).toArray = ls at hl ⊢
  have hl : lv_has ls 2 [(0, .ref x), (1, .int p0)] := hl
  refine lv_iload_n hx hb dX5_thingNumbered_0 rfl (lv_at hl 1 rfl) ?_
  refine lv_if_lt (tgt := 18) hx hb dX5_thingNumbered_1 (by decide) (fun c_1 => ?_) (fun c_1 => ?_)
  · exact kthrowW (X := "java/lang/IndexOutOfBoundsException") (tx := "there is no such thing") (ik := 270) (is := 351) (ic := 274) ⟨hx, hb, hml, hown, hts⟩ hl9 hS hE (by decide) (by decide +kernel) (by decide +kernel) (by decide +kernel) (by decide +kernel) (by decide +kernel) (by decide +kernel) hl.1 dX5_thingNumbered_18 dX5_thingNumbered_21 dX5_thingNumbered_22 dX5_thingNumbered_25 dX5_thingNumbered_28 ht0 (Nat.le_of_ble_eq_true rfl) (Nat.le_of_ble_eq_true rfl) (Nat.le_of_ble_eq_true rfl) (Nat.le_of_ble_eq_true rfl) hlocks trivial (Nat.le_of_ble_eq_true rfl) (Nat.le_of_ble_eq_true rfl)
  · refine lv_iload_n hx hb dX5_thingNumbered_4 rfl (lv_at hl 1 rfl) ?_
    refine lv_aload_n hx hb dX5_thingNumbered_5 rfl (lv_at hl 0 rfl) ?_
    refine va_get (D := D) (ci := 7) (v := .ref xb) (C := RX5) (T := TX5) (N := 8) hx hb hts (by decide +kernel) hown hK hP 0 rfl rfl 1 (by decide) (hts (.fieldLink RX5 19 "PickCell" "bin" "LPickCell$Bin;") (by decide +kernel)) (fun _ h9 => h9) rfl dX5_thingNumbered_6 ?_
    refine va_get (D := D) (ci := 3) (v := .ref xt) (C := RX1) (T := TX1) (N := 4) hx hb hts (by decide +kernel) hown hK hP 1 rfl rfl 0 (by decide) (hts (.fieldLink RX5 92 "PickCell$Bin" "things" "Ljava/util/ArrayList;") (by decide +kernel)) (fun _ h9 => h9) rfl dX5_thingNumbered_9 ?_
    refine kV_i (As := []) (rest := [.int p0]) (wr := [(x, .inr (7, [.ref xk, .ref xb, .ref xo, .ref xa, .int near, .int 0, .int 0, .int 0])), (xb, .inr (3, [.ref xt, .ref xp, .ref xs, .int 0]))]) ⟨hx, hb, hml, hown, hts⟩ (c_size l D e0 _ xt 0 0 (.ref e0)) (cwV 0 hts gX5_thingNumbered_Jx4a65c_size_8abf5 rfl rfl rfl (by decide +kernel) ⟨Nat.le_of_ble_eq_true rfl, Nat.le_of_ble_eq_true rfl⟩) hP hD hK hS hA hE rfl [2] [0, 1] [] rfl rfl (by decide) (by decide) (by decide) rfl 1 2 rfl rfl rfl rfl hl.1 (Nat.le_of_ble_eq_true rfl) dX5_thingNumbered_12 ⟨Nat.le_of_ble_eq_true rfl, Nat.le_of_ble_eq_true rfl⟩ (fun r_1 u9 H locs hw hP hD hK hS => ?_)
    have hw : r_1 = 0 := hw
    subst hw
    have hP : va_P D vwCl [(x, .inr (7, [.ref xk, .ref xb, .ref xo, .ref xa, .int near, .int 0, .int 0, .int 0])), (xb, .inr (3, [.ref xt, .ref xp, .ref xs, .int 0])), (xt, .inr (1, [.int 0, .ref e0, .int 0]))] H := hP
    have hD : va_D A [(x, .inr (7, [.ref xk, .ref xb, .ref xo, .ref xa, .int near, .int 0, .int 0, .int 0])), (xb, .inr (3, [.ref xt, .ref xp, .ref xs, .int 0])), (xt, .inr (1, [.int 0, .ref e0, .int 0]))] := hD
    have hK : va_K D vwCl [] s := hK
    refine lv_icmp_lt (tgt := 29) hx hb dX5_thingNumbered_15 (by decide) (fun h9 => False.elim (c_1 h9)) (fun c_15 => ?_)
    exact kthrowW (X := "java/lang/IndexOutOfBoundsException") (tx := "there is no such thing") (ik := 270) (is := 351) (ic := 274) ⟨hx, hb, hml, hown, hts⟩ hl9 hS hE (by decide) (by decide +kernel) (by decide +kernel) (by decide +kernel) (by decide +kernel) (by decide +kernel) (by decide +kernel) hl.1 dX5_thingNumbered_18 dX5_thingNumbered_21 dX5_thingNumbered_22 dX5_thingNumbered_25 dX5_thingNumbered_28 ht0 (Nat.le_of_ble_eq_true rfl) (Nat.le_of_ble_eq_true rfl) (Nat.le_of_ble_eq_true rfl) (Nat.le_of_ble_eq_true rfl) hlocks trivial (Nat.le_of_ble_eq_true rfl) (Nat.le_of_ble_eq_true rfl)
set_option maxHeartbeats 4000000 in
set_option maxRecDepth 100000 in
/-- boxNumbered: there is none -/
theorem c_boxNumbered (l : Launch) (hl9 : l.stackTraces = false) (D : va_G) (e0 sz : Nat) (x xk xb xo xa : Nat) (near : Int32) (p0 : Int32) : KT l yX5_boxNumbered wsX5_boxNumbered ({ frames := 6, cells := 1, slots := 6, locals := 84 } : Room) [.ref x, .int p0] D [(x, .inr (7, [.ref xk, .ref xb, .ref xo, .ref xa, .int near, .int 0, .int 0, .int 0])), (xo, .inr (1, [.int 0, .ref e0, .int 0]))] [] e0 sz "java/lang/IndexOutOfBoundsException" 1 6 := by
  refine vx_ofW (cc := cX5_boxNumbered) (maxL := 2) (ret := (some (.object "PickCell$Box"))) (by decide) rfl ?_
  intro p e s m args below meth c s₁ B hml ht0 hv
  obtain ⟨rfl, hsz, hP, hK, hD0, hE⟩ := hv
  have hx := B.exec
  have hb := B.bytes
  have hr := B.returns
  have hts := atoms_spec (ws := wsX5_boxNumbered) B.pre
  have hown : s.vm.findClass RX5 = some m.cls := findClass_of_methodNamed B.named
  have hlocks := B.notSynchronized
  subst hsz
  have hD := hD0.self (sz := s.heap.size)
  generalize hAe : va_A [(x, .inr (7, [.ref xk, .ref xb, .ref xo, .ref xa, .int near, .int 0, .int 0, .int 0])), (xo, .inr (1, [.int 0, .ref e0, .int 0]))] s.heap.size = A at hD hE ⊢
  have hA : ∀ q : Nat, s.heap.size ≤ q → A q := fun q h => by rw [← hAe]; exact Or.inr h
  have hS : va_S A s.heap s.heap [] := va_S.rf
  have hP : va_P D vwCl [(x, .inr (7, [.ref xk, .ref xb, .ref xo, .ref xa, .int near, .int 0, .int 0, .int 0])), (xo, .inr (1, [.int 0, .ref e0, .int 0]))] s.heap := hP
  have hl := lv_entry ([.ref x, .int p0]) (n := 2) (Nat.le_of_ble_eq_true rfl)
  rw [lg_entry_eq]
  generalize (lg_sl ([.ref x, .int p0]) ++ List.replicate (2 - (lg_sl ([.ref x, .int p0])).length) Slot.unset).toArray = ls at hl ⊢
  have hl : lv_has ls 2 [(0, .ref x), (1, .int p0)] := hl
  refine lv_iload_n hx hb dX5_boxNumbered_0 rfl (lv_at hl 1 rfl) ?_
  refine lv_if_lt (tgt := 15) hx hb dX5_boxNumbered_1 (by decide) (fun c_1 => ?_) (fun c_1 => ?_)
  · exact kthrowW (X := "java/lang/IndexOutOfBoundsException") (tx := "there is no such box") (ik := 270) (is := 353) (ic := 274) ⟨hx, hb, hml, hown, hts⟩ hl9 hS hE (by decide) (by decide +kernel) (by decide +kernel) (by decide +kernel) (by decide +kernel) (by decide +kernel) (by decide +kernel) hl.1 dX5_boxNumbered_15 dX5_boxNumbered_18 dX5_boxNumbered_19 dX5_boxNumbered_22 dX5_boxNumbered_25 ht0 (Nat.le_of_ble_eq_true rfl) (Nat.le_of_ble_eq_true rfl) (Nat.le_of_ble_eq_true rfl) (Nat.le_of_ble_eq_true rfl) hlocks trivial (Nat.le_of_ble_eq_true rfl) (Nat.le_of_ble_eq_true rfl)
  · refine lv_iload_n hx hb dX5_boxNumbered_4 rfl (lv_at hl 1 rfl) ?_
    refine lv_aload_n hx hb dX5_boxNumbered_5 rfl (lv_at hl 0 rfl) ?_
    refine va_get (D := D) (ci := 7) (v := .ref xo) (C := RX5) (T := TX5) (N := 8) hx hb hts (by decide +kernel) hown hK hP 0 rfl rfl 2 (by decide) (hts (.fieldLink RX5 23 "PickCell" "boxes" "Ljava/util/ArrayList;") (by decide +kernel)) (fun _ h9 => h9) rfl dX5_boxNumbered_6 ?_
    refine kV_i (As := []) (rest := [.int p0]) (wr := [(x, .inr (7, [.ref xk, .ref xb, .ref xo, .ref xa, .int near, .int 0, .int 0, .int 0]))]) ⟨hx, hb, hml, hown, hts⟩ (c_size l D e0 _ xo 0 0 (.ref e0)) (cwV 0 hts gX5_boxNumbered_Jx4a65c_size_8abf5 rfl rfl rfl (by decide +kernel) ⟨Nat.le_of_ble_eq_true rfl, Nat.le_of_ble_eq_true rfl⟩) hP hD hK hS hA hE rfl [1] [0] [] rfl rfl (by decide) (by decide) (by decide) rfl 1 1 rfl rfl rfl rfl hl.1 (Nat.le_of_ble_eq_true rfl) dX5_boxNumbered_9 ⟨Nat.le_of_ble_eq_true rfl, Nat.le_of_ble_eq_true rfl⟩ (fun r_1 u9 H locs hw hP hD hK hS => ?_)
    have hw : r_1 = 0 := hw
    subst hw
    have hP : va_P D vwCl [(x, .inr (7, [.ref xk, .ref xb, .ref xo, .ref xa, .int near, .int 0, .int 0, .int 0])), (xo, .inr (1, [.int 0, .ref e0, .int 0]))] H := hP
    have hD : va_D A [(x, .inr (7, [.ref xk, .ref xb, .ref xo, .ref xa, .int near, .int 0, .int 0, .int 0])), (xo, .inr (1, [.int 0, .ref e0, .int 0]))] := hD
    have hK : va_K D vwCl [] s := hK
    refine lv_icmp_lt (tgt := 26) hx hb dX5_boxNumbered_12 (by decide) (fun h9 => False.elim (c_1 h9)) (fun c_12 => ?_)
    exact kthrowW (X := "java/lang/IndexOutOfBoundsException") (tx := "there is no such box") (ik := 270) (is := 353) (ic := 274) ⟨hx, hb, hml, hown, hts⟩ hl9 hS hE (by decide) (by decide +kernel) (by decide +kernel) (by decide +kernel) (by decide +kernel) (by decide +kernel) (by decide +kernel) hl.1 dX5_boxNumbered_15 dX5_boxNumbered_18 dX5_boxNumbered_19 dX5_boxNumbered_22 dX5_boxNumbered_25 ht0 (Nat.le_of_ble_eq_true rfl) (Nat.le_of_ble_eq_true rfl) (Nat.le_of_ble_eq_true rfl) (Nat.le_of_ble_eq_true rfl) hlocks trivial (Nat.le_of_ble_eq_true rfl) (Nat.le_of_ble_eq_true rfl)
set_option maxHeartbeats 4000000 in
set_option maxRecDepth 100000 in
/-- fall: on a new object -/
theorem c_fall (l : Launch) (hl9 : l.stackTraces = false) (D : va_G) (e0 sz : Nat) (x xk xb xo xa : Nat) (near : Int32) (p0 p1 p2 : Int32) : KT l yX5_fall wsX5_fall ({ frames := 7, cells := 1, slots := 6, locals := 105 } : Room) [.ref x, .int p0, .int p1, .int p2] D [(x, .inr (7, [.ref xk, .ref xb, .ref xo, .ref xa, .int near, .int 0, .int 0, .int 0])), (xk, .inr (1, [.int 0, .ref e0, .int 0]))] [] e0 sz "java/lang/IndexOutOfBoundsException" 1 6 := by
  refine vx_ofW (cc := cX5_fall) (maxL := 6) (ret := (some .int)) (by decide) rfl ?_
  intro p e s m args below meth c s₁ B hml ht0 hv
  obtain ⟨rfl, hsz, hP, hK, hD0, hE⟩ := hv
  have hx := B.exec
  have hb := B.bytes
  have hr := B.returns
  have hts := atoms_spec (ws := wsX5_fall) B.pre
  have hown : s.vm.findClass RX5 = some m.cls := findClass_of_methodNamed B.named
  have hlocks := B.notSynchronized
  subst hsz
  have hD := hD0.self (sz := s.heap.size)
  generalize hAe : va_A [(x, .inr (7, [.ref xk, .ref xb, .ref xo, .ref xa, .int near, .int 0, .int 0, .int 0])), (xk, .inr (1, [.int 0, .ref e0, .int 0]))] s.heap.size = A at hD hE ⊢
  have hA : ∀ q : Nat, s.heap.size ≤ q → A q := fun q h => by rw [← hAe]; exact Or.inr h
  have hS : va_S A s.heap s.heap [] := va_S.rf
  have hP : va_P D vwCl [(x, .inr (7, [.ref xk, .ref xb, .ref xo, .ref xa, .int near, .int 0, .int 0, .int 0])), (xk, .inr (1, [.int 0, .ref e0, .int 0]))] s.heap := hP
  have hl := lv_entry ([.ref x, .int p0, .int p1, .int p2]) (n := 6) (Nat.le_of_ble_eq_true rfl)
  rw [lg_entry_eq]
  generalize (lg_sl ([.ref x, .int p0, .int p1, .int p2]) ++ List.replicate (6 - (lg_sl ([.ref x, .int p0, .int p1, .int p2])).length) Slot.unset).toArray = ls at hl ⊢
  have hl : lv_has ls 6 [(0, .ref x), (1, .int p0), (2, .int p1), (3, .int p2)] := hl
  refine lv_aload_n hx hb dX5_fall_0 rfl (lv_at hl 0 rfl) ?_
  refine lv_iload_n hx hb dX5_fall_1 rfl (lv_at hl 1 rfl) ?_
  exact kTV_out (As := [.int p0]) (rest := []) (wr := []) ⟨hx, hb, hml, hown, hts⟩ (c_kindNumbered l hl9 D e0 _ x xk xb xo xa near p0) (cwV 1 hts gX5_fall_X5_kindNumbered rfl rfl rfl (by decide +kernel) ⟨Nat.le_of_ble_eq_true rfl, Nat.le_of_ble_eq_true rfl⟩) hP hD hK hS hA hE rfl [0, 1] [] [] rfl rfl (by decide) (by decide) (by decide) rfl 7 0 rfl rfl rfl rfl hl.1 (Nat.le_of_ble_eq_true rfl) dX5_fall_2 ⟨Nat.le_of_ble_eq_true rfl, Nat.le_of_ble_eq_true rfl⟩ ht0 hlocks (Nat.le_of_ble_eq_true rfl) (Nat.le_of_ble_eq_true rfl)
set_option maxHeartbeats 4000000 in
set_option maxRecDepth 100000 in
/-- tangle: on a new object -/
theorem c_tangle (l : Launch) (hl9 : l.stackTraces = false) (D : va_G) (e0 sz : Nat) (x xk xb xo xa xt xp xs : Nat) (near : Int32) (p0 p1 : Int32) : KT l yX5_tangle wsX5_tangle ({ frames := 7, cells := 1, slots := 6, locals := 105 } : Room) [.ref x, .int p0, .int p1] D [(x, .inr (7, [.ref xk, .ref xb, .ref xo, .ref xa, .int near, .int 0, .int 0, .int 0])), (xb, .inr (3, [.ref xt, .ref xp, .ref xs, .int 0])), (xt, .inr (1, [.int 0, .ref e0, .int 0]))] [] e0 sz "java/lang/IndexOutOfBoundsException" 1 6 := by
  refine vx_ofW (cc := cX5_tangle) (maxL := 5) (ret := (some .int)) (by decide) rfl ?_
  intro p e s m args below meth c s₁ B hml ht0 hv
  obtain ⟨rfl, hsz, hP, hK, hD0, hE⟩ := hv
  have hx := B.exec
  have hb := B.bytes
  have hr := B.returns
  have hts := atoms_spec (ws := wsX5_tangle) B.pre
  have hown : s.vm.findClass RX5 = some m.cls := findClass_of_methodNamed B.named
  have hlocks := B.notSynchronized
  subst hsz
  have hD := hD0.self (sz := s.heap.size)
  generalize hAe : va_A [(x, .inr (7, [.ref xk, .ref xb, .ref xo, .ref xa, .int near, .int 0, .int 0, .int 0])), (xb, .inr (3, [.ref xt, .ref xp, .ref xs, .int 0])), (xt, .inr (1, [.int 0, .ref e0, .int 0]))] s.heap.size = A at hD hE ⊢
  have hA : ∀ q : Nat, s.heap.size ≤ q → A q := fun q h => by rw [← hAe]; exact Or.inr h
  have hS : va_S A s.heap s.heap [] := va_S.rf
  have hP : va_P D vwCl [(x, .inr (7, [.ref xk, .ref xb, .ref xo, .ref xa, .int near, .int 0, .int 0, .int 0])), (xb, .inr (3, [.ref xt, .ref xp, .ref xs, .int 0])), (xt, .inr (1, [.int 0, .ref e0, .int 0]))] s.heap := hP
  have hl := lv_entry ([.ref x, .int p0, .int p1]) (n := 5) (Nat.le_of_ble_eq_true rfl)
  rw [lg_entry_eq]
  generalize (lg_sl ([.ref x, .int p0, .int p1]) ++ List.replicate (5 - (lg_sl ([.ref x, .int p0, .int p1])).length) Slot.unset).toArray = ls at hl ⊢
  have hl : lv_has ls 5 [(0, .ref x), (1, .int p0), (2, .int p1)] := hl
  refine lv_aload_n hx hb dX5_tangle_0 rfl (lv_at hl 0 rfl) ?_
  refine lv_iload_n hx hb dX5_tangle_1 rfl (lv_at hl 1 rfl) ?_
  exact kTV_out (As := [.int p0]) (rest := []) (wr := []) ⟨hx, hb, hml, hown, hts⟩ (c_thingNumbered l hl9 D e0 _ x xk xb xo xa xt xp xs near p0) (cwV 1 hts gX5_tangle_X5_thingNumbered rfl rfl rfl (by decide +kernel) ⟨Nat.le_of_ble_eq_true rfl, Nat.le_of_ble_eq_true rfl⟩) hP hD hK hS hA hE rfl [0, 1, 2] [] [] rfl rfl (by decide) (by decide) (by decide) rfl 7 0 rfl rfl rfl rfl hl.1 (Nat.le_of_ble_eq_true rfl) dX5_tangle_2 ⟨Nat.le_of_ble_eq_true rfl, Nat.le_of_ble_eq_true rfl⟩ ht0 hlocks (Nat.le_of_ble_eq_true rfl) (Nat.le_of_ble_eq_true rfl)
set_option maxHeartbeats 4000000 in
set_option maxRecDepth 100000 in
/-- shake: on a new object -/
theorem c_shake (l : Launch) (hl9 : l.stackTraces = false) (D : va_G) (e0 sz : Nat) (x xk xb xo xa xt xp xs : Nat) (near : Int32) (p0 : Int32) : KT l yX5_shake wsX5_shake ({ frames := 7, cells := 1, slots := 6, locals := 105 } : Room) [.ref x, .int p0] D [(x, .inr (7, [.ref xk, .ref xb, .ref xo, .ref xa, .int near, .int 0, .int 0, .int 0])), (xb, .inr (3, [.ref xt, .ref xp, .ref xs, .int 0])), (xt, .inr (1, [.int 0, .ref e0, .int 0]))] [] e0 sz "java/lang/IndexOutOfBoundsException" 1 6 := by
  refine vx_ofW (cc := cX5_shake) (maxL := 4) (ret := (some .int)) (by decide) rfl ?_
  intro p e s m args below meth c s₁ B hml ht0 hv
  obtain ⟨rfl, hsz, hP, hK, hD0, hE⟩ := hv
  have hx := B.exec
  have hb := B.bytes
  have hr := B.returns
  have hts := atoms_spec (ws := wsX5_shake) B.pre
  have hown : s.vm.findClass RX5 = some m.cls := findClass_of_methodNamed B.named
  have hlocks := B.notSynchronized
  subst hsz
  have hD := hD0.self (sz := s.heap.size)
  generalize hAe : va_A [(x, .inr (7, [.ref xk, .ref xb, .ref xo, .ref xa, .int near, .int 0, .int 0, .int 0])), (xb, .inr (3, [.ref xt, .ref xp, .ref xs, .int 0])), (xt, .inr (1, [.int 0, .ref e0, .int 0]))] s.heap.size = A at hD hE ⊢
  have hA : ∀ q : Nat, s.heap.size ≤ q → A q := fun q h => by rw [← hAe]; exact Or.inr h
  have hS : va_S A s.heap s.heap [] := va_S.rf
  have hP : va_P D vwCl [(x, .inr (7, [.ref xk, .ref xb, .ref xo, .ref xa, .int near, .int 0, .int 0, .int 0])), (xb, .inr (3, [.ref xt, .ref xp, .ref xs, .int 0])), (xt, .inr (1, [.int 0, .ref e0, .int 0]))] s.heap := hP
  have hl := lv_entry ([.ref x, .int p0]) (n := 4) (Nat.le_of_ble_eq_true rfl)
  rw [lg_entry_eq]
  generalize (lg_sl ([.ref x, .int p0]) ++ List.replicate (4 - (lg_sl ([.ref x, .int p0])).length) Slot.unset).toArray = ls at hl ⊢
  have hl : lv_has ls 4 [(0, .ref x), (1, .int p0)] := hl
  refine lv_aload_n hx hb dX5_shake_0 rfl (lv_at hl 0 rfl) ?_
  refine lv_iload_n hx hb dX5_shake_1 rfl (lv_at hl 1 rfl) ?_
  exact kTV_out (As := [.int p0]) (rest := []) (wr := []) ⟨hx, hb, hml, hown, hts⟩ (c_thingNumbered l hl9 D e0 _ x xk xb xo xa xt xp xs near p0) (cwV 1 hts gX5_shake_X5_thingNumbered rfl rfl rfl (by decide +kernel) ⟨Nat.le_of_ble_eq_true rfl, Nat.le_of_ble_eq_true rfl⟩) hP hD hK hS hA hE rfl [0, 1, 2] [] [] rfl rfl (by decide) (by decide) (by decide) rfl 7 0 rfl rfl rfl rfl hl.1 (Nat.le_of_ble_eq_true rfl) dX5_shake_2 ⟨Nat.le_of_ble_eq_true rfl, Nat.le_of_ble_eq_true rfl⟩ ht0 hlocks (Nat.le_of_ble_eq_true rfl) (Nat.le_of_ble_eq_true rfl)
set_option maxHeartbeats 4000000 in
set_option maxRecDepth 100000 in
/-- pick: on a new object -/
theorem c_pick (l : Launch) (hl9 : l.stackTraces = false) (D : va_G) (e0 sz : Nat) (x xk xb xo xa xt xp xs : Nat) (near : Int32) (p0 p1 : Int32) : KT l yX5_pick wsX5_pick ({ frames := 7, cells := 1, slots := 6, locals := 105 } : Room) [.ref x, .int p0, .int p1] D [(x, .inr (7, [.ref xk, .ref xb, .ref xo, .ref xa, .int near, .int 0, .int 0, .int 0])), (xb, .inr (3, [.ref xt, .ref xp, .ref xs, .int 0])), (xt, .inr (1, [.int 0, .ref e0, .int 0]))] [] e0 sz "java/lang/IndexOutOfBoundsException" 1 6 := by
  refine vx_ofW (cc := cX5_pick) (maxL := 5) (ret := (some .int)) (by decide) rfl ?_
  intro p e s m args below meth c s₁ B hml ht0 hv
  obtain ⟨rfl, hsz, hP, hK, hD0, hE⟩ := hv
  have hx := B.exec
  have hb := B.bytes
  have hr := B.returns
  have hts := atoms_spec (ws := wsX5_pick) B.pre
  have hown : s.vm.findClass RX5 = some m.cls := findClass_of_methodNamed B.named
  have hlocks := B.notSynchronized
  subst hsz
  have hD := hD0.self (sz := s.heap.size)
  generalize hAe : va_A [(x, .inr (7, [.ref xk, .ref xb, .ref xo, .ref xa, .int near, .int 0, .int 0, .int 0])), (xb, .inr (3, [.ref xt, .ref xp, .ref xs, .int 0])), (xt, .inr (1, [.int 0, .ref e0, .int 0]))] s.heap.size = A at hD hE ⊢
  have hA : ∀ q : Nat, s.heap.size ≤ q → A q := fun q h => by rw [← hAe]; exact Or.inr h
  have hS : va_S A s.heap s.heap [] := va_S.rf
  have hP : va_P D vwCl [(x, .inr (7, [.ref xk, .ref xb, .ref xo, .ref xa, .int near, .int 0, .int 0, .int 0])), (xb, .inr (3, [.ref xt, .ref xp, .ref xs, .int 0])), (xt, .inr (1, [.int 0, .ref e0, .int 0]))] s.heap := hP
  have hl := lv_entry ([.ref x, .int p0, .int p1]) (n := 5) (Nat.le_of_ble_eq_true rfl)
  rw [lg_entry_eq]
  generalize (lg_sl ([.ref x, .int p0, .int p1]) ++ List.replicate (5 - (lg_sl ([.ref x, .int p0, .int p1])).length) Slot.unset).toArray = ls at hl ⊢
  have hl : lv_has ls 5 [(0, .ref x), (1, .int p0), (2, .int p1)] := hl
  refine lv_aload_n hx hb dX5_pick_0 rfl (lv_at hl 0 rfl) ?_
  refine lv_iload_n hx hb dX5_pick_1 rfl (lv_at hl 1 rfl) ?_
  exact kTV_out (As := [.int p0]) (rest := []) (wr := []) ⟨hx, hb, hml, hown, hts⟩ (c_thingNumbered l hl9 D e0 _ x xk xb xo xa xt xp xs near p0) (cwV 1 hts gX5_pick_X5_thingNumbered rfl rfl rfl (by decide +kernel) ⟨Nat.le_of_ble_eq_true rfl, Nat.le_of_ble_eq_true rfl⟩) hP hD hK hS hA hE rfl [0, 1, 2] [] [] rfl rfl (by decide) (by decide) (by decide) rfl 7 0 rfl rfl rfl rfl hl.1 (Nat.le_of_ble_eq_true rfl) dX5_pick_2 ⟨Nat.le_of_ble_eq_true rfl, Nat.le_of_ble_eq_true rfl⟩ ht0 hlocks (Nat.le_of_ble_eq_true rfl) (Nat.le_of_ble_eq_true rfl)
set_option maxHeartbeats 4000000 in
set_option maxRecDepth 100000 in
/-- put: on a new object -/
theorem c_put (l : Launch) (hl9 : l.stackTraces = false) (D : va_G) (e0 sz : Nat) (x xk xb xo xa : Nat) (near : Int32) (p0 : Int32) : KT l yX5_put wsX5_put ({ frames := 7, cells := 1, slots := 6, locals := 105 } : Room) [.ref x, .int p0] D [(x, .inr (7, [.ref xk, .ref xb, .ref xo, .ref xa, .int near, .int 0, .int 0, .int 0])), (xo, .inr (1, [.int 0, .ref e0, .int 0]))] [] e0 sz "java/lang/IndexOutOfBoundsException" 1 6 := by
  refine vx_ofW (cc := cX5_put) (maxL := 5) (ret := (some .int)) (by decide) rfl ?_
  intro p e s m args below meth c s₁ B hml ht0 hv
  obtain ⟨rfl, hsz, hP, hK, hD0, hE⟩ := hv
  have hx := B.exec
  have hb := B.bytes
  have hr := B.returns
  have hts := atoms_spec (ws := wsX5_put) B.pre
  have hown : s.vm.findClass RX5 = some m.cls := findClass_of_methodNamed B.named
  have hlocks := B.notSynchronized
  subst hsz
  have hD := hD0.self (sz := s.heap.size)
  generalize hAe : va_A [(x, .inr (7, [.ref xk, .ref xb, .ref xo, .ref xa, .int near, .int 0, .int 0, .int 0])), (xo, .inr (1, [.int 0, .ref e0, .int 0]))] s.heap.size = A at hD hE ⊢
  have hA : ∀ q : Nat, s.heap.size ≤ q → A q := fun q h => by rw [← hAe]; exact Or.inr h
  have hS : va_S A s.heap s.heap [] := va_S.rf
  have hP : va_P D vwCl [(x, .inr (7, [.ref xk, .ref xb, .ref xo, .ref xa, .int near, .int 0, .int 0, .int 0])), (xo, .inr (1, [.int 0, .ref e0, .int 0]))] s.heap := hP
  have hl := lv_entry ([.ref x, .int p0]) (n := 5) (Nat.le_of_ble_eq_true rfl)
  rw [lg_entry_eq]
  generalize (lg_sl ([.ref x, .int p0]) ++ List.replicate (5 - (lg_sl ([.ref x, .int p0])).length) Slot.unset).toArray = ls at hl ⊢
  have hl : lv_has ls 5 [(0, .ref x), (1, .int p0)] := hl
  refine lv_aload_n hx hb dX5_put_0 rfl (lv_at hl 0 rfl) ?_
  refine lv_iload_n hx hb dX5_put_1 rfl (lv_at hl 1 rfl) ?_
  exact kTV_out (As := [.int p0]) (rest := []) (wr := []) ⟨hx, hb, hml, hown, hts⟩ (c_boxNumbered l hl9 D e0 _ x xk xb xo xa near p0) (cwV 1 hts gX5_put_X5_boxNumbered rfl rfl rfl (by decide +kernel) ⟨Nat.le_of_ble_eq_true rfl, Nat.le_of_ble_eq_true rfl⟩) hP hD hK hS hA hE rfl [0, 1] [] [] rfl rfl (by decide) (by decide) (by decide) rfl 7 0 rfl rfl rfl rfl hl.1 (Nat.le_of_ble_eq_true rfl) dX5_put_2 ⟨Nat.le_of_ble_eq_true rfl, Nat.le_of_ble_eq_true rfl⟩ ht0 hlocks (Nat.le_of_ble_eq_true rfl) (Nat.le_of_ble_eq_true rfl)
set_option maxHeartbeats 4000000 in
set_option maxRecDepth 100000 in
/-- close: on a new object -/
theorem c_close (l : Launch) (hl9 : l.stackTraces = false) (D : va_G) (e0 sz : Nat) (x xk xb xo xa : Nat) (near : Int32) (p0 : Int32) : KT l yX5_close wsX5_close ({ frames := 7, cells := 1, slots := 6, locals := 105 } : Room) [.ref x, .int p0] D [(x, .inr (7, [.ref xk, .ref xb, .ref xo, .ref xa, .int near, .int 0, .int 0, .int 0])), (xo, .inr (1, [.int 0, .ref e0, .int 0]))] [] e0 sz "java/lang/IndexOutOfBoundsException" 1 6 := by
  refine vx_ofW (cc := cX5_close) (maxL := 3) (ret := (some .int)) (by decide) rfl ?_
  intro p e s m args below meth c s₁ B hml ht0 hv
  obtain ⟨rfl, hsz, hP, hK, hD0, hE⟩ := hv
  have hx := B.exec
  have hb := B.bytes
  have hr := B.returns
  have hts := atoms_spec (ws := wsX5_close) B.pre
  have hown : s.vm.findClass RX5 = some m.cls := findClass_of_methodNamed B.named
  have hlocks := B.notSynchronized
  subst hsz
  have hD := hD0.self (sz := s.heap.size)
  generalize hAe : va_A [(x, .inr (7, [.ref xk, .ref xb, .ref xo, .ref xa, .int near, .int 0, .int 0, .int 0])), (xo, .inr (1, [.int 0, .ref e0, .int 0]))] s.heap.size = A at hD hE ⊢
  have hA : ∀ q : Nat, s.heap.size ≤ q → A q := fun q h => by rw [← hAe]; exact Or.inr h
  have hS : va_S A s.heap s.heap [] := va_S.rf
  have hP : va_P D vwCl [(x, .inr (7, [.ref xk, .ref xb, .ref xo, .ref xa, .int near, .int 0, .int 0, .int 0])), (xo, .inr (1, [.int 0, .ref e0, .int 0]))] s.heap := hP
  have hl := lv_entry ([.ref x, .int p0]) (n := 3) (Nat.le_of_ble_eq_true rfl)
  rw [lg_entry_eq]
  generalize (lg_sl ([.ref x, .int p0]) ++ List.replicate (3 - (lg_sl ([.ref x, .int p0])).length) Slot.unset).toArray = ls at hl ⊢
  have hl : lv_has ls 3 [(0, .ref x), (1, .int p0)] := hl
  refine lv_aload_n hx hb dX5_close_0 rfl (lv_at hl 0 rfl) ?_
  refine lv_iload_n hx hb dX5_close_1 rfl (lv_at hl 1 rfl) ?_
  exact kTV_out (As := [.int p0]) (rest := []) (wr := []) ⟨hx, hb, hml, hown, hts⟩ (c_boxNumbered l hl9 D e0 _ x xk xb xo xa near p0) (cwV 1 hts gX5_close_X5_boxNumbered rfl rfl rfl (by decide +kernel) ⟨Nat.le_of_ble_eq_true rfl, Nat.le_of_ble_eq_true rfl⟩) hP hD hK hS hA hE rfl [0, 1] [] [] rfl rfl (by decide) (by decide) (by decide) rfl 7 0 rfl rfl rfl rfl hl.1 (Nat.le_of_ble_eq_true rfl) dX5_close_2 ⟨Nat.le_of_ble_eq_true rfl, Nat.le_of_ble_eq_true rfl⟩ ht0 hlocks (Nat.le_of_ble_eq_true rfl) (Nat.le_of_ble_eq_true rfl)
set_option maxHeartbeats 4000000 in
set_option maxRecDepth 100000 in
/-- ofKind: on a new object -/
theorem c_ofKind (l : Launch) (hl9 : l.stackTraces = false) (D : va_G) (e0 sz : Nat) (x xk xb xo xa : Nat) (near : Int32) (p0 p1 : Int32) : KT l yX5_ofKind wsX5_ofKind ({ frames := 7, cells := 1, slots := 6, locals := 105 } : Room) [.ref x, .int p0, .int p1] D [(x, .inr (7, [.ref xk, .ref xb, .ref xo, .ref xa, .int near, .int 0, .int 0, .int 0])), (xk, .inr (1, [.int 0, .ref e0, .int 0]))] [] e0 sz "java/lang/IndexOutOfBoundsException" 1 6 := by
  refine vx_ofW (cc := cX5_ofKind) (maxL := 4) (ret := (some .int)) (by decide) rfl ?_
  intro p e s m args below meth c s₁ B hml ht0 hv
  obtain ⟨rfl, hsz, hP, hK, hD0, hE⟩ := hv
  have hx := B.exec
  have hb := B.bytes
  have hr := B.returns
  have hts := atoms_spec (ws := wsX5_ofKind) B.pre
  have hown : s.vm.findClass RX5 = some m.cls := findClass_of_methodNamed B.named
  have hlocks := B.notSynchronized
  subst hsz
  have hD := hD0.self (sz := s.heap.size)
  generalize hAe : va_A [(x, .inr (7, [.ref xk, .ref xb, .ref xo, .ref xa, .int near, .int 0, .int 0, .int 0])), (xk, .inr (1, [.int 0, .ref e0, .int 0]))] s.heap.size = A at hD hE ⊢
  have hA : ∀ q : Nat, s.heap.size ≤ q → A q := fun q h => by rw [← hAe]; exact Or.inr h
  have hS : va_S A s.heap s.heap [] := va_S.rf
  have hP : va_P D vwCl [(x, .inr (7, [.ref xk, .ref xb, .ref xo, .ref xa, .int near, .int 0, .int 0, .int 0])), (xk, .inr (1, [.int 0, .ref e0, .int 0]))] s.heap := hP
  have hl := lv_entry ([.ref x, .int p0, .int p1]) (n := 4) (Nat.le_of_ble_eq_true rfl)
  rw [lg_entry_eq]
  generalize (lg_sl ([.ref x, .int p0, .int p1]) ++ List.replicate (4 - (lg_sl ([.ref x, .int p0, .int p1])).length) Slot.unset).toArray = ls at hl ⊢
  have hl : lv_has ls 4 [(0, .ref x), (1, .int p0), (2, .int p1)] := hl
  refine lv_aload_n hx hb dX5_ofKind_0 rfl (lv_at hl 0 rfl) ?_
  refine lv_iload_n hx hb dX5_ofKind_1 rfl (lv_at hl 1 rfl) ?_
  exact kTV_out (As := [.int p0]) (rest := []) (wr := []) ⟨hx, hb, hml, hown, hts⟩ (c_kindNumbered l hl9 D e0 _ x xk xb xo xa near p0) (cwV 1 hts gX5_ofKind_X5_kindNumbered rfl rfl rfl (by decide +kernel) ⟨Nat.le_of_ble_eq_true rfl, Nat.le_of_ble_eq_true rfl⟩) hP hD hK hS hA hE rfl [0, 1] [] [] rfl rfl (by decide) (by decide) (by decide) rfl 7 0 rfl rfl rfl rfl hl.1 (Nat.le_of_ble_eq_true rfl) dX5_ofKind_2 ⟨Nat.le_of_ble_eq_true rfl, Nat.le_of_ble_eq_true rfl⟩ ht0 hlocks (Nat.le_of_ble_eq_true rfl) (Nat.le_of_ble_eq_true rfl)
set_option maxHeartbeats 4000000 in
set_option maxRecDepth 100000 in
/-- ofThing: on a new object -/
theorem c_ofThing (l : Launch) (hl9 : l.stackTraces = false) (D : va_G) (e0 sz : Nat) (x xk xb xo xa xt xp xs : Nat) (near : Int32) (p0 p1 : Int32) : KT l yX5_ofThing wsX5_ofThing ({ frames := 7, cells := 1, slots := 6, locals := 105 } : Room) [.ref x, .int p0, .int p1] D [(x, .inr (7, [.ref xk, .ref xb, .ref xo, .ref xa, .int near, .int 0, .int 0, .int 0])), (xb, .inr (3, [.ref xt, .ref xp, .ref xs, .int 0])), (xt, .inr (1, [.int 0, .ref e0, .int 0]))] [] e0 sz "java/lang/IndexOutOfBoundsException" 1 6 := by
  refine vx_ofW (cc := cX5_ofThing) (maxL := 4) (ret := (some .int)) (by decide) rfl ?_
  intro p e s m args below meth c s₁ B hml ht0 hv
  obtain ⟨rfl, hsz, hP, hK, hD0, hE⟩ := hv
  have hx := B.exec
  have hb := B.bytes
  have hr := B.returns
  have hts := atoms_spec (ws := wsX5_ofThing) B.pre
  have hown : s.vm.findClass RX5 = some m.cls := findClass_of_methodNamed B.named
  have hlocks := B.notSynchronized
  subst hsz
  have hD := hD0.self (sz := s.heap.size)
  generalize hAe : va_A [(x, .inr (7, [.ref xk, .ref xb, .ref xo, .ref xa, .int near, .int 0, .int 0, .int 0])), (xb, .inr (3, [.ref xt, .ref xp, .ref xs, .int 0])), (xt, .inr (1, [.int 0, .ref e0, .int 0]))] s.heap.size = A at hD hE ⊢
  have hA : ∀ q : Nat, s.heap.size ≤ q → A q := fun q h => by rw [← hAe]; exact Or.inr h
  have hS : va_S A s.heap s.heap [] := va_S.rf
  have hP : va_P D vwCl [(x, .inr (7, [.ref xk, .ref xb, .ref xo, .ref xa, .int near, .int 0, .int 0, .int 0])), (xb, .inr (3, [.ref xt, .ref xp, .ref xs, .int 0])), (xt, .inr (1, [.int 0, .ref e0, .int 0]))] s.heap := hP
  have hl := lv_entry ([.ref x, .int p0, .int p1]) (n := 4) (Nat.le_of_ble_eq_true rfl)
  rw [lg_entry_eq]
  generalize (lg_sl ([.ref x, .int p0, .int p1]) ++ List.replicate (4 - (lg_sl ([.ref x, .int p0, .int p1])).length) Slot.unset).toArray = ls at hl ⊢
  have hl : lv_has ls 4 [(0, .ref x), (1, .int p0), (2, .int p1)] := hl
  refine lv_aload_n hx hb dX5_ofThing_0 rfl (lv_at hl 0 rfl) ?_
  refine lv_iload_n hx hb dX5_ofThing_1 rfl (lv_at hl 1 rfl) ?_
  exact kTV_out (As := [.int p0]) (rest := []) (wr := []) ⟨hx, hb, hml, hown, hts⟩ (c_thingNumbered l hl9 D e0 _ x xk xb xo xa xt xp xs near p0) (cwV 1 hts gX5_ofThing_X5_thingNumbered rfl rfl rfl (by decide +kernel) ⟨Nat.le_of_ble_eq_true rfl, Nat.le_of_ble_eq_true rfl⟩) hP hD hK hS hA hE rfl [0, 1, 2] [] [] rfl rfl (by decide) (by decide) (by decide) rfl 7 0 rfl rfl rfl rfl hl.1 (Nat.le_of_ble_eq_true rfl) dX5_ofThing_2 ⟨Nat.le_of_ble_eq_true rfl, Nat.le_of_ble_eq_true rfl⟩ ht0 hlocks (Nat.le_of_ble_eq_true rfl) (Nat.le_of_ble_eq_true rfl)
set_option maxHeartbeats 4000000 in
set_option maxRecDepth 100000 in
/-- hinders: on a new object -/
theorem c_hinders (l : Launch) (hl9 : l.stackTraces = false) (D : va_G) (e0 sz : Nat) (x xk xb xo xa xt xp xs : Nat) (near : Int32) (p0 p1 : Int32) : KT l yX5_hinders wsX5_hinders ({ frames := 7, cells := 1, slots := 6, locals := 105 } : Room) [.ref x, .int p0, .int p1] D [(x, .inr (7, [.ref xk, .ref xb, .ref xo, .ref xa, .int near, .int 0, .int 0, .int 0])), (xb, .inr (3, [.ref xt, .ref xp, .ref xs, .int 0])), (xt, .inr (1, [.int 0, .ref e0, .int 0]))] [] e0 sz "java/lang/IndexOutOfBoundsException" 1 6 := by
  refine vx_ofW (cc := cX5_hinders) (maxL := 4) (ret := (some .int)) (by decide) rfl ?_
  intro p e s m args below meth c s₁ B hml ht0 hv
  obtain ⟨rfl, hsz, hP, hK, hD0, hE⟩ := hv
  have hx := B.exec
  have hb := B.bytes
  have hr := B.returns
  have hts := atoms_spec (ws := wsX5_hinders) B.pre
  have hown : s.vm.findClass RX5 = some m.cls := findClass_of_methodNamed B.named
  have hlocks := B.notSynchronized
  subst hsz
  have hD := hD0.self (sz := s.heap.size)
  generalize hAe : va_A [(x, .inr (7, [.ref xk, .ref xb, .ref xo, .ref xa, .int near, .int 0, .int 0, .int 0])), (xb, .inr (3, [.ref xt, .ref xp, .ref xs, .int 0])), (xt, .inr (1, [.int 0, .ref e0, .int 0]))] s.heap.size = A at hD hE ⊢
  have hA : ∀ q : Nat, s.heap.size ≤ q → A q := fun q h => by rw [← hAe]; exact Or.inr h
  have hS : va_S A s.heap s.heap [] := va_S.rf
  have hP : va_P D vwCl [(x, .inr (7, [.ref xk, .ref xb, .ref xo, .ref xa, .int near, .int 0, .int 0, .int 0])), (xb, .inr (3, [.ref xt, .ref xp, .ref xs, .int 0])), (xt, .inr (1, [.int 0, .ref e0, .int 0]))] s.heap := hP
  have hl := lv_entry ([.ref x, .int p0, .int p1]) (n := 4) (Nat.le_of_ble_eq_true rfl)
  rw [lg_entry_eq]
  generalize (lg_sl ([.ref x, .int p0, .int p1]) ++ List.replicate (4 - (lg_sl ([.ref x, .int p0, .int p1])).length) Slot.unset).toArray = ls at hl ⊢
  have hl : lv_has ls 4 [(0, .ref x), (1, .int p0), (2, .int p1)] := hl
  refine lv_aload_n hx hb dX5_hinders_0 rfl (lv_at hl 0 rfl) ?_
  refine lv_iload_n hx hb dX5_hinders_1 rfl (lv_at hl 1 rfl) ?_
  exact kTV_out (As := [.int p0]) (rest := []) (wr := []) ⟨hx, hb, hml, hown, hts⟩ (c_thingNumbered l hl9 D e0 _ x xk xb xo xa xt xp xs near p0) (cwV 1 hts gX5_hinders_X5_thingNumbered rfl rfl rfl (by decide +kernel) ⟨Nat.le_of_ble_eq_true rfl, Nat.le_of_ble_eq_true rfl⟩) hP hD hK hS hA hE rfl [0, 1, 2] [] [] rfl rfl (by decide) (by decide) (by decide) rfl 7 0 rfl rfl rfl rfl hl.1 (Nat.le_of_ble_eq_true rfl) dX5_hinders_2 ⟨Nat.le_of_ble_eq_true rfl, Nat.le_of_ble_eq_true rfl⟩ ht0 hlocks (Nat.le_of_ble_eq_true rfl) (Nat.le_of_ble_eq_true rfl)
set_option maxHeartbeats 4000000 in
set_option maxRecDepth 100000 in
/-- force: on a new object -/
theorem c_force (l : Launch) (hl9 : l.stackTraces = false) (D : va_G) (e0 sz : Nat) (x xk xb xo xa xt xp xs : Nat) (near : Int32) (p0 p1 : Int32) : KT l yX5_force wsX5_force ({ frames := 7, cells := 1, slots := 6, locals := 105 } : Room) [.ref x, .int p0, .int p1] D [(x, .inr (7, [.ref xk, .ref xb, .ref xo, .ref xa, .int near, .int 0, .int 0, .int 0])), (xb, .inr (3, [.ref xt, .ref xp, .ref xs, .int 0])), (xt, .inr (1, [.int 0, .ref e0, .int 0]))] [] e0 sz "java/lang/IndexOutOfBoundsException" 1 6 := by
  refine vx_ofW (cc := cX5_force) (maxL := 4) (ret := (some .double)) (by decide) rfl ?_
  intro p e s m args below meth c s₁ B hml ht0 hv
  obtain ⟨rfl, hsz, hP, hK, hD0, hE⟩ := hv
  have hx := B.exec
  have hb := B.bytes
  have hr := B.returns
  have hts := atoms_spec (ws := wsX5_force) B.pre
  have hown : s.vm.findClass RX5 = some m.cls := findClass_of_methodNamed B.named
  have hlocks := B.notSynchronized
  subst hsz
  have hD := hD0.self (sz := s.heap.size)
  generalize hAe : va_A [(x, .inr (7, [.ref xk, .ref xb, .ref xo, .ref xa, .int near, .int 0, .int 0, .int 0])), (xb, .inr (3, [.ref xt, .ref xp, .ref xs, .int 0])), (xt, .inr (1, [.int 0, .ref e0, .int 0]))] s.heap.size = A at hD hE ⊢
  have hA : ∀ q : Nat, s.heap.size ≤ q → A q := fun q h => by rw [← hAe]; exact Or.inr h
  have hS : va_S A s.heap s.heap [] := va_S.rf
  have hP : va_P D vwCl [(x, .inr (7, [.ref xk, .ref xb, .ref xo, .ref xa, .int near, .int 0, .int 0, .int 0])), (xb, .inr (3, [.ref xt, .ref xp, .ref xs, .int 0])), (xt, .inr (1, [.int 0, .ref e0, .int 0]))] s.heap := hP
  have hl := lv_entry ([.ref x, .int p0, .int p1]) (n := 4) (Nat.le_of_ble_eq_true rfl)
  rw [lg_entry_eq]
  generalize (lg_sl ([.ref x, .int p0, .int p1]) ++ List.replicate (4 - (lg_sl ([.ref x, .int p0, .int p1])).length) Slot.unset).toArray = ls at hl ⊢
  have hl : lv_has ls 4 [(0, .ref x), (1, .int p0), (2, .int p1)] := hl
  refine lv_aload_n hx hb dX5_force_0 rfl (lv_at hl 0 rfl) ?_
  refine lv_iload_n hx hb dX5_force_1 rfl (lv_at hl 1 rfl) ?_
  exact kTV_out (As := [.int p0]) (rest := []) (wr := []) ⟨hx, hb, hml, hown, hts⟩ (c_thingNumbered l hl9 D e0 _ x xk xb xo xa xt xp xs near p0) (cwV 1 hts gX5_force_X5_thingNumbered rfl rfl rfl (by decide +kernel) ⟨Nat.le_of_ble_eq_true rfl, Nat.le_of_ble_eq_true rfl⟩) hP hD hK hS hA hE rfl [0, 1, 2] [] [] rfl rfl (by decide) (by decide) (by decide) rfl 7 0 rfl rfl rfl rfl hl.1 (Nat.le_of_ble_eq_true rfl) dX5_force_2 ⟨Nat.le_of_ble_eq_true rfl, Nat.le_of_ble_eq_true rfl⟩ ht0 hlocks (Nat.le_of_ble_eq_true rfl) (Nat.le_of_ble_eq_true rfl)
set_option maxHeartbeats 4000000 in
set_option maxRecDepth 100000 in
/-- ticks: on a new object -/
theorem c_ticks (l : Launch) (hl9 : l.stackTraces = false) (D : va_G) (e0 sz : Nat) (x xk xb xo xa xt xp xs : Nat) (near : Int32) (p0 p1 : Int32) : KT l yX5_ticks wsX5_ticks ({ frames := 7, cells := 1, slots := 6, locals := 105 } : Room) [.ref x, .int p0, .int p1] D [(x, .inr (7, [.ref xk, .ref xb, .ref xo, .ref xa, .int near, .int 0, .int 0, .int 0])), (xb, .inr (3, [.ref xt, .ref xp, .ref xs, .int 0])), (xt, .inr (1, [.int 0, .ref e0, .int 0]))] [] e0 sz "java/lang/IndexOutOfBoundsException" 1 6 := by
  refine vx_ofW (cc := cX5_ticks) (maxL := 4) (ret := (some .double)) (by decide) rfl ?_
  intro p e s m args below meth c s₁ B hml ht0 hv
  obtain ⟨rfl, hsz, hP, hK, hD0, hE⟩ := hv
  have hx := B.exec
  have hb := B.bytes
  have hr := B.returns
  have hts := atoms_spec (ws := wsX5_ticks) B.pre
  have hown : s.vm.findClass RX5 = some m.cls := findClass_of_methodNamed B.named
  have hlocks := B.notSynchronized
  subst hsz
  have hD := hD0.self (sz := s.heap.size)
  generalize hAe : va_A [(x, .inr (7, [.ref xk, .ref xb, .ref xo, .ref xa, .int near, .int 0, .int 0, .int 0])), (xb, .inr (3, [.ref xt, .ref xp, .ref xs, .int 0])), (xt, .inr (1, [.int 0, .ref e0, .int 0]))] s.heap.size = A at hD hE ⊢
  have hA : ∀ q : Nat, s.heap.size ≤ q → A q := fun q h => by rw [← hAe]; exact Or.inr h
  have hS : va_S A s.heap s.heap [] := va_S.rf
  have hP : va_P D vwCl [(x, .inr (7, [.ref xk, .ref xb, .ref xo, .ref xa, .int near, .int 0, .int 0, .int 0])), (xb, .inr (3, [.ref xt, .ref xp, .ref xs, .int 0])), (xt, .inr (1, [.int 0, .ref e0, .int 0]))] s.heap := hP
  have hl := lv_entry ([.ref x, .int p0, .int p1]) (n := 4) (Nat.le_of_ble_eq_true rfl)
  rw [lg_entry_eq]
  generalize (lg_sl ([.ref x, .int p0, .int p1]) ++ List.replicate (4 - (lg_sl ([.ref x, .int p0, .int p1])).length) Slot.unset).toArray = ls at hl ⊢
  have hl : lv_has ls 4 [(0, .ref x), (1, .int p0), (2, .int p1)] := hl
  refine lv_aload_n hx hb dX5_ticks_0 rfl (lv_at hl 0 rfl) ?_
  refine lv_iload_n hx hb dX5_ticks_1 rfl (lv_at hl 1 rfl) ?_
  exact kTV_out (As := [.int p0]) (rest := []) (wr := []) ⟨hx, hb, hml, hown, hts⟩ (c_thingNumbered l hl9 D e0 _ x xk xb xo xa xt xp xs near p0) (cwV 1 hts gX5_ticks_X5_thingNumbered rfl rfl rfl (by decide +kernel) ⟨Nat.le_of_ble_eq_true rfl, Nat.le_of_ble_eq_true rfl⟩) hP hD hK hS hA hE rfl [0, 1, 2] [] [] rfl rfl (by decide) (by decide) (by decide) rfl 7 0 rfl rfl rfl rfl hl.1 (Nat.le_of_ble_eq_true rfl) dX5_ticks_2 ⟨Nat.le_of_ble_eq_true rfl, Nat.le_of_ble_eq_true rfl⟩ ht0 hlocks (Nat.le_of_ble_eq_true rfl) (Nat.le_of_ble_eq_true rfl)
set_option maxHeartbeats 4000000 in
set_option maxRecDepth 100000 in
/-- ofBox: on a new object -/
theorem c_ofBox (l : Launch) (hl9 : l.stackTraces = false) (D : va_G) (e0 sz : Nat) (x xk xb xo xa : Nat) (near : Int32) (p0 p1 : Int32) : KT l yX5_ofBox wsX5_ofBox ({ frames := 7, cells := 1, slots := 6, locals := 105 } : Room) [.ref x, .int p0, .int p1] D [(x, .inr (7, [.ref xk, .ref xb, .ref xo, .ref xa, .int near, .int 0, .int 0, .int 0])), (xo, .inr (1, [.int 0, .ref e0, .int 0]))] [] e0 sz "java/lang/IndexOutOfBoundsException" 1 6 := by
  refine vx_ofW (cc := cX5_ofBox) (maxL := 4) (ret := (some .int)) (by decide) rfl ?_
  intro p e s m args below meth c s₁ B hml ht0 hv
  obtain ⟨rfl, hsz, hP, hK, hD0, hE⟩ := hv
  have hx := B.exec
  have hb := B.bytes
  have hr := B.returns
  have hts := atoms_spec (ws := wsX5_ofBox) B.pre
  have hown : s.vm.findClass RX5 = some m.cls := findClass_of_methodNamed B.named
  have hlocks := B.notSynchronized
  subst hsz
  have hD := hD0.self (sz := s.heap.size)
  generalize hAe : va_A [(x, .inr (7, [.ref xk, .ref xb, .ref xo, .ref xa, .int near, .int 0, .int 0, .int 0])), (xo, .inr (1, [.int 0, .ref e0, .int 0]))] s.heap.size = A at hD hE ⊢
  have hA : ∀ q : Nat, s.heap.size ≤ q → A q := fun q h => by rw [← hAe]; exact Or.inr h
  have hS : va_S A s.heap s.heap [] := va_S.rf
  have hP : va_P D vwCl [(x, .inr (7, [.ref xk, .ref xb, .ref xo, .ref xa, .int near, .int 0, .int 0, .int 0])), (xo, .inr (1, [.int 0, .ref e0, .int 0]))] s.heap := hP
  have hl := lv_entry ([.ref x, .int p0, .int p1]) (n := 4) (Nat.le_of_ble_eq_true rfl)
  rw [lg_entry_eq]
  generalize (lg_sl ([.ref x, .int p0, .int p1]) ++ List.replicate (4 - (lg_sl ([.ref x, .int p0, .int p1])).length) Slot.unset).toArray = ls at hl ⊢
  have hl : lv_has ls 4 [(0, .ref x), (1, .int p0), (2, .int p1)] := hl
  refine lv_aload_n hx hb dX5_ofBox_0 rfl (lv_at hl 0 rfl) ?_
  refine lv_iload_n hx hb dX5_ofBox_1 rfl (lv_at hl 1 rfl) ?_
  exact kTV_out (As := [.int p0]) (rest := []) (wr := []) ⟨hx, hb, hml, hown, hts⟩ (c_boxNumbered l hl9 D e0 _ x xk xb xo xa near p0) (cwV 1 hts gX5_ofBox_X5_boxNumbered rfl rfl rfl (by decide +kernel) ⟨Nat.le_of_ble_eq_true rfl, Nat.le_of_ble_eq_true rfl⟩) hP hD hK hS hA hE rfl [0, 1] [] [] rfl rfl (by decide) (by decide) (by decide) rfl 7 0 rfl rfl rfl rfl hl.1 (Nat.le_of_ble_eq_true rfl) dX5_ofBox_2 ⟨Nat.le_of_ble_eq_true rfl, Nat.le_of_ble_eq_true rfl⟩ ht0 hlocks (Nat.le_of_ble_eq_true rfl) (Nat.le_of_ble_eq_true rfl)
set_option maxHeartbeats 4000000 in
set_option maxRecDepth 100000 in
/-- ahead: on a new object -/
theorem c_ahead (l : Launch) (hl9 : l.stackTraces = false) (D : va_G) (e0 sz : Nat) (x xk xb xo xa xt xp xs : Nat) (near : Int32) (p0 : Int32) : KT l yX5_ahead wsX5_ahead ({ frames := 7, cells := 1, slots := 6, locals := 105 } : Room) [.ref x, .int p0] D [(x, .inr (7, [.ref xk, .ref xb, .ref xo, .ref xa, .int near, .int 0, .int 0, .int 0])), (xb, .inr (3, [.ref xt, .ref xp, .ref xs, .int 0])), (xt, .inr (1, [.int 0, .ref e0, .int 0]))] [] e0 sz "java/lang/IndexOutOfBoundsException" 1 6 := by
  refine vx_ofW (cc := cX5_ahead) (maxL := 2) (ret := (some .int)) (by decide) rfl ?_
  intro p e s m args below meth c s₁ B hml ht0 hv
  obtain ⟨rfl, hsz, hP, hK, hD0, hE⟩ := hv
  have hx := B.exec
  have hb := B.bytes
  have hr := B.returns
  have hts := atoms_spec (ws := wsX5_ahead) B.pre
  have hown : s.vm.findClass RX5 = some m.cls := findClass_of_methodNamed B.named
  have hlocks := B.notSynchronized
  subst hsz
  have hD := hD0.self (sz := s.heap.size)
  generalize hAe : va_A [(x, .inr (7, [.ref xk, .ref xb, .ref xo, .ref xa, .int near, .int 0, .int 0, .int 0])), (xb, .inr (3, [.ref xt, .ref xp, .ref xs, .int 0])), (xt, .inr (1, [.int 0, .ref e0, .int 0]))] s.heap.size = A at hD hE ⊢
  have hA : ∀ q : Nat, s.heap.size ≤ q → A q := fun q h => by rw [← hAe]; exact Or.inr h
  have hS : va_S A s.heap s.heap [] := va_S.rf
  have hP : va_P D vwCl [(x, .inr (7, [.ref xk, .ref xb, .ref xo, .ref xa, .int near, .int 0, .int 0, .int 0])), (xb, .inr (3, [.ref xt, .ref xp, .ref xs, .int 0])), (xt, .inr (1, [.int 0, .ref e0, .int 0]))] s.heap := hP
  have hl := lv_entry ([.ref x, .int p0]) (n := 2) (Nat.le_of_ble_eq_true rfl)
  rw [lg_entry_eq]
  generalize (lg_sl ([.ref x, .int p0]) ++ List.replicate (2 - (lg_sl ([.ref x, .int p0])).length) Slot.unset).toArray = ls at hl ⊢
  have hl : lv_has ls 2 [(0, .ref x), (1, .int p0)] := hl
  refine lv_aload_n hx hb dX5_ahead_0 rfl (lv_at hl 0 rfl) ?_
  refine va_get (D := D) (ci := 7) (v := .ref xb) (C := RX5) (T := TX5) (N := 8) hx hb hts (by decide +kernel) hown hK hP 0 rfl rfl 1 (by decide) (hts (.fieldLink RX5 19 "PickCell" "bin" "LPickCell$Bin;") (by decide +kernel)) (fun _ h9 => h9) rfl dX5_ahead_1 ?_
  refine lv_aload_n hx hb dX5_ahead_4 rfl (lv_at hl 0 rfl) ?_
  refine lv_iload_n hx hb dX5_ahead_5 rfl (lv_at hl 1 rfl) ?_
  exact kTV_out (As := [.int p0]) (rest := [.ref xb]) (wr := []) ⟨hx, hb, hml, hown, hts⟩ (c_thingNumbered l hl9 D e0 _ x xk xb xo xa xt xp xs near p0) (cwV 1 hts gX5_ahead_X5_thingNumbered rfl rfl rfl (by decide +kernel) ⟨Nat.le_of_ble_eq_true rfl, Nat.le_of_ble_eq_true rfl⟩) hP hD hK hS hA hE rfl [0, 1, 2] [] [] rfl rfl (by decide) (by decide) (by decide) rfl 7 0 rfl rfl rfl rfl hl.1 (Nat.le_of_ble_eq_true rfl) dX5_ahead_6 ⟨Nat.le_of_ble_eq_true rfl, Nat.le_of_ble_eq_true rfl⟩ ht0 hlocks (Nat.le_of_ble_eq_true rfl) (Nat.le_of_ble_eq_true rfl)
set_option maxHeartbeats 4000000 in
set_option maxRecDepth 100000 in
/-- next: on a new object -/
theorem c_next (l : Launch) (hl9 : l.stackTraces = false) (D : va_G) (e0 sz : Nat) (x xk xb xo xa : Nat) (near : Int32) (p0 : Int32) : KT l yX5_next wsX5_next ({ frames := 7, cells := 1, slots := 6, locals := 105 } : Room) [.ref x, .int p0] D [(x, .inr (7, [.ref xk, .ref xb, .ref xo, .ref xa, .int near, .int 0, .int 0, .int 0])), (xk, .inr (1, [.int 0, .ref e0, .int 0]))] [] e0 sz "java/lang/IndexOutOfBoundsException" 1 6 := by
  refine vx_ofW (cc := cX5_next) (maxL := 12) (ret := (some .int)) (by decide) rfl ?_
  intro p e s m args below meth c s₁ B hml ht0 hv
  obtain ⟨rfl, hsz, hP, hK, hD0, hE⟩ := hv
  have hx := B.exec
  have hb := B.bytes
  have hr := B.returns
  have hts := atoms_spec (ws := wsX5_next) B.pre
  have hown : s.vm.findClass RX5 = some m.cls := findClass_of_methodNamed B.named
  have hlocks := B.notSynchronized
  subst hsz
  have hD := hD0.self (sz := s.heap.size)
  generalize hAe : va_A [(x, .inr (7, [.ref xk, .ref xb, .ref xo, .ref xa, .int near, .int 0, .int 0, .int 0])), (xk, .inr (1, [.int 0, .ref e0, .int 0]))] s.heap.size = A at hD hE ⊢
  have hA : ∀ q : Nat, s.heap.size ≤ q → A q := fun q h => by rw [← hAe]; exact Or.inr h
  have hS : va_S A s.heap s.heap [] := va_S.rf
  have hP : va_P D vwCl [(x, .inr (7, [.ref xk, .ref xb, .ref xo, .ref xa, .int near, .int 0, .int 0, .int 0])), (xk, .inr (1, [.int 0, .ref e0, .int 0]))] s.heap := hP
  have hl := lv_entry ([.ref x, .int p0]) (n := 12) (Nat.le_of_ble_eq_true rfl)
  rw [lg_entry_eq]
  generalize (lg_sl ([.ref x, .int p0]) ++ List.replicate (12 - (lg_sl ([.ref x, .int p0])).length) Slot.unset).toArray = ls at hl ⊢
  have hl : lv_has ls 12 [(0, .ref x), (1, .int p0)] := hl
  refine lv_aload_n hx hb dX5_next_0 rfl (lv_at hl 0 rfl) ?_
  refine lv_iload_n hx hb dX5_next_1 rfl (lv_at hl 1 rfl) ?_
  exact kTV_out (As := [.int p0]) (rest := []) (wr := []) ⟨hx, hb, hml, hown, hts⟩ (c_kindNumbered l hl9 D e0 _ x xk xb xo xa near p0) (cwV 1 hts gX5_next_X5_kindNumbered rfl rfl rfl (by decide +kernel) ⟨Nat.le_of_ble_eq_true rfl, Nat.le_of_ble_eq_true rfl⟩) hP hD hK hS hA hE rfl [0, 1] [] [] rfl rfl (by decide) (by decide) (by decide) rfl 7 0 rfl rfl rfl rfl hl.1 (Nat.le_of_ble_eq_true rfl) dX5_next_2 ⟨Nat.le_of_ble_eq_true rfl, Nat.le_of_ble_eq_true rfl⟩ ht0 hlocks (Nat.le_of_ble_eq_true rfl) (Nat.le_of_ble_eq_true rfl)
set_option maxHeartbeats 4000000 in
set_option maxRecDepth 100000 in
/-- wouldFit: on a new object -/
theorem c_wouldFit (l : Launch) (hl9 : l.stackTraces = false) (D : va_G) (e0 sz : Nat) (x xk xb xo xa xt xp xs : Nat) (near : Int32) (p0 p1 : Int32) : KT l yX5_wouldFit wsX5_wouldFit ({ frames := 7, cells := 1, slots := 6, locals := 105 } : Room) [.ref x, .int p0, .int p1] D [(x, .inr (7, [.ref xk, .ref xb, .ref xo, .ref xa, .int near, .int 0, .int 0, .int 0])), (xb, .inr (3, [.ref xt, .ref xp, .ref xs, .int 0])), (xt, .inr (1, [.int 0, .ref e0, .int 0]))] [] e0 sz "java/lang/IndexOutOfBoundsException" 1 6 := by
  refine vx_ofW (cc := cX5_wouldFit) (maxL := 5) (ret := (some .int)) (by decide) rfl ?_
  intro p e s m args below meth c s₁ B hml ht0 hv
  obtain ⟨rfl, hsz, hP, hK, hD0, hE⟩ := hv
  have hx := B.exec
  have hb := B.bytes
  have hr := B.returns
  have hts := atoms_spec (ws := wsX5_wouldFit) B.pre
  have hown : s.vm.findClass RX5 = some m.cls := findClass_of_methodNamed B.named
  have hlocks := B.notSynchronized
  subst hsz
  have hD := hD0.self (sz := s.heap.size)
  generalize hAe : va_A [(x, .inr (7, [.ref xk, .ref xb, .ref xo, .ref xa, .int near, .int 0, .int 0, .int 0])), (xb, .inr (3, [.ref xt, .ref xp, .ref xs, .int 0])), (xt, .inr (1, [.int 0, .ref e0, .int 0]))] s.heap.size = A at hD hE ⊢
  have hA : ∀ q : Nat, s.heap.size ≤ q → A q := fun q h => by rw [← hAe]; exact Or.inr h
  have hS : va_S A s.heap s.heap [] := va_S.rf
  have hP : va_P D vwCl [(x, .inr (7, [.ref xk, .ref xb, .ref xo, .ref xa, .int near, .int 0, .int 0, .int 0])), (xb, .inr (3, [.ref xt, .ref xp, .ref xs, .int 0])), (xt, .inr (1, [.int 0, .ref e0, .int 0]))] s.heap := hP
  have hl := lv_entry ([.ref x, .int p0, .int p1]) (n := 5) (Nat.le_of_ble_eq_true rfl)
  rw [lg_entry_eq]
  generalize (lg_sl ([.ref x, .int p0, .int p1]) ++ List.replicate (5 - (lg_sl ([.ref x, .int p0, .int p1])).length) Slot.unset).toArray = ls at hl ⊢
  have hl : lv_has ls 5 [(0, .ref x), (1, .int p0), (2, .int p1)] := hl
  refine lv_aload_n hx hb dX5_wouldFit_0 rfl (lv_at hl 0 rfl) ?_
  refine lv_iload_n hx hb dX5_wouldFit_1 rfl (lv_at hl 1 rfl) ?_
  exact kTV_out (As := [.int p0]) (rest := []) (wr := []) ⟨hx, hb, hml, hown, hts⟩ (c_thingNumbered l hl9 D e0 _ x xk xb xo xa xt xp xs near p0) (cwV 1 hts gX5_wouldFit_X5_thingNumbered rfl rfl rfl (by decide +kernel) ⟨Nat.le_of_ble_eq_true rfl, Nat.le_of_ble_eq_true rfl⟩) hP hD hK hS hA hE rfl [0, 1, 2] [] [] rfl rfl (by decide) (by decide) (by decide) rfl 7 0 rfl rfl rfl rfl hl.1 (Nat.le_of_ble_eq_true rfl) dX5_wouldFit_2 ⟨Nat.le_of_ble_eq_true rfl, Nat.le_of_ble_eq_true rfl⟩ ht0 hlocks (Nat.le_of_ble_eq_true rfl) (Nat.le_of_ble_eq_true rfl)
set_option maxHeartbeats 4000000 in
set_option maxRecDepth 100000 in
/-- back(): the arm has none -/
theorem c_back (l : Launch) (hl9 : l.stackTraces = false) (D : va_G) (e0 sz : Nat) (x xk xb xo xa : Nat) (near : Int32) : KT l yX5_back wsX5_back ({ frames := 6, cells := 1, slots := 6, locals := 84 } : Room) [.ref x] D [(x, .inr (7, [.ref xk, .ref xb, .ref xo, .ref xa, .int near, .int 0, .int 0, .int 0])), (xa, .inr (2, [.int 0, .int 0, .int 0, .null, .int 0, .double 0]))] [] e0 sz "java/lang/IllegalStateException" 1 6 := by
  refine vx_ofW (cc := cX5_back) (maxL := 2) (ret := (some .int)) (by decide) rfl ?_
  intro p e s m args below meth c s₁ B hml ht0 hv
  obtain ⟨rfl, hsz, hP, hK, hD0, hE⟩ := hv
  have hx := B.exec
  have hb := B.bytes
  have hr := B.returns
  have hts := atoms_spec (ws := wsX5_back) B.pre
  have hown : s.vm.findClass RX5 = some m.cls := findClass_of_methodNamed B.named
  have hlocks := B.notSynchronized
  subst hsz
  have hD := hD0.self (sz := s.heap.size)
  generalize hAe : va_A [(x, .inr (7, [.ref xk, .ref xb, .ref xo, .ref xa, .int near, .int 0, .int 0, .int 0])), (xa, .inr (2, [.int 0, .int 0, .int 0, .null, .int 0, .double 0]))] s.heap.size = A at hD hE ⊢
  have hA : ∀ q : Nat, s.heap.size ≤ q → A q := fun q h => by rw [← hAe]; exact Or.inr h
  have hS : va_S A s.heap s.heap [] := va_S.rf
  have hP : va_P D vwCl [(x, .inr (7, [.ref xk, .ref xb, .ref xo, .ref xa, .int near, .int 0, .int 0, .int 0])), (xa, .inr (2, [.int 0, .int 0, .int 0, .null, .int 0, .double 0]))] s.heap := hP
  have hl := lv_entry ([.ref x]) (n := 2) (Nat.le_of_ble_eq_true rfl)
  rw [lg_entry_eq]
  generalize (lg_sl ([.ref x]) ++ List.replicate (2 - (lg_sl ([.ref x])).length) Slot.unset).toArray = ls at hl ⊢
  have hl : lv_has ls 2 [(0, .ref x)] := hl
  refine lv_aload_n hx hb dX5_back_0 rfl (lv_at hl 0 rfl) ?_
  refine va_get (D := D) (ci := 7) (v := .ref xa) (C := RX5) (T := TX5) (N := 8) hx hb hts (by decide +kernel) hown hK hP 0 rfl rfl 3 (by decide) (hts (.fieldLink RX5 29 "PickCell" "arm" "LPickCell$Arm;") (by decide +kernel)) (fun _ h9 => h9) rfl dX5_back_1 ?_
  refine va_get (D := D) (ci := 2) (v := .null) (C := RX0) (T := TX0) (N := 6) hx hb hts (by decide +kernel) hown hK hP 1 rfl rfl 3 (by decide) (hts (.fieldLink RX5 158 "PickCell$Arm" "held" "LPickCell$Thing;") (by decide +kernel)) (fun _ h9 => h9) rfl dX5_back_4 ?_
  refine lv_astore_nN (lv' := [(1, .null), (0, .ref x)]) hx hb dX5_back_7 rfl hl (by decide) rfl (fun ls hl => ?_)
  refine lv_aload_nN hx hb dX5_back_8 rfl (lv_at hl 0 rfl) ?_
  refine lv_ifnonnullN hx hb dX5_back_9 ?_
  exact kthrow (X := "java/lang/IllegalStateException") (tx := "the arm has none") (ik := 62) (is := 209) (ic := 66) ⟨hx, hb, hml, hown, hts⟩ hl9 hS hE (by decide) (by decide +kernel) (by decide +kernel) (by decide +kernel) (by decide +kernel) (by decide +kernel) (by decide +kernel) hl.1 dX5_back_12 dX5_back_15 dX5_back_16 dX5_back_18 dX5_back_21 ht0 (Nat.le_of_ble_eq_true rfl) (Nat.le_of_ble_eq_true rfl) (Nat.le_of_ble_eq_true rfl) (Nat.le_of_ble_eq_true rfl) hlocks trivial (Nat.le_of_ble_eq_true rfl) (Nat.le_of_ble_eq_true rfl)
