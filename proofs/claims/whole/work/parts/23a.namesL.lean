set_option maxRecDepth 20000 in
theorem ggL_part_X4_part : GoodIn wsL_part wsX4_part := goodIn_ca (goodIn_ca (goodIn_r _ [7, 8, 9, 10, 11, 12, 13, 14, 15, 16, 17, 18, 19, 20, 6, 21, 22, 23, 24, 25, 26, 27, 28, 29, 30, 31, 32, 33, 34, 35, 36, 37, 38, 39, 40, 41, 42, 43, 44, 45, 46, 47, 48, 49, 50, 51, 52, 53, 54, 55, 56, 57, 58, 59, 60, 61, 62, 63, 64] (by decide +kernel) (by decide +kernel)) (goodIn_sub (fun _ h => List.mem_cons_of_mem _ (List.mem_append_left _ (List.mem_append_right _ h))) (by decide +kernel))) (goodIn_sub (fun _ h => List.mem_cons_of_mem _ (List.mem_append_right _ h)) (by decide +kernel))
set_option maxRecDepth 20000 in
theorem gL_part_X4_part : GoodIn wsL_part (wsV RL 7 RX4 yX4_part wsX4_part) := goodIn_app (goodIn_of _ (by decide +kernel)) ggL_part_X4_part
theorem dL_part_0 : decode cL_part 0 = .ok (.aload 9, 2) := by decide +kernel
theorem dL_part_2 : decode cL_part 2 = .ok (.iconst 0, 1) := by decide +kernel
theorem dL_part_3 : decode cL_part 3 = .ok (.aload_n 0, 1) := by decide +kernel
theorem dL_part_4 : decode cL_part 4 = .ok (.lload_n 1, 1) := by decide +kernel
theorem dL_part_5 : decode cL_part 5 = .ok (.lload_n 3, 1) := by decide +kernel
theorem dL_part_6 : decode cL_part 6 = .ok (.iload 5, 2) := by decide +kernel
theorem dL_part_8 : decode cL_part 8 = .ok (.iload 6, 2) := by decide +kernel
theorem dL_part_10 : decode cL_part 10 = .ok (.iload 7, 2) := by decide +kernel
theorem dL_part_12 : decode cL_part 12 = .ok (.iload 8, 2) := by decide +kernel
theorem dL_part_14 : decode cL_part 14 = .ok (.invokevirtual 7, 3) := by decide +kernel
theorem dL_part_17 : decode cL_part 17 = .ok (.i2l, 1) := by decide +kernel
theorem dL_part_18 : decode cL_part 18 = .ok (.lastore, 1) := by decide +kernel
theorem dL_part_19 : decode cL_part 19 = .ok (.goto 11, 3) := by decide +kernel
theorem dL_part_22 : decode cL_part 22 = .ok (.astore 10, 2) := by decide +kernel
theorem dL_part_24 : decode cL_part 24 = .ok (.iconst 1, 1) := by decide +kernel
theorem dL_part_25 : decode cL_part 25 = .ok (.ireturn, 1) := by decide +kernel
theorem dL_part_26 : decode cL_part 26 = .ok (.astore 10, 2) := by decide +kernel
theorem dL_part_28 : decode cL_part 28 = .ok (.iconst 2, 1) := by decide +kernel
theorem dL_part_29 : decode cL_part 29 = .ok (.ireturn, 1) := by decide +kernel
theorem dL_part_30 : decode cL_part 30 = .ok (.iconst 0, 1) := by decide +kernel
theorem dL_part_31 : decode cL_part 31 = .ok (.ireturn, 1) := by decide +kernel
set_option maxRecDepth 20000 in
theorem ggL_units_X4_units : GoodIn wsL_units wsX4_units := goodIn_ca (goodIn_ca (goodIn_r _ [7, 8, 9, 10, 11, 12, 13, 14, 15, 16, 6, 17, 18, 19, 20, 21, 22, 23, 24, 25, 26, 27, 28, 29, 30, 31, 32, 33, 34, 35, 36, 37, 38, 39, 40, 41, 42, 43, 44, 45, 46, 47, 48, 49, 50, 51, 52, 53, 54, 55, 56, 57, 58, 59, 60, 61, 62, 63, 64, 65, 66, 67, 68, 69, 70, 71, 72, 73, 74, 75, 76, 77, 78, 79, 80, 81, 82, 83, 84, 85, 86, 87, 88, 89, 90, 91, 92, 93, 94, 95, 96, 97, 98, 99, 100, 101, 102, 103, 104, 105, 106, 107, 108, 109, 110, 111, 112, 113, 114, 115, 116, 117, 118, 119, 120, 121, 122, 123, 124, 125, 126, 127, 128, 129, 130, 131, 132, 133, 134, 135, 136, 137, 138, 139, 140, 141, 142, 143, 144, 145, 146, 147, 148, 149, 150, 151, 152, 153, 154, 155, 156, 157, 158, 159, 160, 161, 162, 163, 164, 165, 166, 167, 168, 169, 170, 171, 172, 173, 174, 175, 176, 177, 178, 179, 180, 181, 182, 183, 184, 185, 186, 187, 188, 189, 190, 191, 192, 193, 194, 195, 196, 197, 198, 199, 200] (by decide +kernel) (by decide +kernel)) (goodIn_sub (fun _ h => List.mem_cons_of_mem _ (List.mem_append_left _ (List.mem_append_right _ h))) (by decide +kernel))) (goodIn_sub (fun _ h => List.mem_cons_of_mem _ (List.mem_append_right _ h)) (by decide +kernel))
set_option maxRecDepth 20000 in
theorem gL_units_X4_units : GoodIn wsL_units (wsV RL 17 RX4 yX4_units wsX4_units) := goodIn_app (goodIn_of _ (by decide +kernel)) ggL_units_X4_units
theorem dL_units_0 : decode cL_units 0 = .ok (.aload 4, 2) := by decide +kernel
theorem dL_units_2 : decode cL_units 2 = .ok (.iconst 0, 1) := by decide +kernel
theorem dL_units_3 : decode cL_units 3 = .ok (.aload_n 0, 1) := by decide +kernel
theorem dL_units_4 : decode cL_units 4 = .ok (.iload_n 1, 1) := by decide +kernel
theorem dL_units_5 : decode cL_units 5 = .ok (.iload_n 2, 1) := by decide +kernel
theorem dL_units_6 : decode cL_units 6 = .ok (.iload_n 3, 1) := by decide +kernel
theorem dL_units_7 : decode cL_units 7 = .ok (.invokevirtual 17, 3) := by decide +kernel
theorem dL_units_10 : decode cL_units 10 = .ok (.i2l, 1) := by decide +kernel
theorem dL_units_11 : decode cL_units 11 = .ok (.lastore, 1) := by decide +kernel
theorem dL_units_12 : decode cL_units 12 = .ok (.goto 11, 3) := by decide +kernel
theorem dL_units_15 : decode cL_units 15 = .ok (.astore 5, 2) := by decide +kernel
theorem dL_units_17 : decode cL_units 17 = .ok (.iconst 1, 1) := by decide +kernel
theorem dL_units_18 : decode cL_units 18 = .ok (.ireturn, 1) := by decide +kernel
theorem dL_units_19 : decode cL_units 19 = .ok (.astore 5, 2) := by decide +kernel
theorem dL_units_21 : decode cL_units 21 = .ok (.iconst 2, 1) := by decide +kernel
theorem dL_units_22 : decode cL_units 22 = .ok (.ireturn, 1) := by decide +kernel
theorem dL_units_23 : decode cL_units 23 = .ok (.iconst 0, 1) := by decide +kernel
theorem dL_units_24 : decode cL_units 24 = .ok (.ireturn, 1) := by decide +kernel
set_option maxRecDepth 20000 in
theorem ggL_event_X4_event : GoodIn wsL_event wsX4_event := goodIn_ca (goodIn_ca (goodIn_r _ [7, 8, 9, 10, 11, 12, 13, 14, 15, 16, 17, 18, 19, 20, 21, 22, 6, 23, 24, 25, 26, 27, 28, 29, 30, 31, 32, 33, 34, 35, 36, 37, 38, 39, 40, 41, 42, 43, 44, 45, 46, 47, 48, 49, 50, 51, 52, 53, 54, 55, 56, 57, 58, 59, 60, 61, 62, 63, 64, 65, 66, 67, 68, 69, 70, 71, 72, 73, 74, 75, 76, 77, 78, 79, 80, 81, 82, 83, 84, 85, 86, 87, 88, 89, 90, 91, 92, 93, 94, 95, 96, 97, 98, 99, 100, 101, 102, 103, 104, 105, 106, 107, 108, 109, 110, 111, 112, 113, 114, 115, 116, 117, 118, 119, 120, 121, 122, 123, 124, 125, 126, 127, 128, 129, 130, 131, 132, 133, 134, 135, 136, 137, 138, 139, 140, 141, 142, 143, 144, 145, 146, 147, 148, 149, 150, 151, 152, 153, 154, 155, 156, 157, 158, 159, 160, 161, 162, 163, 164, 165, 166, 167, 168, 169, 170, 171, 172, 173, 174, 175, 176, 177, 178, 179, 180, 181, 182, 183, 184, 185, 186, 187, 188, 189, 190, 191, 192, 193, 194, 195, 196, 197, 198, 199, 200, 201, 202, 203, 204, 205, 206, 207, 208, 209, 210, 211, 212, 213, 214, 215, 216, 217, 218, 219, 220, 221, 222] (by decide +kernel) (by decide +kernel)) (goodIn_sub (fun _ h => List.mem_cons_of_mem _ (List.mem_append_left _ (List.mem_append_right _ h))) (by decide +kernel))) (goodIn_sub (fun _ h => List.mem_cons_of_mem _ (List.mem_append_right _ h)) (by decide +kernel))
set_option maxRecDepth 20000 in
theorem gL_event_X4_event : GoodIn wsL_event (wsV RL 21 RX4 yX4_event wsX4_event) := goodIn_app (goodIn_of _ (by decide +kernel)) ggL_event_X4_event
theorem dL_event_0 : decode cL_event 0 = .ok (.aload 7, 2) := by decide +kernel
theorem dL_event_2 : decode cL_event 2 = .ok (.iconst 0, 1) := by decide +kernel
theorem dL_event_3 : decode cL_event 3 = .ok (.aload_n 0, 1) := by decide +kernel
theorem dL_event_4 : decode cL_event 4 = .ok (.iload_n 1, 1) := by decide +kernel
theorem dL_event_5 : decode cL_event 5 = .ok (.iload_n 2, 1) := by decide +kernel
theorem dL_event_6 : decode cL_event 6 = .ok (.iload_n 3, 1) := by decide +kernel
theorem dL_event_7 : decode cL_event 7 = .ok (.lload 4, 2) := by decide +kernel
theorem dL_event_9 : decode cL_event 9 = .ok (.iload 6, 2) := by decide +kernel
theorem dL_event_11 : decode cL_event 11 = .ok (.invokevirtual 21, 3) := by decide +kernel
theorem dL_event_14 : decode cL_event 14 = .ok (.i2l, 1) := by decide +kernel
theorem dL_event_15 : decode cL_event 15 = .ok (.lastore, 1) := by decide +kernel
theorem dL_event_16 : decode cL_event 16 = .ok (.goto 11, 3) := by decide +kernel
theorem dL_event_19 : decode cL_event 19 = .ok (.astore 8, 2) := by decide +kernel
theorem dL_event_21 : decode cL_event 21 = .ok (.iconst 1, 1) := by decide +kernel
theorem dL_event_22 : decode cL_event 22 = .ok (.ireturn, 1) := by decide +kernel
theorem dL_event_23 : decode cL_event 23 = .ok (.astore 8, 2) := by decide +kernel
theorem dL_event_25 : decode cL_event 25 = .ok (.iconst 2, 1) := by decide +kernel
theorem dL_event_26 : decode cL_event 26 = .ok (.ireturn, 1) := by decide +kernel
theorem dL_event_27 : decode cL_event 27 = .ok (.iconst 0, 1) := by decide +kernel
theorem dL_event_28 : decode cL_event 28 = .ok (.ireturn, 1) := by decide +kernel
set_option maxRecDepth 20000 in
theorem ggL_value_X4_value : GoodIn wsL_value wsX4_value := goodIn_ca (goodIn_r _ [6, 7, 8, 9, 10, 11, 12, 13, 14, 5, 15, 16, 17, 18, 19, 20, 21, 22, 23, 24, 25, 26, 27, 28, 29, 30, 31, 32, 33, 34, 35, 36, 37, 38, 39, 40, 41, 42, 43, 44, 45, 46, 47, 48, 49, 50, 51, 52, 53, 54, 55, 56, 57, 58, 59, 60, 61, 62, 63, 64, 65, 66, 67, 68, 69, 70, 71, 72, 73, 74, 75, 76, 77, 78, 79, 80, 81, 82, 83, 84, 85, 86, 87, 88, 89, 90, 91, 92, 93, 94, 95, 96, 97, 98, 99, 100, 101, 102, 103, 104, 105, 106, 107, 108, 109, 110, 111, 112, 113, 114, 115, 116, 117, 118, 119, 120, 121, 122, 123, 124, 125, 126, 127, 128, 129, 130, 131, 132, 133, 134, 135, 136, 137, 138, 139, 140, 141, 142, 143, 144, 145, 146, 147, 148, 149, 150, 151, 152, 153, 154, 155, 156, 157, 158, 159, 160, 161, 162, 163, 164, 165, 166, 167, 168, 169, 170, 171, 172, 173, 174, 175, 176, 177, 178, 179, 180, 181, 182, 183, 184, 185, 186, 187, 188, 189, 190, 191, 192, 193, 194] (by decide +kernel) (by decide +kernel)) (goodIn_sub (fun _ h => List.mem_cons_of_mem _ (List.mem_append_right _ h)) (by decide +kernel))
set_option maxRecDepth 20000 in
theorem gL_value_X4_value : GoodIn wsL_value (wsV RL 25 RX4 yX4_value wsX4_value) := goodIn_app (goodIn_of _ (by decide +kernel)) ggL_value_X4_value
theorem dL_value_0 : decode cL_value 0 = .ok (.aload 4, 2) := by decide +kernel
theorem dL_value_2 : decode cL_value 2 = .ok (.iconst 0, 1) := by decide +kernel
theorem dL_value_3 : decode cL_value 3 = .ok (.aload_n 0, 1) := by decide +kernel
theorem dL_value_4 : decode cL_value 4 = .ok (.iload_n 1, 1) := by decide +kernel
theorem dL_value_5 : decode cL_value 5 = .ok (.iload_n 2, 1) := by decide +kernel
theorem dL_value_6 : decode cL_value 6 = .ok (.iload_n 3, 1) := by decide +kernel
theorem dL_value_7 : decode cL_value 7 = .ok (.invokevirtual 25, 3) := by decide +kernel
theorem dL_value_10 : decode cL_value 10 = .ok (.lastore, 1) := by decide +kernel
theorem dL_value_11 : decode cL_value 11 = .ok (.goto 7, 3) := by decide +kernel
theorem dL_value_14 : decode cL_value 14 = .ok (.astore 5, 2) := by decide +kernel
theorem dL_value_16 : decode cL_value 16 = .ok (.iconst 1, 1) := by decide +kernel
theorem dL_value_17 : decode cL_value 17 = .ok (.ireturn, 1) := by decide +kernel
theorem dL_value_18 : decode cL_value 18 = .ok (.iconst 0, 1) := by decide +kernel
theorem dL_value_19 : decode cL_value 19 = .ok (.ireturn, 1) := by decide +kernel
set_option maxRecDepth 20000 in
theorem ggL_charge_X4_charge : GoodIn wsL_charge wsX4_charge := goodIn_ca (goodIn_r _ [6, 7, 8, 9, 10, 11, 12, 13, 5, 14, 15, 16, 17, 18, 19, 20, 21, 22, 23, 24, 25, 26, 27, 28, 29, 30, 31, 32, 33, 34, 35, 36, 37, 38, 39, 40, 41, 42, 43, 44, 45, 46, 47, 48, 49, 50, 51, 52, 53, 54, 55, 56, 57, 58, 59, 60, 61, 62, 63, 64, 65, 66, 67, 68, 69, 70, 71, 72, 73, 74, 75, 76, 77, 78, 79, 80, 81, 82, 83, 84, 85, 86, 87, 88, 89, 90, 91, 92, 93, 94, 95, 96, 97, 98, 99, 100, 101, 102, 103, 104, 105, 106, 107, 108, 109, 110, 111, 112, 113, 114, 115, 116, 117, 118, 119, 120, 121, 122, 123, 124, 125, 126, 127, 128, 129, 130, 131, 132, 133, 134, 135, 136, 137, 138, 139, 140, 141, 142, 143, 144, 145, 146, 147, 148, 149, 150, 151, 152, 153, 154, 155, 156, 157, 158, 159, 160, 161, 162, 163, 164, 165, 166, 167, 168, 169, 170, 171, 172, 173, 174, 175, 176, 177, 178, 179, 180, 181, 182, 183, 184, 185, 186, 187, 188, 189] (by decide +kernel) (by decide +kernel)) (goodIn_sub (fun _ h => List.mem_cons_of_mem _ (List.mem_append_right _ h)) (by decide +kernel))
set_option maxRecDepth 20000 in
theorem gL_charge_X4_charge : GoodIn wsL_charge (wsV RL 29 RX4 yX4_charge wsX4_charge) := goodIn_app (goodIn_of _ (by decide +kernel)) ggL_charge_X4_charge
theorem dL_charge_0 : decode cL_charge 0 = .ok (.aload_n 3, 1) := by decide +kernel
theorem dL_charge_1 : decode cL_charge 1 = .ok (.iconst 0, 1) := by decide +kernel
theorem dL_charge_2 : decode cL_charge 2 = .ok (.aload_n 0, 1) := by decide +kernel
theorem dL_charge_3 : decode cL_charge 3 = .ok (.iload_n 1, 1) := by decide +kernel
theorem dL_charge_4 : decode cL_charge 4 = .ok (.iload_n 2, 1) := by decide +kernel
theorem dL_charge_5 : decode cL_charge 5 = .ok (.invokevirtual 29, 3) := by decide +kernel
theorem dL_charge_8 : decode cL_charge 8 = .ok (.lastore, 1) := by decide +kernel
theorem dL_charge_9 : decode cL_charge 9 = .ok (.goto 7, 3) := by decide +kernel
theorem dL_charge_12 : decode cL_charge 12 = .ok (.astore 4, 2) := by decide +kernel
theorem dL_charge_14 : decode cL_charge 14 = .ok (.iconst 1, 1) := by decide +kernel
theorem dL_charge_15 : decode cL_charge 15 = .ok (.ireturn, 1) := by decide +kernel
theorem dL_charge_16 : decode cL_charge 16 = .ok (.iconst 0, 1) := by decide +kernel
theorem dL_charge_17 : decode cL_charge 17 = .ok (.ireturn, 1) := by decide +kernel
set_option maxRecDepth 20000 in
theorem ggL_without_X4_without : GoodIn wsL_without wsX4_without := goodIn_ca (goodIn_r _ [6, 7, 8, 9, 10, 11, 12, 13, 5, 14, 15, 16, 17, 18, 19, 20, 21, 22, 23, 24, 25, 26, 27, 28, 29, 30, 31, 32, 33, 34, 35, 36, 37, 38, 39, 40, 41, 42, 43, 44, 45, 46, 47, 48, 49, 50, 51, 52, 53, 54, 55, 56, 57, 58, 59, 60, 61, 62, 63, 64, 65, 66, 67, 68, 69, 70, 71, 72, 73, 74, 75, 76, 77, 78, 79, 80, 81, 82, 83, 84, 85, 86, 87, 88, 89, 90, 91, 92, 93, 94, 95, 96, 97, 98, 99, 100, 101, 102, 103, 104, 105, 106, 107, 108, 109, 110, 111, 112, 113, 114, 115, 116, 117, 118, 119, 120, 121, 122, 123, 124, 125, 126, 127, 128, 129, 130, 131, 132, 133, 134, 135, 136, 137, 138, 139, 140, 141, 142, 143, 144, 145, 146, 147, 148, 149, 150, 151, 152, 153, 154, 155, 156, 157, 158, 159, 160, 161, 162, 163, 164, 165, 166, 167, 168, 169, 170, 171, 172, 173, 174, 175, 176, 177, 178, 179, 180, 181, 182, 183, 184, 185, 186, 187, 188, 189] (by decide +kernel) (by decide +kernel)) (goodIn_sub (fun _ h => List.mem_cons_of_mem _ (List.mem_append_right _ h)) (by decide +kernel))
set_option maxRecDepth 20000 in
theorem gL_without_X4_without : GoodIn wsL_without (wsV RL 33 RX4 yX4_without wsX4_without) := goodIn_app (goodIn_of _ (by decide +kernel)) ggL_without_X4_without
theorem dL_without_0 : decode cL_without 0 = .ok (.aload_n 3, 1) := by decide +kernel
theorem dL_without_1 : decode cL_without 1 = .ok (.iconst 0, 1) := by decide +kernel
theorem dL_without_2 : decode cL_without 2 = .ok (.aload_n 0, 1) := by decide +kernel
theorem dL_without_3 : decode cL_without 3 = .ok (.iload_n 1, 1) := by decide +kernel
theorem dL_without_4 : decode cL_without 4 = .ok (.iload_n 2, 1) := by decide +kernel
theorem dL_without_5 : decode cL_without 5 = .ok (.invokevirtual 33, 3) := by decide +kernel
theorem dL_without_8 : decode cL_without 8 = .ok (.lastore, 1) := by decide +kernel
theorem dL_without_9 : decode cL_without 9 = .ok (.goto 7, 3) := by decide +kernel
theorem dL_without_12 : decode cL_without 12 = .ok (.astore 4, 2) := by decide +kernel
theorem dL_without_14 : decode cL_without 14 = .ok (.iconst 1, 1) := by decide +kernel
theorem dL_without_15 : decode cL_without 15 = .ok (.ireturn, 1) := by decide +kernel
theorem dL_without_16 : decode cL_without 16 = .ok (.iconst 0, 1) := by decide +kernel
theorem dL_without_17 : decode cL_without 17 = .ok (.ireturn, 1) := by decide +kernel
set_option maxRecDepth 20000 in
theorem ggL_post_X4_post : GoodIn wsL_post wsX4_post := goodIn_ca (goodIn_r _ [6, 7, 8, 9, 10, 11, 12, 13, 14, 15, 16, 17, 5, 18, 19, 20, 21, 22, 23, 24, 25, 26, 27, 28, 29, 30, 31, 32, 33, 34, 35, 36, 37, 38, 39, 40, 41, 42, 43, 44, 45, 46, 47, 48, 49, 50, 51, 52, 53, 54, 55, 56, 57, 58, 59, 60, 61, 62, 63, 64, 65, 66, 67, 68, 69, 70, 71, 72, 73, 74, 75, 76, 77, 78, 79, 80, 81, 82, 83, 84, 85, 86, 87, 88, 89, 90, 91, 92, 93, 94, 95, 96, 97, 98, 99, 100, 101, 102, 103, 104, 105, 106, 107, 108, 109, 110, 111, 112, 113, 114, 115, 116, 117, 118, 119, 120, 121, 122, 123, 124, 125, 126, 127, 128, 129, 130, 131, 132, 133, 134, 135, 136, 137, 138, 139, 140, 141, 142, 143, 144, 145, 146, 147, 148, 149, 150, 151, 152, 153, 154, 155, 156, 157, 158, 159, 160, 161, 162, 163, 164, 165, 166, 167, 168, 169, 170, 171, 172, 173, 174, 175, 176, 177, 178, 179, 180, 181, 182, 183, 184, 185, 186, 187, 188, 189] (by decide +kernel) (by decide +kernel)) (goodIn_sub (fun _ h => List.mem_cons_of_mem _ (List.mem_append_right _ h)) (by decide +kernel))
set_option maxRecDepth 20000 in
theorem gL_post_X4_post : GoodIn wsL_post (wsV RL 36 RX4 yX4_post wsX4_post) := goodIn_app (goodIn_of _ (by decide +kernel)) ggL_post_X4_post
theorem dL_post_0 : decode cL_post 0 = .ok (.aload_n 1, 1) := by decide +kernel
theorem dL_post_1 : decode cL_post 1 = .ok (.iconst 0, 1) := by decide +kernel
theorem dL_post_2 : decode cL_post 2 = .ok (.aload_n 0, 1) := by decide +kernel
theorem dL_post_3 : decode cL_post 3 = .ok (.invokevirtual 36, 3) := by decide +kernel
theorem dL_post_6 : decode cL_post 6 = .ok (.lastore, 1) := by decide +kernel
theorem dL_post_7 : decode cL_post 7 = .ok (.goto 6, 3) := by decide +kernel
theorem dL_post_10 : decode cL_post 10 = .ok (.astore_n 2, 1) := by decide +kernel
theorem dL_post_11 : decode cL_post 11 = .ok (.iconst 1, 1) := by decide +kernel
theorem dL_post_12 : decode cL_post 12 = .ok (.ireturn, 1) := by decide +kernel
theorem dL_post_13 : decode cL_post 13 = .ok (.iconst 0, 1) := by decide +kernel
theorem dL_post_14 : decode cL_post 14 = .ok (.ireturn, 1) := by decide +kernel
set_option maxRecDepth 20000 in
theorem ggL_posted_X4_posted : GoodIn wsL_posted wsX4_posted := goodIn_ca (goodIn_r _ [6, 7, 8, 9, 10, 11, 12, 5, 13, 14, 15, 16, 17, 18, 19, 20, 21, 22, 23, 24, 25, 26, 27, 28, 29, 30, 31, 32, 33, 34, 35, 36] (by decide +kernel) (by decide +kernel)) (goodIn_sub (fun _ h => List.mem_cons_of_mem _ (List.mem_append_right _ h)) (by decide +kernel))
set_option maxRecDepth 20000 in
theorem gL_posted_X4_posted : GoodIn wsL_posted (wsV RL 40 RX4 yX4_posted wsX4_posted) := goodIn_app (goodIn_of _ (by decide +kernel)) ggL_posted_X4_posted
theorem dL_posted_0 : decode cL_posted 0 = .ok (.aload_n 3, 1) := by decide +kernel
theorem dL_posted_1 : decode cL_posted 1 = .ok (.iconst 0, 1) := by decide +kernel
theorem dL_posted_2 : decode cL_posted 2 = .ok (.aload_n 0, 1) := by decide +kernel
theorem dL_posted_3 : decode cL_posted 3 = .ok (.iload_n 1, 1) := by decide +kernel
theorem dL_posted_4 : decode cL_posted 4 = .ok (.iload_n 2, 1) := by decide +kernel
theorem dL_posted_5 : decode cL_posted 5 = .ok (.invokevirtual 40, 3) := by decide +kernel
theorem dL_posted_8 : decode cL_posted 8 = .ok (.lastore, 1) := by decide +kernel
theorem dL_posted_9 : decode cL_posted 9 = .ok (.goto 7, 3) := by decide +kernel
theorem dL_posted_12 : decode cL_posted 12 = .ok (.astore 4, 2) := by decide +kernel
theorem dL_posted_14 : decode cL_posted 14 = .ok (.iconst 1, 1) := by decide +kernel
theorem dL_posted_15 : decode cL_posted 15 = .ok (.ireturn, 1) := by decide +kernel
theorem dL_posted_16 : decode cL_posted 16 = .ok (.iconst 0, 1) := by decide +kernel
theorem dL_posted_17 : decode cL_posted 17 = .ok (.ireturn, 1) := by decide +kernel
set_option maxRecDepth 20000 in
theorem ggL_total_X4_total : GoodIn wsL_total wsX4_total := goodIn_ca (goodIn_r _ [6, 7, 8, 9, 10, 11, 12, 5, 13, 14, 15, 16, 17, 18, 19, 20, 21, 22, 23, 24, 25, 26, 27, 28, 29, 30, 31, 32, 33] (by decide +kernel) (by decide +kernel)) (goodIn_sub (fun _ h => List.mem_cons_of_mem _ (List.mem_append_right _ h)) (by decide +kernel))
set_option maxRecDepth 20000 in
theorem gL_total_X4_total : GoodIn wsL_total (wsV RL 43 RX4 yX4_total wsX4_total) := goodIn_app (goodIn_of _ (by decide +kernel)) ggL_total_X4_total
theorem dL_total_0 : decode cL_total 0 = .ok (.aload_n 2, 1) := by decide +kernel
theorem dL_total_1 : decode cL_total 1 = .ok (.iconst 0, 1) := by decide +kernel
theorem dL_total_2 : decode cL_total 2 = .ok (.aload_n 0, 1) := by decide +kernel
theorem dL_total_3 : decode cL_total 3 = .ok (.iload_n 1, 1) := by decide +kernel
theorem dL_total_4 : decode cL_total 4 = .ok (.invokevirtual 43, 3) := by decide +kernel
theorem dL_total_7 : decode cL_total 7 = .ok (.lastore, 1) := by decide +kernel
theorem dL_total_8 : decode cL_total 8 = .ok (.goto 6, 3) := by decide +kernel
theorem dL_total_11 : decode cL_total 11 = .ok (.astore_n 3, 1) := by decide +kernel
theorem dL_total_12 : decode cL_total 12 = .ok (.iconst 1, 1) := by decide +kernel
theorem dL_total_13 : decode cL_total 13 = .ok (.ireturn, 1) := by decide +kernel
theorem dL_total_14 : decode cL_total 14 = .ok (.iconst 0, 1) := by decide +kernel
theorem dL_total_15 : decode cL_total 15 = .ok (.ireturn, 1) := by decide +kernel
