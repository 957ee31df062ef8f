set_option maxRecDepth 20000 in
theorem ggL_area_X6_area : GoodIn wsL_area wsX6_area := goodIn_ca (goodIn_ca (goodIn_ca (goodIn_ca (goodIn_r _ [6, 7, 8, 9, 10, 11, 12, 13, 14, 15, 16, 5, 17, 18, 19, 20, 21, 22, 23, 24, 25, 26, 27, 28, 29, 30, 31, 32, 33, 34, 35, 36, 37, 38, 39, 40, 41, 42, 43, 44, 45, 46, 47, 48, 49, 50, 51, 52, 53, 54, 55] (by decide +kernel) (by decide +kernel)) (goodIn_sub (fun _ h => List.mem_cons_of_mem _ (List.mem_append_left _ (List.mem_append_left _ (List.mem_append_right _ h)))) (by decide +kernel))) (goodIn_sub (fun _ h => List.mem_cons_of_mem _ (List.mem_append_left _ (List.mem_append_right _ h))) (by decide +kernel))) (goodIn_sub (fun _ h => List.mem_cons_of_mem _ (List.mem_append_right _ h)) (by decide +kernel))) (goodIn_sub (fun _ h => List.mem_cons_of_mem _ (List.mem_append_left _ (List.mem_append_left _ (List.mem_append_left _ (List.mem_append_right _ h))))) (by decide +kernel))
set_option maxRecDepth 20000 in
theorem gL_area_X6_area : GoodIn wsL_area (wsV RL 19 RX6 yX6_area wsX6_area) := goodIn_app (goodIn_of _ (by decide +kernel)) ggL_area_X6_area
theorem dL_area_0 : decode cL_area 0 = .ok (.aload 7, 2) := by decide +kernel
theorem dL_area_2 : decode cL_area 2 = .ok (.iconst 0, 1) := by decide +kernel
theorem dL_area_3 : decode cL_area 3 = .ok (.aload_n 0, 1) := by decide +kernel
theorem dL_area_4 : decode cL_area 4 = .ok (.iload_n 1, 1) := by decide +kernel
theorem dL_area_5 : decode cL_area 5 = .ok (.iload_n 2, 1) := by decide +kernel
theorem dL_area_6 : decode cL_area 6 = .ok (.iload_n 3, 1) := by decide +kernel
theorem dL_area_7 : decode cL_area 7 = .ok (.iload 4, 2) := by decide +kernel
theorem dL_area_9 : decode cL_area 9 = .ok (.iload 5, 2) := by decide +kernel
theorem dL_area_11 : decode cL_area 11 = .ok (.iload 6, 2) := by decide +kernel
theorem dL_area_13 : decode cL_area 13 = .ok (.invokevirtual 19, 3) := by decide +kernel
theorem dL_area_21 : decode cL_area 21 = .ok (.astore 8, 2) := by decide +kernel
theorem dL_area_23 : decode cL_area 23 = .ok (.iconst 1, 1) := by decide +kernel
theorem dL_area_24 : decode cL_area 24 = .ok (.ireturn, 1) := by decide +kernel
set_option maxRecDepth 20000 in
theorem ggL_kindAt_X6_kindAt : GoodIn wsL_kindAt wsX6_kindAt := goodIn_ca (goodIn_ca (goodIn_r _ [6, 7, 8, 9, 10, 5, 11, 12, 13, 14, 15, 16, 17, 18, 19, 20, 21, 22, 23, 24, 25, 26, 27, 28, 29, 30, 31, 32, 33, 34, 35, 36, 37, 38, 39, 40, 41, 42, 43, 44, 45, 46, 47, 48, 49] (by decide +kernel) (by decide +kernel)) (goodIn_sub (fun _ h => List.mem_cons_of_mem _ (List.mem_append_right _ h)) (by decide +kernel))) (goodIn_sub (fun _ h => List.mem_cons_of_mem _ (List.mem_append_left _ (List.mem_append_right _ h))) (by decide +kernel))
set_option maxRecDepth 20000 in
theorem gL_kindAt_X6_kindAt : GoodIn wsL_kindAt (wsV RL 25 RX6 yX6_kindAt wsX6_kindAt) := goodIn_app (goodIn_of _ (by decide +kernel)) ggL_kindAt_X6_kindAt
theorem dL_kindAt_0 : decode cL_kindAt 0 = .ok (.aload 4, 2) := by decide +kernel
theorem dL_kindAt_2 : decode cL_kindAt 2 = .ok (.iconst 0, 1) := by decide +kernel
theorem dL_kindAt_3 : decode cL_kindAt 3 = .ok (.aload_n 0, 1) := by decide +kernel
theorem dL_kindAt_4 : decode cL_kindAt 4 = .ok (.iload_n 1, 1) := by decide +kernel
theorem dL_kindAt_5 : decode cL_kindAt 5 = .ok (.iload_n 2, 1) := by decide +kernel
theorem dL_kindAt_6 : decode cL_kindAt 6 = .ok (.iload_n 3, 1) := by decide +kernel
theorem dL_kindAt_7 : decode cL_kindAt 7 = .ok (.invokevirtual 25, 3) := by decide +kernel
theorem dL_kindAt_15 : decode cL_kindAt 15 = .ok (.astore 5, 2) := by decide +kernel
theorem dL_kindAt_17 : decode cL_kindAt 17 = .ok (.iconst 1, 1) := by decide +kernel
theorem dL_kindAt_18 : decode cL_kindAt 18 = .ok (.ireturn, 1) := by decide +kernel
set_option maxRecDepth 20000 in
theorem ggL_setHandicap_X6_setHandicap : GoodIn wsL_setHandicap wsX6_setHandicap := goodIn_ca (goodIn_ca (goodIn_ca (goodIn_r _ [6, 7, 8, 9, 10, 11, 12, 13, 14, 15, 16, 5, 17, 18, 19, 20, 21, 22, 23, 24, 25, 26, 27, 28, 29, 30, 31, 32, 33, 34, 35, 36, 37, 38] (by decide +kernel) (by decide +kernel)) (goodIn_sub (fun _ h => List.mem_cons_of_mem _ (List.mem_append_left _ (List.mem_append_left _ (List.mem_append_right _ h)))) (by decide +kernel))) (goodIn_sub (fun _ h => List.mem_cons_of_mem _ (List.mem_append_left _ (List.mem_append_right _ h))) (by decide +kernel))) (goodIn_sub (fun _ h => List.mem_cons_of_mem _ (List.mem_append_right _ h)) (by decide +kernel))
set_option maxRecDepth 20000 in
theorem gL_setHandicap_X6_setHandicap : GoodIn wsL_setHandicap (wsV RL 33 RX6 yX6_setHandicap wsX6_setHandicap) := goodIn_app (goodIn_of _ (by decide +kernel)) ggL_setHandicap_X6_setHandicap
theorem dL_setHandicap_0 : decode cL_setHandicap 0 = .ok (.aload_n 3, 1) := by decide +kernel
theorem dL_setHandicap_1 : decode cL_setHandicap 1 = .ok (.iconst 0, 1) := by decide +kernel
theorem dL_setHandicap_2 : decode cL_setHandicap 2 = .ok (.aload_n 0, 1) := by decide +kernel
theorem dL_setHandicap_3 : decode cL_setHandicap 3 = .ok (.iload_n 1, 1) := by decide +kernel
theorem dL_setHandicap_4 : decode cL_setHandicap 4 = .ok (.iload_n 2, 1) := by decide +kernel
theorem dL_setHandicap_5 : decode cL_setHandicap 5 = .ok (.invokevirtual 33, 3) := by decide +kernel
theorem dL_setHandicap_13 : decode cL_setHandicap 13 = .ok (.astore 4, 2) := by decide +kernel
theorem dL_setHandicap_15 : decode cL_setHandicap 15 = .ok (.iconst 1, 1) := by decide +kernel
theorem dL_setHandicap_16 : decode cL_setHandicap 16 = .ok (.ireturn, 1) := by decide +kernel
set_option maxRecDepth 20000 in
theorem ggL_gets_X6_gets : GoodIn wsL_gets wsX6_gets := goodIn_ca (goodIn_ca (goodIn_r _ [6, 7, 8, 9, 10, 11, 5, 12, 13, 14, 15, 16, 17, 18, 19, 20, 21, 22, 23, 24, 25, 26, 27, 28, 29, 30, 31, 32, 33, 34, 35, 36, 37, 38, 39, 40, 41, 42, 43, 44, 45, 46, 47, 48, 49, 50] (by decide +kernel) (by decide +kernel)) (goodIn_sub (fun _ h => List.mem_cons_of_mem _ (List.mem_append_left _ (List.mem_append_right _ h))) (by decide +kernel))) (goodIn_sub (fun _ h => List.mem_cons_of_mem _ (List.mem_append_right _ h)) (by decide +kernel))
set_option maxRecDepth 20000 in
theorem gL_gets_X6_gets : GoodIn wsL_gets (wsV RL 37 RX6 yX6_gets wsX6_gets) := goodIn_app (goodIn_of _ (by decide +kernel)) ggL_gets_X6_gets
theorem dL_gets_0 : decode cL_gets 0 = .ok (.aload_n 3, 1) := by decide +kernel
theorem dL_gets_1 : decode cL_gets 1 = .ok (.iconst 0, 1) := by decide +kernel
theorem dL_gets_2 : decode cL_gets 2 = .ok (.aload_n 0, 1) := by decide +kernel
theorem dL_gets_3 : decode cL_gets 3 = .ok (.iload_n 1, 1) := by decide +kernel
theorem dL_gets_4 : decode cL_gets 4 = .ok (.iload_n 2, 1) := by decide +kernel
theorem dL_gets_5 : decode cL_gets 5 = .ok (.invokevirtual 37, 3) := by decide +kernel
theorem dL_gets_13 : decode cL_gets 13 = .ok (.astore 4, 2) := by decide +kernel
theorem dL_gets_15 : decode cL_gets 15 = .ok (.iconst 1, 1) := by decide +kernel
theorem dL_gets_16 : decode cL_gets 16 = .ok (.ireturn, 1) := by decide +kernel
set_option maxRecDepth 20000 in
theorem ggL_holeOn_X6_holeOn : GoodIn wsL_holeOn wsX6_holeOn := goodIn_ca (goodIn_r _ [6, 7, 8, 9, 10, 5, 11, 12, 13, 14, 15, 16, 17, 18, 19, 20, 21, 22, 23, 24, 25, 26, 27, 28] (by decide +kernel) (by decide +kernel)) (goodIn_sub (fun _ h => List.mem_cons_of_mem _ (List.mem_append_right _ h)) (by decide +kernel))
set_option maxRecDepth 20000 in
theorem gL_holeOn_X6_holeOn : GoodIn wsL_holeOn (wsV RL 48 RX6 yX6_holeOn wsX6_holeOn) := goodIn_app (goodIn_of _ (by decide +kernel)) ggL_holeOn_X6_holeOn
theorem dL_holeOn_0 : decode cL_holeOn 0 = .ok (.aload_n 1, 1) := by decide +kernel
theorem dL_holeOn_1 : decode cL_holeOn 1 = .ok (.iconst 0, 1) := by decide +kernel
theorem dL_holeOn_2 : decode cL_holeOn 2 = .ok (.aload_n 0, 1) := by decide +kernel
theorem dL_holeOn_3 : decode cL_holeOn 3 = .ok (.invokevirtual 48, 3) := by decide +kernel
theorem dL_holeOn_11 : decode cL_holeOn 11 = .ok (.astore_n 2, 1) := by decide +kernel
theorem dL_holeOn_12 : decode cL_holeOn 12 = .ok (.iconst 1, 1) := by decide +kernel
theorem dL_holeOn_13 : decode cL_holeOn 13 = .ok (.ireturn, 1) := by decide +kernel
set_option maxRecDepth 20000 in
theorem ggL_away_X6_away : GoodIn wsL_away wsX6_away := goodIn_ca (goodIn_ca (goodIn_ca (goodIn_r _ [6, 7, 8, 9, 10, 11, 5, 12, 13, 14, 15, 16, 17, 18, 19, 20, 21, 22, 23, 24, 25, 26, 27, 28, 29, 30, 31, 32, 33, 34, 35, 36, 37, 38, 39, 40, 41, 42, 43, 44, 45, 46, 47, 48, 49, 50, 51, 52, 53, 54, 55, 56, 57, 58, 59, 60, 61, 62, 63, 64, 65, 66, 67, 68, 69, 70, 71, 72, 73, 74, 75, 76, 77, 78, 79, 80, 81, 82, 83, 84, 85, 86] (by decide +kernel) (by decide +kernel)) (goodIn_sub (fun _ h => List.mem_cons_of_mem _ (List.mem_append_left _ (List.mem_append_right _ h))) (by decide +kernel))) (goodIn_sub (fun _ h => List.mem_cons_of_mem _ (List.mem_append_right _ h)) (by decide +kernel))) (goodIn_sub (fun _ h => List.mem_cons_of_mem _ (List.mem_append_left _ (List.mem_append_left _ (List.mem_append_right _ h)))) (by decide +kernel))
set_option maxRecDepth 20000 in
theorem gL_away_X6_away : GoodIn wsL_away (wsV RL 51 RX6 yX6_away wsX6_away) := goodIn_app (goodIn_of _ (by decide +kernel)) ggL_away_X6_away
theorem dL_away_0 : decode cL_away 0 = .ok (.aload_n 1, 1) := by decide +kernel
theorem dL_away_1 : decode cL_away 1 = .ok (.iconst 0, 1) := by decide +kernel
theorem dL_away_2 : decode cL_away 2 = .ok (.aload_n 0, 1) := by decide +kernel
theorem dL_away_3 : decode cL_away 3 = .ok (.invokevirtual 51, 3) := by decide +kernel
theorem dL_away_11 : decode cL_away 11 = .ok (.astore_n 2, 1) := by decide +kernel
theorem dL_away_12 : decode cL_away 12 = .ok (.iconst 1, 1) := by decide +kernel
theorem dL_away_13 : decode cL_away 13 = .ok (.ireturn, 1) := by decide +kernel
set_option maxRecDepth 20000 in
theorem ggL_stroke_X6_stroke : GoodIn wsL_stroke wsX6_stroke := goodIn_ca (goodIn_ca (goodIn_ca (goodIn_ca (goodIn_ca (goodIn_r _ [6, 7, 8, 9, 10, 11, 12, 13, 14, 15, 16, 17, 18, 19, 20, 5, 21, 22, 23, 24, 25, 26, 27, 28, 29, 30, 31, 32, 33, 34, 35, 36, 37, 38, 39, 40, 41, 42, 43, 44, 45, 46, 47, 48, 49, 50, 51, 52, 53, 54, 55, 56, 57, 58, 59, 60, 61, 62, 63, 64, 65, 66, 67, 68, 69, 70, 71, 72, 73, 74, 75, 76, 77, 78, 79, 80, 81, 82, 83, 84, 85, 86, 87, 88, 89, 90, 91, 92, 93, 94, 95, 96, 97, 98, 99, 100, 101, 102, 103, 104, 105, 106, 107, 108, 109, 110, 111, 112, 113, 114, 115, 116, 117, 118, 119, 120, 121, 122, 123, 124, 125, 126, 127, 128, 129, 130, 131, 132, 133, 134, 135, 136, 137, 138, 139, 140, 141, 142, 143, 144, 145, 146, 147, 148, 149, 150, 151, 152, 153, 154, 155, 156, 157, 158, 159, 160, 161, 162, 163, 164, 165, 166, 167, 168, 169, 170, 171, 172, 173, 174, 175, 176, 177, 178, 179, 180, 181, 182, 183, 184, 185, 186, 187, 188, 189, 190, 191, 192, 193, 194, 195, 196, 197] (by decide +kernel) (by decide +kernel)) (goodIn_sub (fun _ h => List.mem_cons_of_mem _ (List.mem_append_left _ (List.mem_append_left _ (List.mem_append_left _ (List.mem_append_right _ h))))) (by decide +kernel))) (goodIn_sub (fun _ h => List.mem_cons_of_mem _ (List.mem_append_left _ (List.mem_append_left _ (List.mem_append_right _ h)))) (by decide +kernel))) (goodIn_sub (fun _ h => List.mem_cons_of_mem _ (List.mem_append_left _ (List.mem_append_right _ h))) (by decide +kernel))) (goodIn_sub (fun _ h => List.mem_cons_of_mem _ (List.mem_append_left _ (List.mem_append_left _ (List.mem_append_left _ (List.mem_append_left _ (List.mem_append_right _ h)))))) (by decide +kernel))) (goodIn_sub (fun _ h => List.mem_cons_of_mem _ (List.mem_append_right _ h)) (by decide +kernel))
set_option maxRecDepth 20000 in
theorem gL_stroke_X6_stroke : GoodIn wsL_stroke (wsV RL 56 RX6 yX6_stroke wsX6_stroke) := goodIn_app (goodIn_of _ (by decide +kernel)) ggL_stroke_X6_stroke
theorem dL_stroke_0 : decode cL_stroke 0 = .ok (.aload 4, 2) := by decide +kernel
theorem dL_stroke_2 : decode cL_stroke 2 = .ok (.iconst 0, 1) := by decide +kernel
theorem dL_stroke_3 : decode cL_stroke 3 = .ok (.aload_n 0, 1) := by decide +kernel
theorem dL_stroke_4 : decode cL_stroke 4 = .ok (.iload_n 1, 1) := by decide +kernel
theorem dL_stroke_5 : decode cL_stroke 5 = .ok (.iload_n 2, 1) := by decide +kernel
theorem dL_stroke_6 : decode cL_stroke 6 = .ok (.iload_n 3, 1) := by decide +kernel
theorem dL_stroke_7 : decode cL_stroke 7 = .ok (.invokevirtual 56, 3) := by decide +kernel
theorem dL_stroke_15 : decode cL_stroke 15 = .ok (.astore 5, 2) := by decide +kernel
theorem dL_stroke_17 : decode cL_stroke 17 = .ok (.iconst 1, 1) := by decide +kernel
theorem dL_stroke_18 : decode cL_stroke 18 = .ok (.ireturn, 1) := by decide +kernel
set_option maxRecDepth 20000 in
theorem ggL_odds_X6_odds : GoodIn wsL_odds wsX6_odds := goodIn_ca (goodIn_ca (goodIn_ca (goodIn_ca (goodIn_ca (goodIn_r _ [6, 7, 8, 9, 10, 11, 12, 13, 14, 15, 16, 17, 5, 18, 19, 20, 21, 22, 23, 24, 25, 26, 27, 28, 29, 30, 31, 32, 33, 34, 35, 36, 37, 38, 39, 40, 41, 42, 43, 44, 45, 46, 47, 48, 49, 50, 51, 52, 53, 54, 55, 56, 57, 58, 59, 60, 61, 62, 63, 64, 65, 66, 67, 68, 69, 70, 71, 72, 73, 74, 75, 76, 77, 78, 79, 80, 81, 82, 83, 84, 85, 86, 87, 88, 89, 90, 91, 92, 93, 94, 95, 96, 97, 98, 99, 100, 101, 102, 103, 104, 105, 106, 107, 108, 109, 110, 111, 112, 113, 114, 115, 116, 117, 118, 119, 120] (by decide +kernel) (by decide +kernel)) (goodIn_sub (fun _ h => List.mem_cons_of_mem _ (List.mem_append_left _ (List.mem_append_left _ (List.mem_append_left _ (List.mem_append_right _ h))))) (by decide +kernel))) (goodIn_sub (fun _ h => List.mem_cons_of_mem _ (List.mem_append_left _ (List.mem_append_left _ (List.mem_append_right _ h)))) (by decide +kernel))) (goodIn_sub (fun _ h => List.mem_cons_of_mem _ (List.mem_append_left _ (List.mem_append_right _ h))) (by decide +kernel))) (goodIn_sub (fun _ h => List.mem_cons_of_mem _ (List.mem_append_right _ h)) (by decide +kernel))) (goodIn_sub (fun _ h => List.mem_cons_of_mem _ (List.mem_append_left _ (List.mem_append_left _ (List.mem_append_left _ (List.mem_append_left _ (List.mem_append_right _ h)))))) (by decide +kernel))
set_option maxRecDepth 20000 in
theorem gL_odds_X6_odds : GoodIn wsL_odds (wsV RL 59 RX6 yX6_odds wsX6_odds) := goodIn_app (goodIn_of _ (by decide +kernel)) ggL_odds_X6_odds
theorem dL_odds_0 : decode cL_odds 0 = .ok (.aload 5, 2) := by decide +kernel
theorem dL_odds_2 : decode cL_odds 2 = .ok (.iconst 0, 1) := by decide +kernel
theorem dL_odds_3 : decode cL_odds 3 = .ok (.aload_n 0, 1) := by decide +kernel
theorem dL_odds_4 : decode cL_odds 4 = .ok (.iload_n 1, 1) := by decide +kernel
theorem dL_odds_5 : decode cL_odds 5 = .ok (.iload_n 2, 1) := by decide +kernel
theorem dL_odds_6 : decode cL_odds 6 = .ok (.iload_n 3, 1) := by decide +kernel
theorem dL_odds_7 : decode cL_odds 7 = .ok (.iload 4, 2) := by decide +kernel
theorem dL_odds_9 : decode cL_odds 9 = .ok (.invokevirtual 59, 3) := by decide +kernel
theorem dL_odds_17 : decode cL_odds 17 = .ok (.astore 6, 2) := by decide +kernel
theorem dL_odds_19 : decode cL_odds 19 = .ok (.iconst 1, 1) := by decide +kernel
theorem dL_odds_20 : decode cL_odds 20 = .ok (.ireturn, 1) := by decide +kernel
set_option maxRecDepth 20000 in
theorem ggL_provisional_X6_provisional : GoodIn wsL_provisional wsX6_provisional := goodIn_ca (goodIn_ca (goodIn_ca (goodIn_ca (goodIn_ca (goodIn_r _ [6, 7, 8, 9, 10, 11, 12, 13, 14, 15, 16, 17, 18, 19, 20, 21, 22, 5, 23, 24, 25, 26, 27, 28, 29, 30, 31, 32, 33, 34, 35, 36, 37, 38, 39, 40, 41, 42, 43, 44, 45, 46, 47, 48, 49, 50, 51, 52, 53, 54, 55, 56, 57, 58, 59, 60, 61, 62, 63, 64, 65, 66, 67, 68, 69, 70, 71, 72, 73, 74, 75, 76, 77, 78, 79, 80, 81, 82, 83, 84, 85, 86, 87, 88, 89, 90, 91, 92, 93, 94, 95, 96, 97, 98, 99, 100, 101, 102, 103, 104, 105, 106, 107, 108, 109, 110, 111, 112, 113, 114, 115, 116, 117, 118, 119, 120, 121, 122, 123, 124, 125, 126, 127, 128, 129, 130] (by decide +kernel) (by decide +kernel)) (goodIn_sub (fun _ h => List.mem_cons_of_mem _ (List.mem_append_left _ (List.mem_append_left _ (List.mem_append_left _ (List.mem_append_right _ h))))) (by decide +kernel))) (goodIn_sub (fun _ h => List.mem_cons_of_mem _ (List.mem_append_left _ (List.mem_append_left _ (List.mem_append_right _ h)))) (by decide +kernel))) (goodIn_sub (fun _ h => List.mem_cons_of_mem _ (List.mem_append_left _ (List.mem_append_right _ h))) (by decide +kernel))) (goodIn_sub (fun _ h => List.mem_cons_of_mem _ (List.mem_append_left _ (List.mem_append_left _ (List.mem_append_left _ (List.mem_append_left _ (List.mem_append_right _ h)))))) (by decide +kernel))) (goodIn_sub (fun _ h => List.mem_cons_of_mem _ (List.mem_append_right _ h)) (by decide +kernel))
set_option maxRecDepth 20000 in
theorem gL_provisional_X6_provisional : GoodIn wsL_provisional (wsV RL 63 RX6 yX6_provisional wsX6_provisional) := goodIn_app (goodIn_of _ (by decide +kernel)) ggL_provisional_X6_provisional
theorem dL_provisional_0 : decode cL_provisional 0 = .ok (.aload 4, 2) := by decide +kernel
theorem dL_provisional_2 : decode cL_provisional 2 = .ok (.iconst 0, 1) := by decide +kernel
theorem dL_provisional_3 : decode cL_provisional 3 = .ok (.aload_n 0, 1) := by decide +kernel
theorem dL_provisional_4 : decode cL_provisional 4 = .ok (.iload_n 1, 1) := by decide +kernel
theorem dL_provisional_5 : decode cL_provisional 5 = .ok (.iload_n 2, 1) := by decide +kernel
theorem dL_provisional_6 : decode cL_provisional 6 = .ok (.iload_n 3, 1) := by decide +kernel
theorem dL_provisional_7 : decode cL_provisional 7 = .ok (.invokevirtual 63, 3) := by decide +kernel
theorem dL_provisional_15 : decode cL_provisional 15 = .ok (.astore 5, 2) := by decide +kernel
theorem dL_provisional_17 : decode cL_provisional 17 = .ok (.iconst 1, 1) := by decide +kernel
theorem dL_provisional_18 : decode cL_provisional 18 = .ok (.ireturn, 1) := by decide +kernel
set_option maxRecDepth 20000 in
theorem ggL_search_X6_search : GoodIn wsL_search wsX6_search := goodIn_ca (goodIn_ca (goodIn_ca (goodIn_ca (goodIn_ca (goodIn_r _ [6, 7, 8, 9, 10, 11, 12, 13, 14, 15, 16, 17, 18, 19, 5, 20, 21, 22, 23, 24, 25, 26, 27, 28, 29, 30, 31, 32, 33, 34, 35, 36, 37, 38, 39, 40, 41, 42, 43, 44, 45, 46, 47, 48, 49, 50, 51, 52, 53, 54, 55, 56, 57, 58, 59, 60, 61, 62, 63, 64, 65, 66, 67, 68, 69, 70, 71, 72, 73, 74, 75, 76, 77, 78, 79, 80, 81, 82, 83, 84, 85, 86, 87, 88, 89, 90, 91, 92, 93, 94, 95, 96, 97, 98, 99, 100, 101, 102, 103, 104] (by decide +kernel) (by decide +kernel)) (goodIn_sub (fun _ h => List.mem_cons_of_mem _ (List.mem_append_left _ (List.mem_append_left _ (List.mem_append_left _ (List.mem_append_right _ h))))) (by decide +kernel))) (goodIn_sub (fun _ h => List.mem_cons_of_mem _ (List.mem_append_left _ (List.mem_append_left _ (List.mem_append_right _ h)))) (by decide +kernel))) (goodIn_sub (fun _ h => List.mem_cons_of_mem _ (List.mem_append_left _ (List.mem_append_right _ h))) (by decide +kernel))) (goodIn_sub (fun _ h => List.mem_cons_of_mem _ (List.mem_append_left _ (List.mem_append_left _ (List.mem_append_left _ (List.mem_append_left _ (List.mem_append_right _ h)))))) (by decide +kernel))) (goodIn_sub (fun _ h => List.mem_cons_of_mem _ (List.mem_append_right _ h)) (by decide +kernel))
set_option maxRecDepth 20000 in
theorem gL_search_X6_search : GoodIn wsL_search (wsV RL 66 RX6 yX6_search wsX6_search) := goodIn_app (goodIn_of _ (by decide +kernel)) ggL_search_X6_search
theorem dL_search_0 : decode cL_search 0 = .ok (.aload_n 2, 1) := by decide +kernel
theorem dL_search_1 : decode cL_search 1 = .ok (.iconst 0, 1) := by decide +kernel
theorem dL_search_2 : decode cL_search 2 = .ok (.aload_n 0, 1) := by decide +kernel
theorem dL_search_3 : decode cL_search 3 = .ok (.iload_n 1, 1) := by decide +kernel
theorem dL_search_4 : decode cL_search 4 = .ok (.invokevirtual 66, 3) := by decide +kernel
theorem dL_search_12 : decode cL_search 12 = .ok (.astore_n 3, 1) := by decide +kernel
theorem dL_search_13 : decode cL_search 13 = .ok (.iconst 1, 1) := by decide +kernel
theorem dL_search_14 : decode cL_search 14 = .ok (.ireturn, 1) := by decide +kernel
set_option maxRecDepth 20000 in
theorem ggL_again_X6_again : GoodIn wsL_again wsX6_again := goodIn_ca (goodIn_ca (goodIn_ca (goodIn_r _ [6, 7, 8, 9, 10, 11, 12, 13, 14, 15, 16, 5, 17, 18, 19, 20, 21, 22, 23, 24, 25, 26, 27, 28, 29, 30, 31, 32, 33, 34, 35, 36, 37, 38, 39, 40, 41, 42, 43, 44, 45, 46, 47, 48, 49, 50, 51, 52, 53, 54, 55, 56, 57, 58, 59, 60, 61, 62, 63, 64, 65, 66, 67, 68, 69, 70, 71, 72, 73, 74, 75, 76, 77, 78, 79, 80, 81, 82, 83, 84, 85, 86, 87, 88, 89, 90, 91, 92, 93, 94, 95, 96, 97, 98, 99, 100, 101, 102, 103] (by decide +kernel) (by decide +kernel)) (goodIn_sub (fun _ h => List.mem_cons_of_mem _ (List.mem_append_left _ (List.mem_append_left _ (List.mem_append_right _ h)))) (by decide +kernel))) (goodIn_sub (fun _ h => List.mem_cons_of_mem _ (List.mem_append_left _ (List.mem_append_right _ h))) (by decide +kernel))) (goodIn_sub (fun _ h => List.mem_cons_of_mem _ (List.mem_append_right _ h)) (by decide +kernel))
set_option maxRecDepth 20000 in
theorem gL_again_X6_again : GoodIn wsL_again (wsV RL 70 RX6 yX6_again wsX6_again) := goodIn_app (goodIn_of _ (by decide +kernel)) ggL_again_X6_again
theorem dL_again_0 : decode cL_again 0 = .ok (.aload_n 2, 1) := by decide +kernel
theorem dL_again_1 : decode cL_again 1 = .ok (.iconst 0, 1) := by decide +kernel
theorem dL_again_2 : decode cL_again 2 = .ok (.aload_n 0, 1) := by decide +kernel
theorem dL_again_3 : decode cL_again 3 = .ok (.iload_n 1, 1) := by decide +kernel
theorem dL_again_4 : decode cL_again 4 = .ok (.invokevirtual 70, 3) := by decide +kernel
theorem dL_again_12 : decode cL_again 12 = .ok (.astore_n 3, 1) := by decide +kernel
theorem dL_again_13 : decode cL_again 13 = .ok (.iconst 1, 1) := by decide +kernel
theorem dL_again_14 : decode cL_again 14 = .ok (.ireturn, 1) := by decide +kernel
set_option maxRecDepth 20000 in
theorem ggL_line_X6_line : GoodIn wsL_line wsX6_line := goodIn_ca (goodIn_ca (goodIn_ca (goodIn_ca (goodIn_ca (goodIn_ca (goodIn_r _ [6, 7, 8, 9, 10, 11, 12, 13, 14, 15, 16, 17, 18, 5, 19, 20, 21, 22, 23, 24, 25, 26, 27, 28, 29, 30, 31, 32, 33, 34, 35, 36, 37, 38, 39, 40, 41, 42, 43, 44, 45, 46, 47, 48, 49, 50, 51, 52, 53, 54, 55, 56, 57, 58, 59, 60, 61, 62, 63, 64, 65, 66, 67, 68, 69, 70, 71, 72, 73, 74, 75, 76, 77, 78, 79, 80, 81, 82, 83, 84, 85, 86, 87, 88, 89, 90, 91, 92, 93, 94, 95, 96, 97, 98, 99, 100, 101, 102, 103, 104, 105, 106, 107, 108, 109, 110, 111, 112, 113, 114, 115, 116, 117, 118, 119, 120, 121, 122, 123, 124, 125, 126, 127, 128, 129, 130, 131, 132] (by decide +kernel) (by decide +kernel)) (goodIn_sub (fun _ h => List.mem_cons_of_mem _ (List.mem_append_left _ (List.mem_append_left _ (List.mem_append_left _ (List.mem_append_left _ (List.mem_append_right _ h)))))) (by decide +kernel))) (goodIn_sub (fun _ h => List.mem_cons_of_mem _ (List.mem_append_left _ (List.mem_append_left _ (List.mem_append_left _ (List.mem_append_right _ h))))) (by decide +kernel))) (goodIn_sub (fun _ h => List.mem_cons_of_mem _ (List.mem_append_left _ (List.mem_append_left _ (List.mem_append_right _ h)))) (by decide +kernel))) (goodIn_sub (fun _ h => List.mem_cons_of_mem _ (List.mem_append_left _ (List.mem_append_right _ h))) (by decide +kernel))) (goodIn_sub (fun _ h => List.mem_cons_of_mem _ (List.mem_append_right _ h)) (by decide +kernel))) (goodIn_sub (fun _ h => List.mem_cons_of_mem _ (List.mem_append_left _ (List.mem_append_left _ (List.mem_append_left _ (List.mem_append_left _ (List.mem_append_left _ (List.mem_append_right _ h))))))) (by decide +kernel))
set_option maxRecDepth 20000 in
theorem gL_line_X6_line : GoodIn wsL_line (wsV RL 74 RX6 yX6_line wsX6_line) := goodIn_app (goodIn_of _ (by decide +kernel)) ggL_line_X6_line
theorem dL_line_0 : decode cL_line 0 = .ok (.aload_n 3, 1) := by decide +kernel
theorem dL_line_1 : decode cL_line 1 = .ok (.iconst 0, 1) := by decide +kernel
theorem dL_line_2 : decode cL_line 2 = .ok (.aload_n 0, 1) := by decide +kernel
theorem dL_line_3 : decode cL_line 3 = .ok (.iload_n 1, 1) := by decide +kernel
theorem dL_line_4 : decode cL_line 4 = .ok (.iload_n 2, 1) := by decide +kernel
theorem dL_line_5 : decode cL_line 5 = .ok (.invokevirtual 74, 3) := by decide +kernel
theorem dL_line_13 : decode cL_line 13 = .ok (.astore 4, 2) := by decide +kernel
theorem dL_line_15 : decode cL_line 15 = .ok (.iconst 1, 1) := by decide +kernel
theorem dL_line_16 : decode cL_line 16 = .ok (.ireturn, 1) := by decide +kernel
set_option maxRecDepth 20000 in
theorem ggL_aside_X6_aside : GoodIn wsL_aside wsX6_aside := goodIn_ca (goodIn_ca (goodIn_ca (goodIn_ca (goodIn_r _ [6, 7, 8, 9, 10, 11, 12, 13, 14, 15, 16, 5, 17, 18, 19, 20, 21, 22, 23, 24, 25, 26, 27, 28, 29, 30, 31, 32, 33, 34, 35, 36, 37, 38, 39, 40, 41, 42, 43, 44, 45, 46, 47, 48, 49, 50, 51, 52, 53, 54, 55, 56, 57, 58, 59, 60, 61, 62, 63, 64, 65, 66, 67, 68, 69, 70, 71, 72, 73, 74, 75, 76, 77, 78, 79, 80, 81, 82, 83, 84, 85, 86, 87, 88, 89, 90, 91, 92, 93, 94, 95, 96, 97, 98, 99, 100, 101, 102, 103, 104, 105, 106, 107, 108, 109, 110, 111, 112, 113, 114, 115, 116, 117, 118, 119, 120, 121, 122, 123, 124, 125, 126, 127, 128, 129, 130, 131, 132, 133, 134, 135, 136, 137, 138, 139] (by decide +kernel) (by decide +kernel)) (goodIn_sub (fun _ h => List.mem_cons_of_mem _ (List.mem_append_left _ (List.mem_append_left _ (List.mem_append_right _ h)))) (by decide +kernel))) (goodIn_sub (fun _ h => List.mem_cons_of_mem _ (List.mem_append_left _ (List.mem_append_right _ h))) (by decide +kernel))) (goodIn_sub (fun _ h => List.mem_cons_of_mem _ (List.mem_append_right _ h)) (by decide +kernel))) (goodIn_sub (fun _ h => List.mem_cons_of_mem _ (List.mem_append_left _ (List.mem_append_left _ (List.mem_append_left _ (List.mem_append_right _ h))))) (by decide +kernel))
set_option maxRecDepth 20000 in
theorem gL_aside_X6_aside : GoodIn wsL_aside (wsV RL 77 RX6 yX6_aside wsX6_aside) := goodIn_app (goodIn_of _ (by decide +kernel)) ggL_aside_X6_aside
theorem dL_aside_0 : decode cL_aside 0 = .ok (.aload 4, 2) := by decide +kernel
theorem dL_aside_2 : decode cL_aside 2 = .ok (.iconst 0, 1) := by decide +kernel
theorem dL_aside_3 : decode cL_aside 3 = .ok (.aload_n 0, 1) := by decide +kernel
theorem dL_aside_4 : decode cL_aside 4 = .ok (.iload_n 1, 1) := by decide +kernel
theorem dL_aside_5 : decode cL_aside 5 = .ok (.iload_n 2, 1) := by decide +kernel
theorem dL_aside_6 : decode cL_aside 6 = .ok (.iload_n 3, 1) := by decide +kernel
theorem dL_aside_7 : decode cL_aside 7 = .ok (.invokevirtual 77, 3) := by decide +kernel
theorem dL_aside_15 : decode cL_aside 15 = .ok (.astore 5, 2) := by decide +kernel
theorem dL_aside_17 : decode cL_aside 17 = .ok (.iconst 1, 1) := by decide +kernel
theorem dL_aside_18 : decode cL_aside 18 = .ok (.ireturn, 1) := by decide +kernel
set_option maxRecDepth 20000 in
theorem ggL_point_X6_point : GoodIn wsL_point wsX6_point := goodIn_ca (goodIn_ca (goodIn_ca (goodIn_ca (goodIn_ca (goodIn_r _ [6, 7, 8, 9, 10, 11, 12, 13, 14, 15, 16, 17, 18, 5, 19, 20, 21, 22, 23, 24, 25, 26, 27, 28, 29, 30, 31, 32, 33, 34, 35, 36, 37, 38, 39, 40, 41, 42, 43, 44, 45, 46, 47, 48, 49, 50, 51, 52, 53, 54, 55, 56, 57, 58, 59, 60, 61, 62, 63, 64, 65, 66, 67, 68, 69, 70, 71, 72, 73, 74, 75, 76, 77, 78, 79, 80, 81, 82, 83, 84, 85, 86, 87, 88, 89, 90, 91, 92, 93, 94, 95, 96, 97, 98, 99, 100, 101, 102, 103] (by decide +kernel) (by decide +kernel)) (goodIn_sub (fun _ h => List.mem_cons_of_mem _ (List.mem_append_left _ (List.mem_append_left _ (List.mem_append_left _ (List.mem_append_right _ h))))) (by decide +kernel))) (goodIn_sub (fun _ h => List.mem_cons_of_mem _ (List.mem_append_left _ (List.mem_append_left _ (List.mem_append_right _ h)))) (by decide +kernel))) (goodIn_sub (fun _ h => List.mem_cons_of_mem _ (List.mem_append_left _ (List.mem_append_right _ h))) (by decide +kernel))) (goodIn_sub (fun _ h => List.mem_cons_of_mem _ (List.mem_append_right _ h)) (by decide +kernel))) (goodIn_sub (fun _ h => List.mem_cons_of_mem _ (List.mem_append_left _ (List.mem_append_left _ (List.mem_append_left _ (List.mem_append_left _ (List.mem_append_right _ h)))))) (by decide +kernel))
set_option maxRecDepth 20000 in
theorem gL_point_X6_point : GoodIn wsL_point (wsV RL 81 RX6 yX6_point wsX6_point) := goodIn_app (goodIn_of _ (by decide +kernel)) ggL_point_X6_point
theorem dL_point_0 : decode cL_point 0 = .ok (.aload_n 3, 1) := by decide +kernel
theorem dL_point_1 : decode cL_point 1 = .ok (.iconst 0, 1) := by decide +kernel
theorem dL_point_2 : decode cL_point 2 = .ok (.aload_n 0, 1) := by decide +kernel
theorem dL_point_3 : decode cL_point 3 = .ok (.iload_n 1, 1) := by decide +kernel
theorem dL_point_4 : decode cL_point 4 = .ok (.iload_n 2, 1) := by decide +kernel
theorem dL_point_5 : decode cL_point 5 = .ok (.invokevirtual 81, 3) := by decide +kernel
theorem dL_point_13 : decode cL_point 13 = .ok (.astore 4, 2) := by decide +kernel
theorem dL_point_15 : decode cL_point 15 = .ok (.iconst 1, 1) := by decide +kernel
theorem dL_point_16 : decode cL_point 16 = .ok (.ireturn, 1) := by decide +kernel
set_option maxRecDepth 20000 in
theorem ggL_free_X6_free : GoodIn wsL_free wsX6_free := goodIn_ca (goodIn_ca (goodIn_ca (goodIn_ca (goodIn_ca (goodIn_r _ [6, 7, 8, 9, 10, 11, 12, 13, 14, 15, 16, 17, 18, 19, 20, 21, 5, 22, 23, 24, 25, 26, 27, 28, 29, 30, 31, 32, 33, 34, 35, 36, 37, 38, 39, 40, 41, 42, 43, 44, 45, 46, 47, 48, 49, 50, 51, 52, 53, 54, 55, 56, 57, 58, 59, 60, 61, 62, 63, 64, 65, 66, 67, 68, 69, 70, 71, 72, 73, 74, 75, 76, 77, 78, 79, 80, 81, 82, 83, 84, 85, 86, 87, 88, 89, 90, 91, 92, 93, 94, 95, 96, 97, 98, 99, 100, 101, 102, 103, 104, 105, 106, 107, 108, 109, 110, 111, 112, 113, 114, 115, 116, 117, 118, 119, 120, 121, 122, 123, 124, 125, 126, 127, 128, 129, 130] (by decide +kernel) (by decide +kernel)) (goodIn_sub (fun _ h => List.mem_cons_of_mem _ (List.mem_append_left _ (List.mem_append_left _ (List.mem_append_left _ (List.mem_append_right _ h))))) (by decide +kernel))) (goodIn_sub (fun _ h => List.mem_cons_of_mem _ (List.mem_append_left _ (List.mem_append_left _ (List.mem_append_right _ h)))) (by decide +kernel))) (goodIn_sub (fun _ h => List.mem_cons_of_mem _ (List.mem_append_left _ (List.mem_append_right _ h))) (by decide +kernel))) (goodIn_sub (fun _ h => List.mem_cons_of_mem _ (List.mem_append_right _ h)) (by decide +kernel))) (goodIn_sub (fun _ h => List.mem_cons_of_mem _ (List.mem_append_left _ (List.mem_append_left _ (List.mem_append_left _ (List.mem_append_left _ (List.mem_append_right _ h)))))) (by decide +kernel))
set_option maxRecDepth 20000 in
theorem gL_free_X6_free : GoodIn wsL_free (wsV RL 85 RX6 yX6_free wsX6_free) := goodIn_app (goodIn_of _ (by decide +kernel)) ggL_free_X6_free
theorem dL_free_0 : decode cL_free 0 = .ok (.aload 4, 2) := by decide +kernel
theorem dL_free_2 : decode cL_free 2 = .ok (.iconst 0, 1) := by decide +kernel
theorem dL_free_3 : decode cL_free 3 = .ok (.aload_n 0, 1) := by decide +kernel
theorem dL_free_4 : decode cL_free 4 = .ok (.iload_n 1, 1) := by decide +kernel
theorem dL_free_5 : decode cL_free 5 = .ok (.iload_n 2, 1) := by decide +kernel
theorem dL_free_6 : decode cL_free 6 = .ok (.iload_n 3, 1) := by decide +kernel
theorem dL_free_7 : decode cL_free 7 = .ok (.invokevirtual 85, 3) := by decide +kernel
theorem dL_free_15 : decode cL_free 15 = .ok (.astore 5, 2) := by decide +kernel
theorem dL_free_17 : decode cL_free 17 = .ok (.iconst 1, 1) := by decide +kernel
theorem dL_free_18 : decode cL_free 18 = .ok (.ireturn, 1) := by decide +kernel
set_option maxRecDepth 20000 in
theorem ggL_wrongPlace_X6_wrongPlace : GoodIn wsL_wrongPlace wsX6_wrongPlace := goodIn_ca (goodIn_ca (goodIn_ca (goodIn_ca (goodIn_r _ [6, 7, 8, 9, 10, 11, 12, 13, 14, 15, 16, 17, 18, 19, 20, 5, 21, 22, 23, 24, 25, 26, 27, 28, 29, 30, 31, 32, 33, 34, 35, 36, 37, 38, 39, 40, 41, 42, 43, 44, 45, 46, 47, 48, 49, 50, 51, 52, 53, 54, 55, 56, 57, 58, 59, 60, 61, 62, 63, 64, 65, 66, 67, 68, 69, 70, 71, 72, 73, 74, 75, 76, 77, 78, 79, 80, 81, 82, 83, 84, 85, 86, 87, 88, 89, 90, 91, 92, 93, 94, 95, 96, 97, 98, 99, 100, 101, 102, 103, 104, 105, 106, 107, 108, 109, 110, 111, 112, 113, 114, 115, 116, 117, 118, 119, 120, 121, 122, 123, 124, 125, 126, 127, 128, 129] (by decide +kernel) (by decide +kernel)) (goodIn_sub (fun _ h => List.mem_cons_of_mem _ (List.mem_append_left _ (List.mem_append_left _ (List.mem_append_right _ h)))) (by decide +kernel))) (goodIn_sub (fun _ h => List.mem_cons_of_mem _ (List.mem_append_left _ (List.mem_append_right _ h))) (by decide +kernel))) (goodIn_sub (fun _ h => List.mem_cons_of_mem _ (List.mem_append_right _ h)) (by decide +kernel))) (goodIn_sub (fun _ h => List.mem_cons_of_mem _ (List.mem_append_left _ (List.mem_append_left _ (List.mem_append_left _ (List.mem_append_right _ h))))) (by decide +kernel))
set_option maxRecDepth 20000 in
theorem gL_wrongPlace_X6_wrongPlace : GoodIn wsL_wrongPlace (wsV RL 88 RX6 yX6_wrongPlace wsX6_wrongPlace) := goodIn_app (goodIn_of _ (by decide +kernel)) ggL_wrongPlace_X6_wrongPlace
theorem dL_wrongPlace_0 : decode cL_wrongPlace 0 = .ok (.aload 4, 2) := by decide +kernel
theorem dL_wrongPlace_2 : decode cL_wrongPlace 2 = .ok (.iconst 0, 1) := by decide +kernel
theorem dL_wrongPlace_3 : decode cL_wrongPlace 3 = .ok (.aload_n 0, 1) := by decide +kernel
theorem dL_wrongPlace_4 : decode cL_wrongPlace 4 = .ok (.iload_n 1, 1) := by decide +kernel
theorem dL_wrongPlace_5 : decode cL_wrongPlace 5 = .ok (.iload_n 2, 1) := by decide +kernel
theorem dL_wrongPlace_6 : decode cL_wrongPlace 6 = .ok (.iload_n 3, 1) := by decide +kernel
theorem dL_wrongPlace_7 : decode cL_wrongPlace 7 = .ok (.invokevirtual 88, 3) := by decide +kernel
theorem dL_wrongPlace_22 : decode cL_wrongPlace 22 = .ok (.astore 5, 2) := by decide +kernel
theorem dL_wrongPlace_24 : decode cL_wrongPlace 24 = .ok (.iconst 1, 1) := by decide +kernel
theorem dL_wrongPlace_25 : decode cL_wrongPlace 25 = .ok (.ireturn, 1) := by decide +kernel
set_option maxRecDepth 20000 in
theorem ggL_correct_X6_correct : GoodIn wsL_correct wsX6_correct := goodIn_ca (goodIn_ca (goodIn_ca (goodIn_r _ [6, 7, 8, 9, 10, 11, 12, 13, 14, 5, 15, 16, 17, 18, 19, 20, 21, 22, 23, 24, 25, 26, 27, 28, 29, 30, 31, 32, 33, 34, 35, 36, 37, 38, 39, 40, 41, 42, 43, 44, 45, 46, 47, 48, 49, 50, 51, 52, 53, 54, 55, 56, 57, 58, 59, 60, 61, 62, 63, 64, 65, 66, 67, 68, 69, 70, 71, 72, 73, 74, 75, 76, 77, 78, 79, 80, 81, 82, 83] (by decide +kernel) (by decide +kernel)) (goodIn_sub (fun _ h => List.mem_cons_of_mem _ (List.mem_append_left _ (List.mem_append_left _ (List.mem_append_right _ h)))) (by decide +kernel))) (goodIn_sub (fun _ h => List.mem_cons_of_mem _ (List.mem_append_left _ (List.mem_append_right _ h))) (by decide +kernel))) (goodIn_sub (fun _ h => List.mem_cons_of_mem _ (List.mem_append_right _ h)) (by decide +kernel))
set_option maxRecDepth 20000 in
theorem gL_correct_X6_correct : GoodIn wsL_correct (wsV RL 92 RX6 yX6_correct wsX6_correct) := goodIn_app (goodIn_of _ (by decide +kernel)) ggL_correct_X6_correct
theorem dL_correct_0 : decode cL_correct 0 = .ok (.aload_n 2, 1) := by decide +kernel
theorem dL_correct_1 : decode cL_correct 1 = .ok (.iconst 0, 1) := by decide +kernel
theorem dL_correct_2 : decode cL_correct 2 = .ok (.aload_n 0, 1) := by decide +kernel
theorem dL_correct_3 : decode cL_correct 3 = .ok (.iload_n 1, 1) := by decide +kernel
theorem dL_correct_4 : decode cL_correct 4 = .ok (.invokevirtual 92, 3) := by decide +kernel
theorem dL_correct_12 : decode cL_correct 12 = .ok (.astore_n 3, 1) := by decide +kernel
theorem dL_correct_13 : decode cL_correct 13 = .ok (.iconst 1, 1) := by decide +kernel
theorem dL_correct_14 : decode cL_correct 14 = .ok (.ireturn, 1) := by decide +kernel
set_option maxRecDepth 20000 in
theorem ggL_move_X6_move : GoodIn wsL_move wsX6_move := goodIn_ca (goodIn_ca (goodIn_ca (goodIn_ca (goodIn_ca (goodIn_r _ [6, 7, 8, 9, 10, 11, 12, 13, 14, 15, 16, 17, 18, 19, 20, 21, 22, 5, 23, 24, 25, 26, 27, 28, 29, 30, 31, 32, 33, 34, 35, 36, 37, 38, 39, 40, 41, 42, 43, 44, 45, 46, 47, 48, 49, 50, 51, 52, 53, 54, 55, 56, 57, 58, 59, 60, 61, 62, 63, 64, 65, 66, 67, 68, 69, 70, 71, 72, 73, 74, 75, 76, 77, 78, 79, 80, 81, 82, 83, 84, 85, 86, 87, 88, 89, 90, 91, 92, 93, 94, 95, 96, 97, 98, 99, 100, 101, 102, 103, 104, 105, 106, 107, 108, 109, 110, 111, 112, 113, 114, 115, 116, 117, 118] (by decide +kernel) (by decide +kernel)) (goodIn_sub (fun _ h => List.mem_cons_of_mem _ (List.mem_append_left _ (List.mem_append_left _ (List.mem_append_left _ (List.mem_append_right _ h))))) (by decide +kernel))) (goodIn_sub (fun _ h => List.mem_cons_of_mem _ (List.mem_append_left _ (List.mem_append_left _ (List.mem_append_right _ h)))) (by decide +kernel))) (goodIn_sub (fun _ h => List.mem_cons_of_mem _ (List.mem_append_left _ (List.mem_append_right _ h))) (by decide +kernel))) (goodIn_sub (fun _ h => List.mem_cons_of_mem _ (List.mem_append_right _ h)) (by decide +kernel))) (goodIn_sub (fun _ h => List.mem_cons_of_mem _ (List.mem_append_left _ (List.mem_append_left _ (List.mem_append_left _ (List.mem_append_left _ (List.mem_append_right _ h)))))) (by decide +kernel))
set_option maxRecDepth 20000 in
theorem gL_move_X6_move : GoodIn wsL_move (wsV RL 95 RX6 yX6_move wsX6_move) := goodIn_app (goodIn_of _ (by decide +kernel)) ggL_move_X6_move
theorem dL_move_0 : decode cL_move 0 = .ok (.aload 5, 2) := by decide +kernel
theorem dL_move_2 : decode cL_move 2 = .ok (.iconst 0, 1) := by decide +kernel
theorem dL_move_3 : decode cL_move 3 = .ok (.aload_n 0, 1) := by decide +kernel
theorem dL_move_4 : decode cL_move 4 = .ok (.iload_n 1, 1) := by decide +kernel
theorem dL_move_5 : decode cL_move 5 = .ok (.iload_n 2, 1) := by decide +kernel
theorem dL_move_6 : decode cL_move 6 = .ok (.iload_n 3, 1) := by decide +kernel
theorem dL_move_7 : decode cL_move 7 = .ok (.iload 4, 2) := by decide +kernel
theorem dL_move_9 : decode cL_move 9 = .ok (.invokevirtual 95, 3) := by decide +kernel
theorem dL_move_17 : decode cL_move 17 = .ok (.astore 6, 2) := by decide +kernel
theorem dL_move_19 : decode cL_move 19 = .ok (.iconst 1, 1) := by decide +kernel
theorem dL_move_20 : decode cL_move 20 = .ok (.ireturn, 1) := by decide +kernel
set_option maxRecDepth 20000 in
theorem ggL_wrongBall_X6_wrongBall : GoodIn wsL_wrongBall wsX6_wrongBall := goodIn_ca (goodIn_ca (goodIn_ca (goodIn_r _ [6, 7, 8, 9, 10, 11, 12, 13, 14, 15, 16, 17, 5, 18, 19, 20, 21, 22, 23, 24, 25, 26, 27, 28, 29, 30, 31, 32, 33, 34, 35, 36, 37, 38, 39, 40, 41, 42, 43, 44, 45, 46, 47, 48, 49, 50, 51, 52, 53, 54, 55, 56, 57, 58, 59, 60, 61, 62, 63, 64, 65, 66, 67, 68, 69, 70, 71, 72, 73, 74, 75, 76, 77, 78, 79, 80, 81, 82, 83, 84, 85, 86, 87] (by decide +kernel) (by decide +kernel)) (goodIn_sub (fun _ h => List.mem_cons_of_mem _ (List.mem_append_left _ (List.mem_append_left _ (List.mem_append_right _ h)))) (by decide +kernel))) (goodIn_sub (fun _ h => List.mem_cons_of_mem _ (List.mem_append_left _ (List.mem_append_right _ h))) (by decide +kernel))) (goodIn_sub (fun _ h => List.mem_cons_of_mem _ (List.mem_append_right _ h)) (by decide +kernel))
set_option maxRecDepth 20000 in
theorem gL_wrongBall_X6_wrongBall : GoodIn wsL_wrongBall (wsV RL 99 RX6 yX6_wrongBall wsX6_wrongBall) := goodIn_app (goodIn_of _ (by decide +kernel)) ggL_wrongBall_X6_wrongBall
theorem dL_wrongBall_0 : decode cL_wrongBall 0 = .ok (.aload_n 3, 1) := by decide +kernel
theorem dL_wrongBall_1 : decode cL_wrongBall 1 = .ok (.iconst 0, 1) := by decide +kernel
theorem dL_wrongBall_2 : decode cL_wrongBall 2 = .ok (.aload_n 0, 1) := by decide +kernel
theorem dL_wrongBall_3 : decode cL_wrongBall 3 = .ok (.iload_n 1, 1) := by decide +kernel
theorem dL_wrongBall_4 : decode cL_wrongBall 4 = .ok (.iload_n 2, 1) := by decide +kernel
theorem dL_wrongBall_5 : decode cL_wrongBall 5 = .ok (.invokevirtual 99, 3) := by decide +kernel
theorem dL_wrongBall_13 : decode cL_wrongBall 13 = .ok (.astore 4, 2) := by decide +kernel
theorem dL_wrongBall_15 : decode cL_wrongBall 15 = .ok (.iconst 1, 1) := by decide +kernel
theorem dL_wrongBall_16 : decode cL_wrongBall 16 = .ok (.ireturn, 1) := by decide +kernel
set_option maxRecDepth 20000 in
theorem ggL_pickUp_X6_pickUp : GoodIn wsL_pickUp wsX6_pickUp := goodIn_ca (goodIn_ca (goodIn_ca (goodIn_r _ [6, 7, 8, 9, 10, 11, 12, 13, 14, 15, 16, 5, 17, 18, 19, 20, 21, 22, 23, 24, 25, 26, 27, 28, 29, 30, 31, 32, 33, 34, 35, 36, 37, 38, 39, 40, 41, 42, 43, 44, 45, 46, 47, 48, 49, 50, 51, 52, 53, 54, 55, 56, 57, 58, 59, 60, 61, 62, 63, 64, 65, 66, 67, 68, 69, 70, 71, 72, 73, 74, 75, 76, 77] (by decide +kernel) (by decide +kernel)) (goodIn_sub (fun _ h => List.mem_cons_of_mem _ (List.mem_append_left _ (List.mem_append_left _ (List.mem_append_right _ h)))) (by decide +kernel))) (goodIn_sub (fun _ h => List.mem_cons_of_mem _ (List.mem_append_left _ (List.mem_append_right _ h))) (by decide +kernel))) (goodIn_sub (fun _ h => List.mem_cons_of_mem _ (List.mem_append_right _ h)) (by decide +kernel))
set_option maxRecDepth 20000 in
theorem gL_pickUp_X6_pickUp : GoodIn wsL_pickUp (wsV RL 102 RX6 yX6_pickUp wsX6_pickUp) := goodIn_app (goodIn_of _ (by decide +kernel)) ggL_pickUp_X6_pickUp
theorem dL_pickUp_0 : decode cL_pickUp 0 = .ok (.aload_n 2, 1) := by decide +kernel
theorem dL_pickUp_1 : decode cL_pickUp 1 = .ok (.iconst 0, 1) := by decide +kernel
theorem dL_pickUp_2 : decode cL_pickUp 2 = .ok (.aload_n 0, 1) := by decide +kernel
theorem dL_pickUp_3 : decode cL_pickUp 3 = .ok (.iload_n 1, 1) := by decide +kernel
theorem dL_pickUp_4 : decode cL_pickUp 4 = .ok (.invokevirtual 102, 3) := by decide +kernel
theorem dL_pickUp_12 : decode cL_pickUp 12 = .ok (.astore_n 3, 1) := by decide +kernel
theorem dL_pickUp_13 : decode cL_pickUp 13 = .ok (.iconst 1, 1) := by decide +kernel
theorem dL_pickUp_14 : decode cL_pickUp 14 = .ok (.ireturn, 1) := by decide +kernel
set_option maxRecDepth 20000 in
theorem ggL_suspend_X6_suspend : GoodIn wsL_suspend wsX6_suspend := goodIn_ca (goodIn_r _ [6, 7, 8, 9, 10, 5, 11, 12, 13, 14, 15, 16, 17, 18, 19, 20, 21, 22, 23, 24, 25, 26, 27, 28] (by decide +kernel) (by decide +kernel)) (goodIn_sub (fun _ h => List.mem_cons_of_mem _ (List.mem_append_right _ h)) (by decide +kernel))
set_option maxRecDepth 20000 in
theorem gL_suspend_X6_suspend : GoodIn wsL_suspend (wsV RL 105 RX6 yX6_suspend wsX6_suspend) := goodIn_app (goodIn_of _ (by decide +kernel)) ggL_suspend_X6_suspend
theorem dL_suspend_0 : decode cL_suspend 0 = .ok (.aload_n 2, 1) := by decide +kernel
theorem dL_suspend_1 : decode cL_suspend 1 = .ok (.iconst 0, 1) := by decide +kernel
theorem dL_suspend_2 : decode cL_suspend 2 = .ok (.aload_n 0, 1) := by decide +kernel
theorem dL_suspend_3 : decode cL_suspend 3 = .ok (.iload_n 1, 1) := by decide +kernel
theorem dL_suspend_4 : decode cL_suspend 4 = .ok (.invokevirtual 105, 3) := by decide +kernel
theorem dL_suspend_19 : decode cL_suspend 19 = .ok (.astore_n 3, 1) := by decide +kernel
theorem dL_suspend_20 : decode cL_suspend 20 = .ok (.iconst 1, 1) := by decide +kernel
theorem dL_suspend_21 : decode cL_suspend 21 = .ok (.ireturn, 1) := by decide +kernel
set_option maxRecDepth 20000 in
theorem ggL_cancel_X6_cancel : GoodIn wsL_cancel wsX6_cancel := goodIn_ca (goodIn_ca (goodIn_ca (goodIn_r _ [6, 7, 8, 9, 10, 11, 12, 13, 14, 15, 16, 17, 5, 18, 19, 20, 21, 22, 23, 24, 25, 26, 27, 28, 29, 30, 31, 32, 33, 34, 35, 36, 37, 38, 39, 40, 41, 42, 43, 44, 45, 46, 47, 48, 49, 50, 51, 52, 53, 54, 55, 56, 57, 58, 59, 60, 61, 62, 63, 64, 65, 66, 67, 68, 69, 70, 71, 72, 73, 74, 75, 76, 77, 78, 79, 80, 81, 82, 83, 84, 85, 86, 87, 88, 89, 90, 91, 92, 93, 94] (by decide +kernel) (by decide +kernel)) (goodIn_sub (fun _ h => List.mem_cons_of_mem _ (List.mem_append_left _ (List.mem_append_left _ (List.mem_append_right _ h)))) (by decide +kernel))) (goodIn_sub (fun _ h => List.mem_cons_of_mem _ (List.mem_append_left _ (List.mem_append_right _ h))) (by decide +kernel))) (goodIn_sub (fun _ h => List.mem_cons_of_mem _ (List.mem_append_right _ h)) (by decide +kernel))
set_option maxRecDepth 20000 in
theorem gL_cancel_X6_cancel : GoodIn wsL_cancel (wsV RL 109 RX6 yX6_cancel wsX6_cancel) := goodIn_app (goodIn_of _ (by decide +kernel)) ggL_cancel_X6_cancel
theorem dL_cancel_0 : decode cL_cancel 0 = .ok (.aload_n 2, 1) := by decide +kernel
theorem dL_cancel_1 : decode cL_cancel 1 = .ok (.iconst 0, 1) := by decide +kernel
theorem dL_cancel_2 : decode cL_cancel 2 = .ok (.aload_n 0, 1) := by decide +kernel
theorem dL_cancel_3 : decode cL_cancel 3 = .ok (.iload_n 1, 1) := by decide +kernel
theorem dL_cancel_4 : decode cL_cancel 4 = .ok (.invokevirtual 109, 3) := by decide +kernel
theorem dL_cancel_19 : decode cL_cancel 19 = .ok (.astore_n 3, 1) := by decide +kernel
theorem dL_cancel_20 : decode cL_cancel 20 = .ok (.iconst 1, 1) := by decide +kernel
theorem dL_cancel_21 : decode cL_cancel 21 = .ok (.ireturn, 1) := by decide +kernel
set_option maxRecDepth 20000 in
theorem ggL_concede_X6_concede : GoodIn wsL_concede wsX6_concede := goodIn_ca (goodIn_ca (goodIn_ca (goodIn_ca (goodIn_r _ [6, 7, 8, 9, 10, 11, 12, 13, 14, 15, 16, 17, 18, 19, 20, 5, 21, 22, 23, 24, 25, 26, 27, 28, 29, 30, 31, 32, 33, 34, 35, 36, 37, 38, 39, 40, 41, 42, 43, 44, 45, 46, 47, 48, 49, 50, 51, 52, 53, 54, 55, 56, 57, 58, 59, 60, 61, 62, 63, 64, 65, 66, 67, 68, 69, 70, 71, 72, 73, 74, 75, 76, 77, 78, 79, 80, 81, 82, 83, 84, 85, 86, 87, 88, 89, 90, 91, 92, 93, 94, 95, 96, 97, 98, 99, 100, 101, 102, 103] (by decide +kernel) (by decide +kernel)) (goodIn_sub (fun _ h => List.mem_cons_of_mem _ (List.mem_append_left _ (List.mem_append_left _ (List.mem_append_left _ (List.mem_append_right _ h))))) (by decide +kernel))) (goodIn_sub (fun _ h => List.mem_cons_of_mem _ (List.mem_append_left _ (List.mem_append_left _ (List.mem_append_right _ h)))) (by decide +kernel))) (goodIn_sub (fun _ h => List.mem_cons_of_mem _ (List.mem_append_left _ (List.mem_append_right _ h))) (by decide +kernel))) (goodIn_sub (fun _ h => List.mem_cons_of_mem _ (List.mem_append_right _ h)) (by decide +kernel))
set_option maxRecDepth 20000 in
theorem gL_concede_X6_concede : GoodIn wsL_concede (wsV RL 113 RX6 yX6_concede wsX6_concede) := goodIn_app (goodIn_of _ (by decide +kernel)) ggL_concede_X6_concede
theorem dL_concede_0 : decode cL_concede 0 = .ok (.aload_n 3, 1) := by decide +kernel
theorem dL_concede_1 : decode cL_concede 1 = .ok (.iconst 0, 1) := by decide +kernel
theorem dL_concede_2 : decode cL_concede 2 = .ok (.aload_n 0, 1) := by decide +kernel
theorem dL_concede_3 : decode cL_concede 3 = .ok (.iload_n 1, 1) := by decide +kernel
theorem dL_concede_4 : decode cL_concede 4 = .ok (.iload_n 2, 1) := by decide +kernel
theorem dL_concede_5 : decode cL_concede 5 = .ok (.invokevirtual 113, 3) := by decide +kernel
theorem dL_concede_13 : decode cL_concede 13 = .ok (.astore 4, 2) := by decide +kernel
theorem dL_concede_15 : decode cL_concede 15 = .ok (.iconst 1, 1) := by decide +kernel
theorem dL_concede_16 : decode cL_concede 16 = .ok (.ireturn, 1) := by decide +kernel
set_option maxRecDepth 20000 in
theorem ggL_nextHole_X6_nextHole : GoodIn wsL_nextHole wsX6_nextHole := goodIn_ca (goodIn_ca (goodIn_ca (goodIn_ca (goodIn_r _ [6, 7, 8, 9, 10, 11, 12, 13, 14, 15, 16, 17, 18, 19, 5, 20, 21, 22, 23, 24, 25, 26, 27, 28, 29, 30, 31, 32, 33, 34, 35, 36, 37, 38, 39, 40, 41, 42, 43, 44, 45, 46, 47, 48, 49, 50, 51, 52, 53, 54, 55, 56, 57, 58, 59, 60, 61, 62, 63, 64, 65, 66, 67, 68, 69, 70, 71, 72, 73, 74, 75, 76, 77, 78, 79, 80, 81, 82, 83, 84, 85, 86, 87, 88, 89, 90, 91, 92, 93, 94, 95, 96, 97, 98, 99, 100, 101, 102, 103, 104, 105, 106, 107, 108, 109, 110, 111, 112, 113, 114, 115, 116, 117, 118, 119, 120, 121, 122, 123, 124, 125, 126, 127, 128, 129, 130, 131, 132, 133, 134, 135, 136, 137, 138, 139, 140, 141, 142, 143, 144, 145, 146, 147, 148, 149, 150, 151, 152, 153, 154, 155, 156, 157, 158, 159, 160, 161, 162, 163, 164, 165, 166, 167, 168] (by decide +kernel) (by decide +kernel)) (goodIn_sub (fun _ h => List.mem_cons_of_mem _ (List.mem_append_left _ (List.mem_append_left _ (List.mem_append_right _ h)))) (by decide +kernel))) (goodIn_sub (fun _ h => List.mem_cons_of_mem _ (List.mem_append_left _ (List.mem_append_right _ h))) (by decide +kernel))) (goodIn_sub (fun _ h => List.mem_cons_of_mem _ (List.mem_append_left _ (List.mem_append_left _ (List.mem_append_left _ (List.mem_append_right _ h))))) (by decide +kernel))) (goodIn_sub (fun _ h => List.mem_cons_of_mem _ (List.mem_append_right _ h)) (by decide +kernel))
set_option maxRecDepth 20000 in
theorem gL_nextHole_X6_nextHole : GoodIn wsL_nextHole (wsV RL 117 RX6 yX6_nextHole wsX6_nextHole) := goodIn_app (goodIn_of _ (by decide +kernel)) ggL_nextHole_X6_nextHole
theorem dL_nextHole_0 : decode cL_nextHole 0 = .ok (.aload_n 1, 1) := by decide +kernel
theorem dL_nextHole_1 : decode cL_nextHole 1 = .ok (.iconst 0, 1) := by decide +kernel
theorem dL_nextHole_2 : decode cL_nextHole 2 = .ok (.aload_n 0, 1) := by decide +kernel
theorem dL_nextHole_3 : decode cL_nextHole 3 = .ok (.invokevirtual 117, 3) := by decide +kernel
theorem dL_nextHole_11 : decode cL_nextHole 11 = .ok (.astore_n 2, 1) := by decide +kernel
theorem dL_nextHole_12 : decode cL_nextHole 12 = .ok (.iconst 1, 1) := by decide +kernel
theorem dL_nextHole_13 : decode cL_nextHole 13 = .ok (.ireturn, 1) := by decide +kernel
set_option maxRecDepth 20000 in
theorem ggL_state_X6_state : GoodIn wsL_state wsX6_state := goodIn_ca (goodIn_ca (goodIn_r _ [6, 7, 8, 9, 10, 11, 12, 5, 13, 14, 15, 16, 17, 18, 19, 20, 21, 22, 23, 24, 25, 26, 27, 28, 29, 30, 31, 32, 33, 34, 35, 36, 37, 38, 39, 40, 41, 42, 43, 44, 45, 46, 47, 48, 49, 50, 51, 52, 53, 54, 55, 56, 57] (by decide +kernel) (by decide +kernel)) (goodIn_sub (fun _ h => List.mem_cons_of_mem _ (List.mem_append_left _ (List.mem_append_right _ h))) (by decide +kernel))) (goodIn_sub (fun _ h => List.mem_cons_of_mem _ (List.mem_append_right _ h)) (by decide +kernel))
set_option maxRecDepth 20000 in
theorem gL_state_X6_state : GoodIn wsL_state (wsV RL 120 RX6 yX6_state wsX6_state) := goodIn_app (goodIn_of _ (by decide +kernel)) ggL_state_X6_state
theorem dL_state_0 : decode cL_state 0 = .ok (.aload_n 2, 1) := by decide +kernel
theorem dL_state_1 : decode cL_state 1 = .ok (.iconst 0, 1) := by decide +kernel
theorem dL_state_2 : decode cL_state 2 = .ok (.aload_n 0, 1) := by decide +kernel
theorem dL_state_3 : decode cL_state 3 = .ok (.iload_n 1, 1) := by decide +kernel
theorem dL_state_4 : decode cL_state 4 = .ok (.invokevirtual 120, 3) := by decide +kernel
theorem dL_state_12 : decode cL_state 12 = .ok (.astore_n 3, 1) := by decide +kernel
theorem dL_state_13 : decode cL_state 13 = .ok (.iconst 1, 1) := by decide +kernel
theorem dL_state_14 : decode cL_state 14 = .ok (.ireturn, 1) := by decide +kernel
set_option maxRecDepth 20000 in
theorem ggL_lie_X6_lie : GoodIn wsL_lie wsX6_lie := goodIn_ca (goodIn_ca (goodIn_ca (goodIn_r _ [6, 7, 8, 9, 10, 11, 12, 13, 14, 5, 15, 16, 17, 18, 19, 20, 21, 22, 23, 24, 25, 26, 27, 28, 29, 30, 31, 32, 33, 34, 35, 36, 37, 38, 39, 40, 41, 42, 43, 44, 45, 46, 47, 48, 49, 50, 51, 52, 53, 54, 55, 56, 57, 58, 59, 60, 61, 62, 63, 64, 65] (by decide +kernel) (by decide +kernel)) (goodIn_sub (fun _ h => List.mem_cons_of_mem _ (List.mem_append_left _ (List.mem_append_left _ (List.mem_append_right _ h)))) (by decide +kernel))) (goodIn_sub (fun _ h => List.mem_cons_of_mem _ (List.mem_append_left _ (List.mem_append_right _ h))) (by decide +kernel))) (goodIn_sub (fun _ h => List.mem_cons_of_mem _ (List.mem_append_right _ h)) (by decide +kernel))
set_option maxRecDepth 20000 in
theorem gL_lie_X6_lie : GoodIn wsL_lie (wsV RL 123 RX6 yX6_lie wsX6_lie) := goodIn_app (goodIn_of _ (by decide +kernel)) ggL_lie_X6_lie
theorem dL_lie_0 : decode cL_lie 0 = .ok (.aload_n 3, 1) := by decide +kernel
theorem dL_lie_1 : decode cL_lie 1 = .ok (.iconst 0, 1) := by decide +kernel
theorem dL_lie_2 : decode cL_lie 2 = .ok (.aload_n 0, 1) := by decide +kernel
theorem dL_lie_3 : decode cL_lie 3 = .ok (.iload_n 1, 1) := by decide +kernel
theorem dL_lie_4 : decode cL_lie 4 = .ok (.iload_n 2, 1) := by decide +kernel
theorem dL_lie_5 : decode cL_lie 5 = .ok (.invokevirtual 123, 3) := by decide +kernel
theorem dL_lie_13 : decode cL_lie 13 = .ok (.astore 4, 2) := by decide +kernel
theorem dL_lie_15 : decode cL_lie 15 = .ok (.iconst 1, 1) := by decide +kernel
theorem dL_lie_16 : decode cL_lie 16 = .ok (.ireturn, 1) := by decide +kernel
set_option maxRecDepth 20000 in
theorem ggL_strokes_X6_strokes : GoodIn wsL_strokes wsX6_strokes := goodIn_ca (goodIn_ca (goodIn_r _ [6, 7, 8, 9, 10, 11, 12, 5, 13, 14, 15, 16, 17, 18, 19, 20, 21, 22, 23, 24, 25, 26, 27, 28, 29, 30, 31, 32, 33, 34, 35, 36, 37, 38, 39, 40, 41, 42, 43, 44, 45, 46, 47, 48, 49, 50, 51, 52, 53, 54, 55, 56, 57] (by decide +kernel) (by decide +kernel)) (goodIn_sub (fun _ h => List.mem_cons_of_mem _ (List.mem_append_left _ (List.mem_append_right _ h))) (by decide +kernel))) (goodIn_sub (fun _ h => List.mem_cons_of_mem _ (List.mem_append_right _ h)) (by decide +kernel))
set_option maxRecDepth 20000 in
theorem gL_strokes_X6_strokes : GoodIn wsL_strokes (wsV RL 126 RX6 yX6_strokes wsX6_strokes) := goodIn_app (goodIn_of _ (by decide +kernel)) ggL_strokes_X6_strokes
theorem dL_strokes_0 : decode cL_strokes 0 = .ok (.aload_n 2, 1) := by decide +kernel
theorem dL_strokes_1 : decode cL_strokes 1 = .ok (.iconst 0, 1) := by decide +kernel
theorem dL_strokes_2 : decode cL_strokes 2 = .ok (.aload_n 0, 1) := by decide +kernel
theorem dL_strokes_3 : decode cL_strokes 3 = .ok (.iload_n 1, 1) := by decide +kernel
theorem dL_strokes_4 : decode cL_strokes 4 = .ok (.invokevirtual 126, 3) := by decide +kernel
theorem dL_strokes_12 : decode cL_strokes 12 = .ok (.astore_n 3, 1) := by decide +kernel
theorem dL_strokes_13 : decode cL_strokes 13 = .ok (.iconst 1, 1) := by decide +kernel
theorem dL_strokes_14 : decode cL_strokes 14 = .ok (.ireturn, 1) := by decide +kernel
set_option maxRecDepth 20000 in
theorem ggL_penalties_X6_penalties : GoodIn wsL_penalties wsX6_penalties := goodIn_ca (goodIn_ca (goodIn_r _ [6, 7, 8, 9, 10, 11, 12, 5, 13, 14, 15, 16, 17, 18, 19, 20, 21, 22, 23, 24, 25, 26, 27, 28, 29, 30, 31, 32, 33, 34, 35, 36, 37, 38, 39, 40, 41, 42, 43, 44, 45, 46, 47, 48, 49, 50, 51, 52, 53, 54, 55, 56, 57] (by decide +kernel) (by decide +kernel)) (goodIn_sub (fun _ h => List.mem_cons_of_mem _ (List.mem_append_left _ (List.mem_append_right _ h))) (by decide +kernel))) (goodIn_sub (fun _ h => List.mem_cons_of_mem _ (List.mem_append_right _ h)) (by decide +kernel))
set_option maxRecDepth 20000 in
theorem gL_penalties_X6_penalties : GoodIn wsL_penalties (wsV RL 129 RX6 yX6_penalties wsX6_penalties) := goodIn_app (goodIn_of _ (by decide +kernel)) ggL_penalties_X6_penalties
theorem dL_penalties_0 : decode cL_penalties 0 = .ok (.aload_n 2, 1) := by decide +kernel
theorem dL_penalties_1 : decode cL_penalties 1 = .ok (.iconst 0, 1) := by decide +kernel
theorem dL_penalties_2 : decode cL_penalties 2 = .ok (.aload_n 0, 1) := by decide +kernel
theorem dL_penalties_3 : decode cL_penalties 3 = .ok (.iload_n 1, 1) := by decide +kernel
theorem dL_penalties_4 : decode cL_penalties 4 = .ok (.invokevirtual 129, 3) := by decide +kernel
theorem dL_penalties_12 : decode cL_penalties 12 = .ok (.astore_n 3, 1) := by decide +kernel
theorem dL_penalties_13 : decode cL_penalties 13 = .ok (.iconst 1, 1) := by decide +kernel
theorem dL_penalties_14 : decode cL_penalties 14 = .ok (.ireturn, 1) := by decide +kernel
set_option maxRecDepth 20000 in
theorem ggL_isOut_X6_isOut : GoodIn wsL_isOut wsX6_isOut := goodIn_ca (goodIn_r _ [6, 7, 8, 9, 10, 11, 12, 5, 13, 14, 15, 16, 17, 18, 19, 20, 21, 22, 23, 24, 25, 26, 27, 28, 29, 30, 31, 32, 33, 34, 35, 36, 37, 38, 39, 40] (by decide +kernel) (by decide +kernel)) (goodIn_sub (fun _ h => List.mem_cons_of_mem _ (List.mem_append_right _ h)) (by decide +kernel))
set_option maxRecDepth 20000 in
theorem gL_isOut_X6_isOut : GoodIn wsL_isOut (wsV RL 132 RX6 yX6_isOut wsX6_isOut) := goodIn_app (goodIn_of _ (by decide +kernel)) ggL_isOut_X6_isOut
theorem dL_isOut_0 : decode cL_isOut 0 = .ok (.aload_n 2, 1) := by decide +kernel
theorem dL_isOut_1 : decode cL_isOut 1 = .ok (.iconst 0, 1) := by decide +kernel
theorem dL_isOut_2 : decode cL_isOut 2 = .ok (.aload_n 0, 1) := by decide +kernel
theorem dL_isOut_3 : decode cL_isOut 3 = .ok (.iload_n 1, 1) := by decide +kernel
theorem dL_isOut_4 : decode cL_isOut 4 = .ok (.invokevirtual 132, 3) := by decide +kernel
theorem dL_isOut_19 : decode cL_isOut 19 = .ok (.astore_n 3, 1) := by decide +kernel
theorem dL_isOut_20 : decode cL_isOut 20 = .ok (.iconst 1, 1) := by decide +kernel
theorem dL_isOut_21 : decode cL_isOut 21 = .ok (.ireturn, 1) := by decide +kernel
set_option maxRecDepth 20000 in
theorem ggL_score_X6_score : GoodIn wsL_score wsX6_score := goodIn_ca (goodIn_ca (goodIn_ca (goodIn_r _ [6, 7, 8, 9, 10, 11, 12, 13, 5, 14, 15, 16, 17, 18, 19, 20, 21, 22, 23, 24, 25, 26, 27, 28, 29, 30, 31, 32, 33, 34, 35, 36, 37, 38, 39, 40, 41, 42, 43, 44, 45, 46, 47, 48, 49, 50, 51, 52] (by decide +kernel) (by decide +kernel)) (goodIn_sub (fun _ h => List.mem_cons_of_mem _ (List.mem_append_left _ (List.mem_append_right _ h))) (by decide +kernel))) (goodIn_sub (fun _ h => List.mem_cons_of_mem _ (List.mem_append_right _ h)) (by decide +kernel))) (goodIn_sub (fun _ h => List.mem_cons_of_mem _ (List.mem_append_left _ (List.mem_append_left _ (List.mem_append_right _ h)))) (by decide +kernel))
set_option maxRecDepth 20000 in
theorem gL_score_X6_score : GoodIn wsL_score (wsV RL 135 RX6 yX6_score wsX6_score) := goodIn_app (goodIn_of _ (by decide +kernel)) ggL_score_X6_score
theorem dL_score_0 : decode cL_score 0 = .ok (.aload_n 3, 1) := by decide +kernel
theorem dL_score_1 : decode cL_score 1 = .ok (.iconst 0, 1) := by decide +kernel
theorem dL_score_2 : decode cL_score 2 = .ok (.aload_n 0, 1) := by decide +kernel
theorem dL_score_3 : decode cL_score 3 = .ok (.iload_n 1, 1) := by decide +kernel
theorem dL_score_4 : decode cL_score 4 = .ok (.iload_n 2, 1) := by decide +kernel
theorem dL_score_5 : decode cL_score 5 = .ok (.invokevirtual 135, 3) := by decide +kernel
theorem dL_score_13 : decode cL_score 13 = .ok (.astore 4, 2) := by decide +kernel
theorem dL_score_15 : decode cL_score 15 = .ok (.iconst 1, 1) := by decide +kernel
theorem dL_score_16 : decode cL_score 16 = .ok (.ireturn, 1) := by decide +kernel
set_option maxRecDepth 20000 in
theorem ggL_up_X6_up : GoodIn wsL_up wsX6_up := goodIn_ca (goodIn_r _ [6, 7, 8, 9, 10, 11, 5, 12, 13, 14, 15, 16, 17, 18, 19, 20, 21, 22, 23, 24, 25, 26, 27, 28, 29, 30, 31, 32, 33, 34, 35, 36, 37, 38, 39] (by decide +kernel) (by decide +kernel)) (goodIn_sub (fun _ h => List.mem_cons_of_mem _ (List.mem_append_right _ h)) (by decide +kernel))
set_option maxRecDepth 20000 in
theorem gL_up_X6_up : GoodIn wsL_up (wsV RL 138 RX6 yX6_up wsX6_up) := goodIn_app (goodIn_of _ (by decide +kernel)) ggL_up_X6_up
theorem dL_up_0 : decode cL_up 0 = .ok (.aload_n 1, 1) := by decide +kernel
theorem dL_up_1 : decode cL_up 1 = .ok (.iconst 0, 1) := by decide +kernel
theorem dL_up_2 : decode cL_up 2 = .ok (.aload_n 0, 1) := by decide +kernel
theorem dL_up_3 : decode cL_up 3 = .ok (.invokevirtual 138, 3) := by decide +kernel
theorem dL_up_11 : decode cL_up 11 = .ok (.astore_n 2, 1) := by decide +kernel
theorem dL_up_12 : decode cL_up 12 = .ok (.iconst 1, 1) := by decide +kernel
theorem dL_up_13 : decode cL_up 13 = .ok (.ireturn, 1) := by decide +kernel
set_option maxRecDepth 20000 in
theorem ggL_isMatchOver_X6_isMatchOver : GoodIn wsL_isMatchOver wsX6_isMatchOver := goodIn_ca (goodIn_r _ [6, 7, 8, 9, 10, 11, 12, 13, 14, 15, 16, 17, 18, 19, 5, 20, 21, 22, 23, 24, 25, 26, 27, 28, 29, 30, 31, 32, 33, 34, 35, 36, 37, 38, 39, 40, 41, 42, 43, 44, 45, 46, 47] (by decide +kernel) (by decide +kernel)) (goodIn_sub (fun _ h => List.mem_cons_of_mem _ (List.mem_append_right _ h)) (by decide +kernel))
set_option maxRecDepth 20000 in
theorem gL_isMatchOver_X6_isMatchOver : GoodIn wsL_isMatchOver (wsV RL 141 RX6 yX6_isMatchOver wsX6_isMatchOver) := goodIn_app (goodIn_of _ (by decide +kernel)) ggL_isMatchOver_X6_isMatchOver
theorem dL_isMatchOver_0 : decode cL_isMatchOver 0 = .ok (.aload_n 1, 1) := by decide +kernel
theorem dL_isMatchOver_1 : decode cL_isMatchOver 1 = .ok (.iconst 0, 1) := by decide +kernel
theorem dL_isMatchOver_2 : decode cL_isMatchOver 2 = .ok (.aload_n 0, 1) := by decide +kernel
theorem dL_isMatchOver_3 : decode cL_isMatchOver 3 = .ok (.invokevirtual 141, 3) := by decide +kernel
theorem dL_isMatchOver_18 : decode cL_isMatchOver 18 = .ok (.astore_n 2, 1) := by decide +kernel
theorem dL_isMatchOver_19 : decode cL_isMatchOver 19 = .ok (.iconst 1, 1) := by decide +kernel
theorem dL_isMatchOver_20 : decode cL_isMatchOver 20 = .ok (.ireturn, 1) := by decide +kernel
set_option maxRecDepth 20000 in
theorem ggL_write_X6_write : GoodIn wsL_write wsX6_write := goodIn_ca (goodIn_ca (goodIn_ca (goodIn_ca (goodIn_r _ [6, 7, 8, 9, 10, 11, 12, 13, 14, 15, 16, 17, 5, 18, 19, 20, 21, 22, 23, 24, 25, 26, 27, 28, 29, 30, 31, 32, 33, 34, 35, 36, 37, 38, 39, 40, 41, 42, 43, 44, 45, 46, 47, 48, 49, 50, 51, 52, 53, 54, 55, 56] (by decide +kernel) (by decide +kernel)) (goodIn_sub (fun _ h => List.mem_cons_of_mem _ (List.mem_append_left _ (List.mem_append_left _ (List.mem_append_right _ h)))) (by decide +kernel))) (goodIn_sub (fun _ h => List.mem_cons_of_mem _ (List.mem_append_left _ (List.mem_append_right _ h))) (by decide +kernel))) (goodIn_sub (fun _ h => List.mem_cons_of_mem _ (List.mem_append_left _ (List.mem_append_left _ (List.mem_append_left _ (List.mem_append_right _ h))))) (by decide +kernel))) (goodIn_sub (fun _ h => List.mem_cons_of_mem _ (List.mem_append_right _ h)) (by decide +kernel))
set_option maxRecDepth 20000 in
theorem gL_write_X6_write : GoodIn wsL_write (wsV RL 145 RX6 yX6_write wsX6_write) := goodIn_app (goodIn_of _ (by decide +kernel)) ggL_write_X6_write
theorem dL_write_0 : decode cL_write 0 = .ok (.aload 4, 2) := by decide +kernel
theorem dL_write_2 : decode cL_write 2 = .ok (.iconst 0, 1) := by decide +kernel
theorem dL_write_3 : decode cL_write 3 = .ok (.aload_n 0, 1) := by decide +kernel
theorem dL_write_4 : decode cL_write 4 = .ok (.iload_n 1, 1) := by decide +kernel
theorem dL_write_5 : decode cL_write 5 = .ok (.iload_n 2, 1) := by decide +kernel
theorem dL_write_6 : decode cL_write 6 = .ok (.iload_n 3, 1) := by decide +kernel
theorem dL_write_7 : decode cL_write 7 = .ok (.invokevirtual 145, 3) := by decide +kernel
theorem dL_write_15 : decode cL_write 15 = .ok (.astore 5, 2) := by decide +kernel
theorem dL_write_17 : decode cL_write 17 = .ok (.iconst 1, 1) := by decide +kernel
theorem dL_write_18 : decode cL_write 18 = .ok (.ireturn, 1) := by decide +kernel
set_option maxRecDepth 20000 in
theorem ggL_sign_X6_sign : GoodIn wsL_sign wsX6_sign := goodIn_ca (goodIn_ca (goodIn_ca (goodIn_ca (goodIn_r _ [6, 7, 8, 9, 10, 11, 12, 13, 14, 15, 16, 17, 18, 5, 19, 20, 21, 22, 23, 24, 25, 26, 27, 28, 29, 30, 31, 32, 33, 34, 35, 36, 37, 38, 39, 40, 41, 42, 43, 44, 45, 46, 47, 48, 49, 50, 51, 52, 53, 54, 55, 56, 57, 58, 59, 60, 61, 62, 63, 64, 65, 66, 67, 68, 69, 70, 71] (by decide +kernel) (by decide +kernel)) (goodIn_sub (fun _ h => List.mem_cons_of_mem _ (List.mem_append_left _ (List.mem_append_left _ (List.mem_append_right _ h)))) (by decide +kernel))) (goodIn_sub (fun _ h => List.mem_cons_of_mem _ (List.mem_append_left _ (List.mem_append_right _ h))) (by decide +kernel))) (goodIn_sub (fun _ h => List.mem_cons_of_mem _ (List.mem_append_right _ h)) (by decide +kernel))) (goodIn_sub (fun _ h => List.mem_cons_of_mem _ (List.mem_append_left _ (List.mem_append_left _ (List.mem_append_left _ (List.mem_append_right _ h))))) (by decide +kernel))
set_option maxRecDepth 20000 in
theorem gL_sign_X6_sign : GoodIn wsL_sign (wsV RL 148 RX6 yX6_sign wsX6_sign) := goodIn_app (goodIn_of _ (by decide +kernel)) ggL_sign_X6_sign
theorem dL_sign_0 : decode cL_sign 0 = .ok (.aload_n 2, 1) := by decide +kernel
theorem dL_sign_1 : decode cL_sign 1 = .ok (.iconst 0, 1) := by decide +kernel
theorem dL_sign_2 : decode cL_sign 2 = .ok (.aload_n 0, 1) := by decide +kernel
theorem dL_sign_3 : decode cL_sign 3 = .ok (.iload_n 1, 1) := by decide +kernel
theorem dL_sign_4 : decode cL_sign 4 = .ok (.invokevirtual 148, 3) := by decide +kernel
theorem dL_sign_19 : decode cL_sign 19 = .ok (.astore_n 3, 1) := by decide +kernel
theorem dL_sign_20 : decode cL_sign 20 = .ok (.iconst 1, 1) := by decide +kernel
theorem dL_sign_21 : decode cL_sign 21 = .ok (.ireturn, 1) := by decide +kernel
set_option maxRecDepth 20000 in
theorem ggL_total_X6_total : GoodIn wsL_total wsX6_total := goodIn_ca (goodIn_ca (goodIn_ca (goodIn_r _ [6, 7, 8, 9, 10, 11, 12, 13, 14, 5, 15, 16, 17, 18, 19, 20, 21, 22, 23, 24, 25, 26, 27, 28, 29, 30, 31, 32, 33, 34, 35, 36, 37, 38, 39, 40, 41, 42, 43, 44, 45, 46, 47, 48, 49, 50, 51, 52, 53, 54, 55, 56] (by decide +kernel) (by decide +kernel)) (goodIn_sub (fun _ h => List.mem_cons_of_mem _ (List.mem_append_left _ (List.mem_append_right _ h))) (by decide +kernel))) (goodIn_sub (fun _ h => List.mem_cons_of_mem _ (List.mem_append_right _ h)) (by decide +kernel))) (goodIn_sub (fun _ h => List.mem_cons_of_mem _ (List.mem_append_left _ (List.mem_append_left _ (List.mem_append_right _ h)))) (by decide +kernel))
set_option maxRecDepth 20000 in
theorem gL_total_X6_total : GoodIn wsL_total (wsV RL 151 RX6 yX6_total wsX6_total) := goodIn_app (goodIn_of _ (by decide +kernel)) ggL_total_X6_total
theorem dL_total_0 : decode cL_total 0 = .ok (.aload_n 2, 1) := by decide +kernel
theorem dL_total_1 : decode cL_total 1 = .ok (.iconst 0, 1) := by decide +kernel
theorem dL_total_2 : decode cL_total 2 = .ok (.aload_n 0, 1) := by decide +kernel
theorem dL_total_3 : decode cL_total 3 = .ok (.iload_n 1, 1) := by decide +kernel
theorem dL_total_4 : decode cL_total 4 = .ok (.invokevirtual 151, 3) := by decide +kernel
theorem dL_total_12 : decode cL_total 12 = .ok (.astore_n 3, 1) := by decide +kernel
theorem dL_total_13 : decode cL_total 13 = .ok (.iconst 1, 1) := by decide +kernel
theorem dL_total_14 : decode cL_total 14 = .ok (.ireturn, 1) := by decide +kernel
set_option maxRecDepth 20000 in
theorem ggL_stableford_X6_stableford : GoodIn wsL_stableford wsX6_stableford := goodIn_ca (goodIn_ca (goodIn_ca (goodIn_r _ [6, 7, 8, 9, 10, 11, 12, 13, 14, 15, 16, 17, 18, 5, 19, 20, 21, 22, 23, 24, 25, 26, 27, 28, 29, 30, 31, 32, 33, 34, 35, 36, 37, 38, 39, 40, 41, 42, 43, 44, 45, 46, 47, 48, 49, 50, 51, 52, 53, 54, 55, 56, 57, 58, 59, 60, 61, 62, 63, 64, 65, 66, 67, 68] (by decide +kernel) (by decide +kernel)) (goodIn_sub (fun _ h => List.mem_cons_of_mem _ (List.mem_append_left _ (List.mem_append_right _ h))) (by decide +kernel))) (goodIn_sub (fun _ h => List.mem_cons_of_mem _ (List.mem_append_left _ (List.mem_append_left _ (List.mem_append_right _ h)))) (by decide +kernel))) (goodIn_sub (fun _ h => List.mem_cons_of_mem _ (List.mem_append_right _ h)) (by decide +kernel))
set_option maxRecDepth 20000 in
theorem gL_stableford_X6_stableford : GoodIn wsL_stableford (wsV RL 154 RX6 yX6_stableford wsX6_stableford) := goodIn_app (goodIn_of _ (by decide +kernel)) ggL_stableford_X6_stableford
theorem dL_stableford_0 : decode cL_stableford 0 = .ok (.aload_n 2, 1) := by decide +kernel
theorem dL_stableford_1 : decode cL_stableford 1 = .ok (.iconst 0, 1) := by decide +kernel
theorem dL_stableford_2 : decode cL_stableford 2 = .ok (.aload_n 0, 1) := by decide +kernel
theorem dL_stableford_3 : decode cL_stableford 3 = .ok (.iload_n 1, 1) := by decide +kernel
theorem dL_stableford_4 : decode cL_stableford 4 = .ok (.invokevirtual 154, 3) := by decide +kernel
theorem dL_stableford_12 : decode cL_stableford 12 = .ok (.astore_n 3, 1) := by decide +kernel
theorem dL_stableford_13 : decode cL_stableford 13 = .ok (.iconst 1, 1) := by decide +kernel
theorem dL_stableford_14 : decode cL_stableford 14 = .ok (.ireturn, 1) := by decide +kernel
set_option maxRecDepth 20000 in
theorem ggL_parPlay_X6_parPlay : GoodIn wsL_parPlay wsX6_parPlay := goodIn_ca (goodIn_ca (goodIn_ca (goodIn_ca (goodIn_r _ [6, 7, 8, 9, 10, 11, 12, 13, 14, 5, 15, 16, 17, 18, 19, 20, 21, 22, 23, 24, 25, 26, 27, 28, 29, 30, 31, 32, 33, 34, 35, 36, 37, 38, 39, 40, 41, 42, 43, 44, 45, 46, 47, 48, 49, 50, 51, 52, 53, 54, 55, 56, 57, 58, 59, 60, 61, 62, 63, 64, 65, 66, 67, 68, 69, 70, 71, 72, 73, 74, 75, 76, 77, 78, 79, 80] (by decide +kernel) (by decide +kernel)) (goodIn_sub (fun _ h => List.mem_cons_of_mem _ (List.mem_append_left _ (List.mem_append_left _ (List.mem_append_right _ h)))) (by decide +kernel))) (goodIn_sub (fun _ h => List.mem_cons_of_mem _ (List.mem_append_left _ (List.mem_append_right _ h))) (by decide +kernel))) (goodIn_sub (fun _ h => List.mem_cons_of_mem _ (List.mem_append_left _ (List.mem_append_left _ (List.mem_append_left _ (List.mem_append_right _ h))))) (by decide +kernel))) (goodIn_sub (fun _ h => List.mem_cons_of_mem _ (List.mem_append_right _ h)) (by decide +kernel))
set_option maxRecDepth 20000 in
theorem gL_parPlay_X6_parPlay : GoodIn wsL_parPlay (wsV RL 157 RX6 yX6_parPlay wsX6_parPlay) := goodIn_app (goodIn_of _ (by decide +kernel)) ggL_parPlay_X6_parPlay
theorem dL_parPlay_0 : decode cL_parPlay 0 = .ok (.aload_n 2, 1) := by decide +kernel
theorem dL_parPlay_1 : decode cL_parPlay 1 = .ok (.iconst 0, 1) := by decide +kernel
theorem dL_parPlay_2 : decode cL_parPlay 2 = .ok (.aload_n 0, 1) := by decide +kernel
theorem dL_parPlay_3 : decode cL_parPlay 3 = .ok (.iload_n 1, 1) := by decide +kernel
theorem dL_parPlay_4 : decode cL_parPlay 4 = .ok (.invokevirtual 157, 3) := by decide +kernel
theorem dL_parPlay_12 : decode cL_parPlay 12 = .ok (.astore_n 3, 1) := by decide +kernel
theorem dL_parPlay_13 : decode cL_parPlay 13 = .ok (.iconst 1, 1) := by decide +kernel
theorem dL_parPlay_14 : decode cL_parPlay 14 = .ok (.ireturn, 1) := by decide +kernel
set_option maxRecDepth 20000 in
theorem ggL_together_X6_together : GoodIn wsL_together wsX6_together := goodIn_ca (goodIn_ca (goodIn_ca (goodIn_ca (goodIn_ca (goodIn_r _ [6, 7, 8, 9, 10, 11, 12, 13, 14, 15, 16, 17, 18, 19, 20, 5, 21, 22, 23, 24, 25, 26, 27, 28, 29, 30, 31, 32, 33, 34, 35, 36, 37, 38, 39, 40, 41, 42, 43, 44, 45, 46, 47, 48, 49, 50, 51, 52, 53, 54, 55, 56, 57, 58, 59, 60, 61, 62, 63, 64, 65, 66, 67, 68, 69, 70, 71] (by decide +kernel) (by decide +kernel)) (goodIn_sub (fun _ h => List.mem_cons_of_mem _ (List.mem_append_left _ (List.mem_append_left _ (List.mem_append_left _ (List.mem_append_right _ h))))) (by decide +kernel))) (goodIn_sub (fun _ h => List.mem_cons_of_mem _ (List.mem_append_left _ (List.mem_append_left _ (List.mem_append_right _ h)))) (by decide +kernel))) (goodIn_sub (fun _ h => List.mem_cons_of_mem _ (List.mem_append_left _ (List.mem_append_right _ h))) (by decide +kernel))) (goodIn_sub (fun _ h => List.mem_cons_of_mem _ (List.mem_append_left _ (List.mem_append_left _ (List.mem_append_left _ (List.mem_append_left _ (List.mem_append_right _ h)))))) (by decide +kernel))) (goodIn_sub (fun _ h => List.mem_cons_of_mem _ (List.mem_append_right _ h)) (by decide +kernel))
set_option maxRecDepth 20000 in
theorem gL_together_X6_together : GoodIn wsL_together (wsV RL 160 RX6 yX6_together wsX6_together) := goodIn_app (goodIn_of _ (by decide +kernel)) ggL_together_X6_together
theorem dL_together_0 : decode cL_together 0 = .ok (.aload_n 3, 1) := by decide +kernel
theorem dL_together_1 : decode cL_together 1 = .ok (.iconst 0, 1) := by decide +kernel
theorem dL_together_2 : decode cL_together 2 = .ok (.aload_n 0, 1) := by decide +kernel
theorem dL_together_3 : decode cL_together 3 = .ok (.iload_n 1, 1) := by decide +kernel
theorem dL_together_4 : decode cL_together 4 = .ok (.iload_n 2, 1) := by decide +kernel
theorem dL_together_5 : decode cL_together 5 = .ok (.invokevirtual 160, 3) := by decide +kernel
theorem dL_together_13 : decode cL_together 13 = .ok (.astore 4, 2) := by decide +kernel
theorem dL_together_15 : decode cL_together 15 = .ok (.iconst 1, 1) := by decide +kernel
theorem dL_together_16 : decode cL_together 16 = .ok (.ireturn, 1) := by decide +kernel
set_option maxRecDepth 20000 in
theorem ggL_skins_X6_skins : GoodIn wsL_skins wsX6_skins := goodIn_ca (goodIn_ca (goodIn_ca (goodIn_ca (goodIn_r _ [6, 7, 8, 9, 5, 10, 11, 12, 13, 14, 15, 16, 17, 18, 19, 20, 21, 22, 23, 24, 25, 26, 27, 28, 29, 30, 31, 32, 33, 34, 35, 36, 37, 38, 39, 40, 41, 42, 43, 44, 45, 46, 47, 48, 49, 50, 51, 52, 53, 54, 55, 56, 57, 58, 59, 60, 61, 62, 63, 64, 65, 66, 67, 68, 69, 70, 71, 72, 73, 74, 75, 76, 77, 78, 79, 80, 81, 82, 83] (by decide +kernel) (by decide +kernel)) (goodIn_sub (fun _ h => List.mem_cons_of_mem _ (List.mem_append_left _ (List.mem_append_left _ (List.mem_append_right _ h)))) (by decide +kernel))) (goodIn_sub (fun _ h => List.mem_cons_of_mem _ (List.mem_append_left _ (List.mem_append_right _ h))) (by decide +kernel))) (goodIn_sub (fun _ h => List.mem_cons_of_mem _ (List.mem_append_left _ (List.mem_append_left _ (List.mem_append_left _ (List.mem_append_right _ h))))) (by decide +kernel))) (goodIn_sub (fun _ h => List.mem_cons_of_mem _ (List.mem_append_right _ h)) (by decide +kernel))
set_option maxRecDepth 20000 in
theorem gL_skins_X6_skins : GoodIn wsL_skins (wsV RL 163 RX6 yX6_skins wsX6_skins) := goodIn_app (goodIn_of _ (by decide +kernel)) ggL_skins_X6_skins
theorem dL_skins_0 : decode cL_skins 0 = .ok (.aload_n 2, 1) := by decide +kernel
theorem dL_skins_1 : decode cL_skins 1 = .ok (.iconst 0, 1) := by decide +kernel
theorem dL_skins_2 : decode cL_skins 2 = .ok (.aload_n 0, 1) := by decide +kernel
theorem dL_skins_3 : decode cL_skins 3 = .ok (.iload_n 1, 1) := by decide +kernel
theorem dL_skins_4 : decode cL_skins 4 = .ok (.invokevirtual 163, 3) := by decide +kernel
theorem dL_skins_12 : decode cL_skins 12 = .ok (.astore_n 3, 1) := by decide +kernel
theorem dL_skins_13 : decode cL_skins 13 = .ok (.iconst 1, 1) := by decide +kernel
theorem dL_skins_14 : decode cL_skins 14 = .ok (.ireturn, 1) := by decide +kernel
set_option maxRecDepth 20000 in
theorem ggL_rank_X6_rank : GoodIn wsL_rank wsX6_rank := goodIn_ca (goodIn_ca (goodIn_ca (goodIn_r _ [6, 7, 8, 9, 5, 10, 11, 12, 13, 14, 15, 16, 17, 18, 19, 20, 21, 22, 23, 24, 25, 26, 27, 28, 29, 30, 31, 32, 33, 34, 35, 36, 37, 38, 39, 40, 41, 42, 43, 44, 45, 46, 47, 48, 49, 50, 51, 52, 53, 54, 55, 56, 57, 58, 59, 60, 61, 62, 63, 64, 65, 66, 67, 68, 69, 70, 71, 72, 73, 74] (by decide +kernel) (by decide +kernel)) (goodIn_sub (fun _ h => List.mem_cons_of_mem _ (List.mem_append_left _ (List.mem_append_right _ h))) (by decide +kernel))) (goodIn_sub (fun _ h => List.mem_cons_of_mem _ (List.mem_append_right _ h)) (by decide +kernel))) (goodIn_sub (fun _ h => List.mem_cons_of_mem _ (List.mem_append_left _ (List.mem_append_left _ (List.mem_append_right _ h)))) (by decide +kernel))
set_option maxRecDepth 20000 in
theorem gL_rank_X6_rank : GoodIn wsL_rank (wsV RL 166 RX6 yX6_rank wsX6_rank) := goodIn_app (goodIn_of _ (by decide +kernel)) ggL_rank_X6_rank
theorem dL_rank_0 : decode cL_rank 0 = .ok (.aload_n 2, 1) := by decide +kernel
theorem dL_rank_1 : decode cL_rank 1 = .ok (.iconst 0, 1) := by decide +kernel
theorem dL_rank_2 : decode cL_rank 2 = .ok (.aload_n 0, 1) := by decide +kernel
theorem dL_rank_3 : decode cL_rank 3 = .ok (.iload_n 1, 1) := by decide +kernel
theorem dL_rank_4 : decode cL_rank 4 = .ok (.invokevirtual 166, 3) := by decide +kernel
theorem dL_rank_12 : decode cL_rank 12 = .ok (.astore_n 3, 1) := by decide +kernel
theorem dL_rank_13 : decode cL_rank 13 = .ok (.iconst 1, 1) := by decide +kernel
theorem dL_rank_14 : decode cL_rank 14 = .ok (.ireturn, 1) := by decide +kernel
set_option maxRecDepth 20000 in
theorem ggL_isAhead_X6_isAhead : GoodIn wsL_isAhead wsX6_isAhead := goodIn_ca (goodIn_ca (goodIn_ca (goodIn_r _ [6, 7, 8, 9, 10, 5, 11, 12, 13, 14, 15, 16, 17, 18, 19, 20, 21, 22, 23, 24, 25, 26, 27, 28, 29, 30, 31, 32, 33, 34, 35, 36, 37, 38, 39, 40, 41, 42, 43, 44, 45, 46, 47, 48, 49, 50, 51, 52, 53, 54, 55, 56, 57, 58, 59, 60, 61, 62, 63, 64, 65, 66, 67, 68, 69, 70] (by decide +kernel) (by decide +kernel)) (goodIn_sub (fun _ h => List.mem_cons_of_mem _ (List.mem_append_left _ (List.mem_append_right _ h))) (by decide +kernel))) (goodIn_sub (fun _ h => List.mem_cons_of_mem _ (List.mem_append_right _ h)) (by decide +kernel))) (goodIn_sub (fun _ h => List.mem_cons_of_mem _ (List.mem_append_left _ (List.mem_append_left _ (List.mem_append_right _ h)))) (by decide +kernel))
set_option maxRecDepth 20000 in
theorem gL_isAhead_X6_isAhead : GoodIn wsL_isAhead (wsV RL 169 RX6 yX6_isAhead wsX6_isAhead) := goodIn_app (goodIn_of _ (by decide +kernel)) ggL_isAhead_X6_isAhead
theorem dL_isAhead_0 : decode cL_isAhead 0 = .ok (.aload_n 3, 1) := by decide +kernel
theorem dL_isAhead_1 : decode cL_isAhead 1 = .ok (.iconst 0, 1) := by decide +kernel
theorem dL_isAhead_2 : decode cL_isAhead 2 = .ok (.aload_n 0, 1) := by decide +kernel
theorem dL_isAhead_3 : decode cL_isAhead 3 = .ok (.iload_n 1, 1) := by decide +kernel
theorem dL_isAhead_4 : decode cL_isAhead 4 = .ok (.iload_n 2, 1) := by decide +kernel
theorem dL_isAhead_5 : decode cL_isAhead 5 = .ok (.invokevirtual 169, 3) := by decide +kernel
theorem dL_isAhead_20 : decode cL_isAhead 20 = .ok (.astore 4, 2) := by decide +kernel
theorem dL_isAhead_22 : decode cL_isAhead 22 = .ok (.iconst 1, 1) := by decide +kernel
theorem dL_isAhead_23 : decode cL_isAhead 23 = .ok (.ireturn, 1) := by decide +kernel
set_option maxRecDepth 20000 in
theorem ggL_post_X6_post : GoodIn wsL_post wsX6_post := goodIn_ca (goodIn_ca (goodIn_ca (goodIn_ca (goodIn_ca (goodIn_r _ [6, 7, 8, 9, 10, 11, 12, 13, 14, 15, 16, 17, 18, 19, 20, 21, 22, 23, 24, 25, 26, 5, 27, 28, 29, 30, 31, 32, 33, 34, 35, 36, 37, 38, 39, 40, 41, 42, 43, 44, 45, 46, 47, 48, 49, 50, 51, 52, 53, 54, 55, 56, 57, 58, 59, 60, 61, 62, 63, 64, 65, 66, 67, 68, 69, 70, 71, 72, 73, 74, 75, 76, 77, 78, 79, 80, 81, 82, 83, 84, 85, 86, 87, 88, 89, 90, 91, 92, 93, 94, 95, 96, 97, 98, 99, 100, 101, 102, 103, 104, 105, 106, 107, 108, 109, 110, 111, 112, 113, 114, 115, 116, 117, 118, 119, 120, 121, 122, 123, 124, 125, 126, 127, 128, 129, 130, 131, 132] (by decide +kernel) (by decide +kernel)) (goodIn_sub (fun _ h => List.mem_cons_of_mem _ (List.mem_append_left _ (List.mem_append_left _ (List.mem_append_left _ (List.mem_append_right _ h))))) (by decide +kernel))) (goodIn_sub (fun _ h => List.mem_cons_of_mem _ (List.mem_append_left _ (List.mem_append_left _ (List.mem_append_right _ h)))) (by decide +kernel))) (goodIn_sub (fun _ h => List.mem_cons_of_mem _ (List.mem_append_left _ (List.mem_append_right _ h))) (by decide +kernel))) (goodIn_sub (fun _ h => List.mem_cons_of_mem _ (List.mem_append_right _ h)) (by decide +kernel))) (goodIn_sub (fun _ h => List.mem_cons_of_mem _ (List.mem_append_left _ (List.mem_append_left _ (List.mem_append_left _ (List.mem_append_left _ (List.mem_append_right _ h)))))) (by decide +kernel))
set_option maxRecDepth 20000 in
theorem gL_post_X6_post : GoodIn wsL_post (wsV RL 179 RX6 yX6_post wsX6_post) := goodIn_app (goodIn_of _ (by decide +kernel)) ggL_post_X6_post
theorem dL_post_0 : decode cL_post 0 = .ok (.aload 4, 2) := by decide +kernel
theorem dL_post_2 : decode cL_post 2 = .ok (.iconst 0, 1) := by decide +kernel
theorem dL_post_3 : decode cL_post 3 = .ok (.aload_n 0, 1) := by decide +kernel
theorem dL_post_4 : decode cL_post 4 = .ok (.iload_n 1, 1) := by decide +kernel
theorem dL_post_5 : decode cL_post 5 = .ok (.iload_n 2, 1) := by decide +kernel
theorem dL_post_6 : decode cL_post 6 = .ok (.iload_n 3, 1) := by decide +kernel
theorem dL_post_7 : decode cL_post 7 = .ok (.invokevirtual 179, 3) := by decide +kernel
theorem dL_post_15 : decode cL_post 15 = .ok (.astore 5, 2) := by decide +kernel
theorem dL_post_17 : decode cL_post 17 = .ok (.iconst 1, 1) := by decide +kernel
theorem dL_post_18 : decode cL_post 18 = .ok (.ireturn, 1) := by decide +kernel
set_option maxRecDepth 20000 in
theorem ggL_difference_X6_difference : GoodIn wsL_difference wsX6_difference := goodIn_ca (goodIn_ca (goodIn_r _ [6, 7, 8, 9, 10, 11, 12, 13, 14, 5, 15, 16, 17, 18, 19, 20, 21, 22, 23, 24, 25, 26, 27, 28, 29, 30, 31, 32, 33, 34, 35, 36, 37, 38, 39, 40, 41, 42, 43, 44] (by decide +kernel) (by decide +kernel)) (goodIn_sub (fun _ h => List.mem_cons_of_mem _ (List.mem_append_right _ h)) (by decide +kernel))) (goodIn_sub (fun _ h => List.mem_cons_of_mem _ (List.mem_append_left _ (List.mem_append_right _ h))) (by decide +kernel))
set_option maxRecDepth 20000 in
theorem gL_difference_X6_difference : GoodIn wsL_difference (wsV RL 182 RX6 yX6_difference wsX6_difference) := goodIn_app (goodIn_of _ (by decide +kernel)) ggL_difference_X6_difference
theorem dL_difference_0 : decode cL_difference 0 = .ok (.aload_n 3, 1) := by decide +kernel
theorem dL_difference_1 : decode cL_difference 1 = .ok (.iconst 0, 1) := by decide +kernel
theorem dL_difference_2 : decode cL_difference 2 = .ok (.aload_n 0, 1) := by decide +kernel
theorem dL_difference_3 : decode cL_difference 3 = .ok (.iload_n 1, 1) := by decide +kernel
theorem dL_difference_4 : decode cL_difference 4 = .ok (.iload_n 2, 1) := by decide +kernel
theorem dL_difference_5 : decode cL_difference 5 = .ok (.invokevirtual 182, 3) := by decide +kernel
theorem dL_difference_13 : decode cL_difference 13 = .ok (.astore 4, 2) := by decide +kernel
theorem dL_difference_15 : decode cL_difference 15 = .ok (.iconst 1, 1) := by decide +kernel
theorem dL_difference_16 : decode cL_difference 16 = .ok (.ireturn, 1) := by decide +kernel
set_option maxRecDepth 20000 in
theorem ggL_index_X6_index : GoodIn wsL_index wsX6_index := goodIn_ca (goodIn_ca (goodIn_r _ [6, 7, 8, 9, 10, 11, 12, 5, 13, 14, 15, 16, 17, 18, 19, 20, 21, 22, 23, 24, 25, 26, 27, 28, 29, 30, 31, 32, 33, 34, 35, 36, 37, 38, 39, 40, 41, 42, 43, 44, 45] (by decide +kernel) (by decide +kernel)) (goodIn_sub (fun _ h => List.mem_cons_of_mem _ (List.mem_append_left _ (List.mem_append_right _ h))) (by decide +kernel))) (goodIn_sub (fun _ h => List.mem_cons_of_mem _ (List.mem_append_right _ h)) (by decide +kernel))
set_option maxRecDepth 20000 in
theorem gL_index_X6_index : GoodIn wsL_index (wsV RL 185 RX6 yX6_index wsX6_index) := goodIn_app (goodIn_of _ (by decide +kernel)) ggL_index_X6_index
theorem dL_index_0 : decode cL_index 0 = .ok (.aload_n 2, 1) := by decide +kernel
theorem dL_index_1 : decode cL_index 1 = .ok (.iconst 0, 1) := by decide +kernel
theorem dL_index_2 : decode cL_index 2 = .ok (.aload_n 0, 1) := by decide +kernel
theorem dL_index_3 : decode cL_index 3 = .ok (.iload_n 1, 1) := by decide +kernel
theorem dL_index_4 : decode cL_index 4 = .ok (.invokevirtual 185, 3) := by decide +kernel
theorem dL_index_12 : decode cL_index 12 = .ok (.astore_n 3, 1) := by decide +kernel
theorem dL_index_13 : decode cL_index 13 = .ok (.iconst 1, 1) := by decide +kernel
theorem dL_index_14 : decode cL_index 14 = .ok (.ireturn, 1) := by decide +kernel
set_option maxRecDepth 20000 in
theorem ggL_lowIndex_X6_lowIndex : GoodIn wsL_lowIndex wsX6_lowIndex := goodIn_ca (goodIn_ca (goodIn_r _ [6, 7, 8, 9, 10, 11, 12, 5, 13, 14, 15, 16, 17, 18, 19, 20, 21, 22, 23, 24, 25, 26, 27, 28, 29, 30, 31, 32, 33, 34, 35, 36, 37, 38, 39, 40, 41, 42, 43, 44, 45] (by decide +kernel) (by decide +kernel)) (goodIn_sub (fun _ h => List.mem_cons_of_mem _ (List.mem_append_left _ (List.mem_append_right _ h))) (by decide +kernel))) (goodIn_sub (fun _ h => List.mem_cons_of_mem _ (List.mem_append_right _ h)) (by decide +kernel))
set_option maxRecDepth 20000 in
theorem gL_lowIndex_X6_lowIndex : GoodIn wsL_lowIndex (wsV RL 188 RX6 yX6_lowIndex wsX6_lowIndex) := goodIn_app (goodIn_of _ (by decide +kernel)) ggL_lowIndex_X6_lowIndex
theorem dL_lowIndex_0 : decode cL_lowIndex 0 = .ok (.aload_n 2, 1) := by decide +kernel
theorem dL_lowIndex_1 : decode cL_lowIndex 1 = .ok (.iconst 0, 1) := by decide +kernel
theorem dL_lowIndex_2 : decode cL_lowIndex 2 = .ok (.aload_n 0, 1) := by decide +kernel
theorem dL_lowIndex_3 : decode cL_lowIndex 3 = .ok (.iload_n 1, 1) := by decide +kernel
theorem dL_lowIndex_4 : decode cL_lowIndex 4 = .ok (.invokevirtual 188, 3) := by decide +kernel
theorem dL_lowIndex_12 : decode cL_lowIndex 12 = .ok (.astore_n 3, 1) := by decide +kernel
theorem dL_lowIndex_13 : decode cL_lowIndex 13 = .ok (.iconst 1, 1) := by decide +kernel
theorem dL_lowIndex_14 : decode cL_lowIndex 14 = .ok (.ireturn, 1) := by decide +kernel
set_option maxRecDepth 20000 in
theorem ggL_penaltyShare_X6_penaltyShare : GoodIn wsL_penaltyShare wsX6_penaltyShare := goodIn_ca (goodIn_ca (goodIn_ca (goodIn_r _ [6, 7, 8, 9, 10, 11, 12, 13, 14, 15, 16, 5, 17, 18, 19, 20, 21, 22, 23, 24, 25, 26, 27, 28, 29, 30, 31, 32, 33, 34, 35, 36, 37, 38, 39, 40, 41, 42, 43, 44] (by decide +kernel) (by decide +kernel)) (goodIn_sub (fun _ h => List.mem_cons_of_mem _ (List.mem_append_left _ (List.mem_append_left _ (List.mem_append_right _ h)))) (by decide +kernel))) (goodIn_sub (fun _ h => List.mem_cons_of_mem _ (List.mem_append_left _ (List.mem_append_right _ h))) (by decide +kernel))) (goodIn_sub (fun _ h => List.mem_cons_of_mem _ (List.mem_append_right _ h)) (by decide +kernel))
set_option maxRecDepth 20000 in
theorem gL_penaltyShare_X6_penaltyShare : GoodIn wsL_penaltyShare (wsV RL 191 RX6 yX6_penaltyShare wsX6_penaltyShare) := goodIn_app (goodIn_of _ (by decide +kernel)) ggL_penaltyShare_X6_penaltyShare
theorem dL_penaltyShare_0 : decode cL_penaltyShare 0 = .ok (.aload_n 2, 1) := by decide +kernel
theorem dL_penaltyShare_1 : decode cL_penaltyShare 1 = .ok (.iconst 0, 1) := by decide +kernel
theorem dL_penaltyShare_2 : decode cL_penaltyShare 2 = .ok (.aload_n 0, 1) := by decide +kernel
theorem dL_penaltyShare_3 : decode cL_penaltyShare 3 = .ok (.iload_n 1, 1) := by decide +kernel
theorem dL_penaltyShare_4 : decode cL_penaltyShare 4 = .ok (.invokevirtual 191, 3) := by decide +kernel
theorem dL_penaltyShare_12 : decode cL_penaltyShare 12 = .ok (.astore_n 3, 1) := by decide +kernel
theorem dL_penaltyShare_13 : decode cL_penaltyShare 13 = .ok (.iconst 1, 1) := by decide +kernel
theorem dL_penaltyShare_14 : decode cL_penaltyShare 14 = .ok (.ireturn, 1) := by decide +kernel
set_option maxRecDepth 20000 in
theorem ggL_meanScore_X6_meanScore : GoodIn wsL_meanScore wsX6_meanScore := goodIn_ca (goodIn_ca (goodIn_ca (goodIn_r _ [6, 7, 8, 9, 10, 11, 12, 13, 14, 5, 15, 16, 17, 18, 19, 20, 21, 22, 23, 24, 25, 26, 27, 28, 29, 30, 31, 32, 33, 34, 35, 36, 37, 38, 39, 40, 41, 42, 43, 44, 45, 46, 47, 48] (by decide +kernel) (by decide +kernel)) (goodIn_sub (fun _ h => List.mem_cons_of_mem _ (List.mem_append_left _ (List.mem_append_right _ h))) (by decide +kernel))) (goodIn_sub (fun _ h => List.mem_cons_of_mem _ (List.mem_append_right _ h)) (by decide +kernel))) (goodIn_sub (fun _ h => List.mem_cons_of_mem _ (List.mem_append_left _ (List.mem_append_left _ (List.mem_append_right _ h)))) (by decide +kernel))
set_option maxRecDepth 20000 in
theorem gL_meanScore_X6_meanScore : GoodIn wsL_meanScore (wsV RL 197 RX6 yX6_meanScore wsX6_meanScore) := goodIn_app (goodIn_of _ (by decide +kernel)) ggL_meanScore_X6_meanScore
theorem dL_meanScore_0 : decode cL_meanScore 0 = .ok (.aload_n 2, 1) := by decide +kernel
theorem dL_meanScore_1 : decode cL_meanScore 1 = .ok (.iconst 0, 1) := by decide +kernel
theorem dL_meanScore_2 : decode cL_meanScore 2 = .ok (.aload_n 0, 1) := by decide +kernel
theorem dL_meanScore_3 : decode cL_meanScore 3 = .ok (.iload_n 1, 1) := by decide +kernel
theorem dL_meanScore_4 : decode cL_meanScore 4 = .ok (.invokevirtual 197, 3) := by decide +kernel
theorem dL_meanScore_11 : decode cL_meanScore 11 = .ok (.astore_n 3, 1) := by decide +kernel
theorem dL_meanScore_12 : decode cL_meanScore 12 = .ok (.iconst 1, 1) := by decide +kernel
theorem dL_meanScore_13 : decode cL_meanScore 13 = .ok (.ireturn, 1) := by decide +kernel
set_option maxHeartbeats 4000000 in
set_option maxRecDepth 100000 in
theorem c_L_area (l : Launch) (hlT : l.stackTraces = false) (D : va_G) (h0 : Nat) (r : Nat → Nat) (o : Nat) (sz : Nat) (a1 a2 a3 a4 a5 a6 : Int32) : Met l yL_area wsL_area ({ frames := 70, cells := 1, slots := 6, locals := 700 }) (va_Pc [.ref h0, .int a1, .int a2, .int a3, .int a4, .int a5, .int a6, .ref o] (PX6 D h0 r sz)) (va_Qi (fun (r9 : Int32) (_ : Unit) => r9 = 1) (fun _ _ => True) (rg0 sz)) 1 6 (rg0 sz) := by
  refine va_MetW (cc := cL_area) (maxL := 9) (ret := (some .int)) (hh := [(0, 18, 21, 23), (0, 18, 25, 13), (0, 18, 29, 15)]) (by decide +kernel) rfl ?_
  intro p e s m args below meth c s₁ B hml hv
  obtain ⟨rfl, hsz, hP, hK, hT⟩ := hv
  have hx := B.exec
  have hb := B.bytes
  have hr := B.returns
  have hts := atoms_spec (ws := wsL_area) B.pre
  have hown : s.vm.findClass RL = some m.cls := findClass_of_methodNamed B.named
  have hlocks := B.notSynchronized
  subst hsz
  have hA : ∀ q : Nat, s.heap.size ≤ q → rg0 s.heap.size q := fun _ h => h
  have hS : va_S (rg0 s.heap.size) s.heap s.heap [] := va_S.rf
  have htab := vx_table (x := yL_area) B (hts (.codeWith yL_area cL_area 9 (some .int) [(0, 18, 21, 23), (0, 18, 25, 13), (0, 18, 29, 15)]) (List.mem_of_getElem? (i := 0) rfl))
  have hl := lv_entry ([.ref h0, .int a1, .int a2, .int a3, .int a4, .int a5, .int a6, .ref o]) (n := 9) (Nat.le_of_ble_eq_true rfl)
  rw [lg_entry_eq]
  generalize (lg_sl ([.ref h0, .int a1, .int a2, .int a3, .int a4, .int a5, .int a6, .ref o]) ++ List.replicate (9 - (lg_sl ([.ref h0, .int a1, .int a2, .int a3, .int a4, .int a5, .int a6, .ref o])).length) Slot.unset).toArray = ls at hl ⊢
  have hl : lv_has ls 9 [(0, .ref h0), (1, .int a1), (2, .int a2), (3, .int a3), (4, .int a4), (5, .int a5), (6, .int a6), (7, .ref o)] := hl
  refine lv_aload hx hb dL_area_0 (lv_at hl 7 rfl) ?_
  refine lv_iconst (v := 0) hx hb dL_area_2 (by decide) ?_
  refine lv_aload_n hx hb dL_area_3 rfl (lv_at hl 0 rfl) ?_
  refine lv_iload_n hx hb dL_area_4 rfl (lv_at hl 1 rfl) ?_
  refine lv_iload_n hx hb dL_area_5 rfl (lv_at hl 2 rfl) ?_
  refine lv_iload_n hx hb dL_area_6 rfl (lv_at hl 3 rfl) ?_
  refine lv_iload hx hb dL_area_7 (lv_at hl 4 rfl) ?_
  refine lv_iload hx hb dL_area_9 (lv_at hl 5 rfl) ?_
  refine lv_iload hx hb dL_area_11 (lv_at hl 6 rfl) ?_
  refine vx_calli (vx_runV (As := [.int a1, .int a2, .int a3, .int a4, .int a5, .int a6]) (rest := [.int 0, .ref o]) ⟨hx, hb, hml, hown, hts⟩ (c_X6_area l hlT D h0 r s.heap.size a1 a2 a3 a4 a5 a6) (cwV 6 hts gL_area_X6_area rfl rfl rfl (by decide +kernel) ⟨Nat.le_of_ble_eq_true rfl, Nat.le_of_ble_eq_true rfl⟩) ⟨fun a U g mk q => ⟨q.1, PX6.blind q.2⟩, va_recv hK hP (ci := 12) (q0 := 0) rfl rfl, fun U hU hW => ⟨rfl, PX6.go hP hK hT hS hA hU hW⟩⟩ rfl rfl hl.1 rfl (lv_room (Nat.le_of_ble_eq_true rfl)) dL_area_13 ⟨Nat.le_of_ble_eq_true rfl, Nat.le_of_ble_eq_true rfl⟩) hS (fun q _ h => h) (fun q h => h) (fun q _ h => h) (fun E ce q9 u t H1 locs1 ht hvm hpx hB hz hk9 hS hcell hv hcl => ?_) (fun r9 u t H1 locs1 ht hvm hw hB hz1 hk1 hS => hw.elim)
  have hE : E = "java/lang/IndexOutOfBoundsException" := hB
  subst hE
  refine vx_catch (name := "java/lang/IndexOutOfBoundsException") hown [] ⟨0, 18, 21, 23⟩ [⟨0, 18, 25, 13⟩, ⟨0, 18, 29, 15⟩] (htab.trans rfl) (fun z hz => absurd hz List.not_mem_nil) (by decide) (by decide) (hts (.classLink RL 23 "java/lang/IndexOutOfBoundsException") (by decide +kernel)) (va_Nw.use rfl (hT.1 (Cond.castable "java/lang/IndexOutOfBoundsException" "java/lang/IndexOutOfBoundsException") (tf_cast (539, "java/lang/IndexOutOfBoundsException") (by decide +kernel)))) hcell hv hcl ?_
  refine lv_astore (lv' := [(8, .ref q9), (0, .ref h0), (1, .int a1), (2, .int a2), (3, .int a3), (4, .int a4), (5, .int a5), (6, .int a6), (7, .ref o)]) hx hb dL_area_21 hl (by decide) rfl (fun ls hl => ?_)
  refine lv_iconst (v := 1) hx hb dL_area_23 (by decide) ?_
  exact W.iret (v := 1) hx hb hr (fun t ht hW => ⟨⟨1, (), rfl, rfl, trivial⟩, hS.F ht⟩) hS.2.2 dL_area_24
set_option maxHeartbeats 4000000 in
set_option maxRecDepth 100000 in
theorem c_L_kindAt (l : Launch) (hlT : l.stackTraces = false) (D : va_G) (h0 : Nat) (r : Nat → Nat) (o : Nat) (sz : Nat) (a1 a2 a3 : Int32) : Met l yL_kindAt wsL_kindAt ({ frames := 70, cells := 1, slots := 6, locals := 700 }) (va_Pc [.ref h0, .int a1, .int a2, .int a3, .ref o] (PX6 D h0 r sz)) (va_Qi (fun (r9 : Int32) (_ : Unit) => r9 = 1) (fun _ _ => True) (rg0 sz)) 1 6 (rg0 sz) := by
  refine va_MetW (cc := cL_kindAt) (maxL := 6) (ret := (some .int)) (hh := [(0, 12, 15, 23)]) (by decide +kernel) rfl ?_
  intro p e s m args below meth c s₁ B hml hv
  obtain ⟨rfl, hsz, hP, hK, hT⟩ := hv
  have hx := B.exec
  have hb := B.bytes
  have hr := B.returns
  have hts := atoms_spec (ws := wsL_kindAt) B.pre
  have hown : s.vm.findClass RL = some m.cls := findClass_of_methodNamed B.named
  have hlocks := B.notSynchronized
  subst hsz
  have hA : ∀ q : Nat, s.heap.size ≤ q → rg0 s.heap.size q := fun _ h => h
  have hS : va_S (rg0 s.heap.size) s.heap s.heap [] := va_S.rf
  have htab := vx_table (x := yL_kindAt) B (hts (.codeWith yL_kindAt cL_kindAt 6 (some .int) [(0, 12, 15, 23)]) (List.mem_of_getElem? (i := 0) rfl))
  have hl := lv_entry ([.ref h0, .int a1, .int a2, .int a3, .ref o]) (n := 6) (Nat.le_of_ble_eq_true rfl)
  rw [lg_entry_eq]
  generalize (lg_sl ([.ref h0, .int a1, .int a2, .int a3, .ref o]) ++ List.replicate (6 - (lg_sl ([.ref h0, .int a1, .int a2, .int a3, .ref o])).length) Slot.unset).toArray = ls at hl ⊢
  have hl : lv_has ls 6 [(0, .ref h0), (1, .int a1), (2, .int a2), (3, .int a3), (4, .ref o)] := hl
  refine lv_aload hx hb dL_kindAt_0 (lv_at hl 4 rfl) ?_
  refine lv_iconst (v := 0) hx hb dL_kindAt_2 (by decide) ?_
  refine lv_aload_n hx hb dL_kindAt_3 rfl (lv_at hl 0 rfl) ?_
  refine lv_iload_n hx hb dL_kindAt_4 rfl (lv_at hl 1 rfl) ?_
  refine lv_iload_n hx hb dL_kindAt_5 rfl (lv_at hl 2 rfl) ?_
  refine lv_iload_n hx hb dL_kindAt_6 rfl (lv_at hl 3 rfl) ?_
  refine vx_calli (vx_runV (As := [.int a1, .int a2, .int a3]) (rest := [.int 0, .ref o]) ⟨hx, hb, hml, hown, hts⟩ (c_X6_kindAt l hlT D h0 r s.heap.size a1 a2 a3) (cwV 3 hts gL_kindAt_X6_kindAt rfl rfl rfl (by decide +kernel) ⟨Nat.le_of_ble_eq_true rfl, Nat.le_of_ble_eq_true rfl⟩) ⟨fun a U g mk q => ⟨q.1, PX6.blind q.2⟩, va_recv hK hP (ci := 12) (q0 := 0) rfl rfl, fun U hU hW => ⟨rfl, PX6.go hP hK hT hS hA hU hW⟩⟩ rfl rfl hl.1 rfl (lv_room (Nat.le_of_ble_eq_true rfl)) dL_kindAt_7 ⟨Nat.le_of_ble_eq_true rfl, Nat.le_of_ble_eq_true rfl⟩) hS (fun q _ h => h) (fun q h => h) (fun q _ h => h) (fun E ce q9 u t H1 locs1 ht hvm hpx hB hz hk9 hS hcell hv hcl => ?_) (fun r9 u t H1 locs1 ht hvm hw hB hz1 hk1 hS => hw.elim)
  have hE : E = "java/lang/IndexOutOfBoundsException" := hB
  subst hE
  refine vx_catch (name := "java/lang/IndexOutOfBoundsException") hown [] ⟨0, 12, 15, 23⟩ [] (htab.trans rfl) (fun z hz => absurd hz List.not_mem_nil) (by decide) (by decide) (hts (.classLink RL 23 "java/lang/IndexOutOfBoundsException") (by decide +kernel)) (va_Nw.use rfl (hT.1 (Cond.castable "java/lang/IndexOutOfBoundsException" "java/lang/IndexOutOfBoundsException") (tf_cast (539, "java/lang/IndexOutOfBoundsException") (by decide +kernel)))) hcell hv hcl ?_
  refine lv_astore (lv' := [(5, .ref q9), (0, .ref h0), (1, .int a1), (2, .int a2), (3, .int a3), (4, .ref o)]) hx hb dL_kindAt_15 hl (by decide) rfl (fun ls hl => ?_)
  refine lv_iconst (v := 1) hx hb dL_kindAt_17 (by decide) ?_
  exact W.iret (v := 1) hx hb hr (fun t ht hW => ⟨⟨1, (), rfl, rfl, trivial⟩, hS.F ht⟩) hS.2.2 dL_kindAt_18
set_option maxHeartbeats 4000000 in
set_option maxRecDepth 100000 in
theorem c_L_setHandicap (l : Launch) (hlT : l.stackTraces = false) (D : va_G) (h0 : Nat) (r : Nat → Nat) (o : Nat) (sz : Nat) (a1 a2 : Int32) : Met l yL_setHandicap wsL_setHandicap ({ frames := 70, cells := 1, slots := 6, locals := 700 }) (va_Pc [.ref h0, .int a1, .int a2, .ref o] (PX6 D h0 r sz)) (va_Qi (fun (r9 : Int32) (_ : Unit) => r9 = 1) (fun _ _ => True) (rg0 sz)) 1 6 (rg0 sz) := by
  refine va_MetW (cc := cL_setHandicap) (maxL := 5) (ret := (some .int)) (hh := [(0, 10, 13, 23), (0, 10, 17, 13), (0, 10, 21, 15)]) (by decide +kernel) rfl ?_
  intro p e s m args below meth c s₁ B hml hv
  obtain ⟨rfl, hsz, hP, hK, hT⟩ := hv
  have hx := B.exec
  have hb := B.bytes
  have hr := B.returns
  have hts := atoms_spec (ws := wsL_setHandicap) B.pre
  have hown : s.vm.findClass RL = some m.cls := findClass_of_methodNamed B.named
  have hlocks := B.notSynchronized
  subst hsz
  have hA : ∀ q : Nat, s.heap.size ≤ q → rg0 s.heap.size q := fun _ h => h
  have hS : va_S (rg0 s.heap.size) s.heap s.heap [] := va_S.rf
  have htab := vx_table (x := yL_setHandicap) B (hts (.codeWith yL_setHandicap cL_setHandicap 5 (some .int) [(0, 10, 13, 23), (0, 10, 17, 13), (0, 10, 21, 15)]) (List.mem_of_getElem? (i := 0) rfl))
  have hl := lv_entry ([.ref h0, .int a1, .int a2, .ref o]) (n := 5) (Nat.le_of_ble_eq_true rfl)
  rw [lg_entry_eq]
  generalize (lg_sl ([.ref h0, .int a1, .int a2, .ref o]) ++ List.replicate (5 - (lg_sl ([.ref h0, .int a1, .int a2, .ref o])).length) Slot.unset).toArray = ls at hl ⊢
  have hl : lv_has ls 5 [(0, .ref h0), (1, .int a1), (2, .int a2), (3, .ref o)] := hl
  refine lv_aload_n hx hb dL_setHandicap_0 rfl (lv_at hl 3 rfl) ?_
  refine lv_iconst (v := 0) hx hb dL_setHandicap_1 (by decide) ?_
  refine lv_aload_n hx hb dL_setHandicap_2 rfl (lv_at hl 0 rfl) ?_
  refine lv_iload_n hx hb dL_setHandicap_3 rfl (lv_at hl 1 rfl) ?_
  refine lv_iload_n hx hb dL_setHandicap_4 rfl (lv_at hl 2 rfl) ?_
  refine vx_calli (vx_runV (As := [.int a1, .int a2]) (rest := [.int 0, .ref o]) ⟨hx, hb, hml, hown, hts⟩ (c_X6_setHandicap l hlT D h0 r s.heap.size a1 a2) (cwV 2 hts gL_setHandicap_X6_setHandicap rfl rfl rfl (by decide +kernel) ⟨Nat.le_of_ble_eq_true rfl, Nat.le_of_ble_eq_true rfl⟩) ⟨fun a U g mk q => ⟨q.1, PX6.blind q.2⟩, va_recv hK hP (ci := 12) (q0 := 0) rfl rfl, fun U hU hW => ⟨rfl, PX6.go hP hK hT hS hA hU hW⟩⟩ rfl rfl hl.1 rfl (lv_room (Nat.le_of_ble_eq_true rfl)) dL_setHandicap_5 ⟨Nat.le_of_ble_eq_true rfl, Nat.le_of_ble_eq_true rfl⟩) hS (fun q _ h => h) (fun q h => h) (fun q _ h => h) (fun E ce q9 u t H1 locs1 ht hvm hpx hB hz hk9 hS hcell hv hcl => ?_) (fun r9 u t H1 locs1 ht hvm hw hB hz1 hk1 hS => hw.elim)
  have hE : E = "java/lang/IndexOutOfBoundsException" := hB
  subst hE
  refine vx_catch (name := "java/lang/IndexOutOfBoundsException") hown [] ⟨0, 10, 13, 23⟩ [⟨0, 10, 17, 13⟩, ⟨0, 10, 21, 15⟩] (htab.trans rfl) (fun z hz => absurd hz List.not_mem_nil) (by decide) (by decide) (hts (.classLink RL 23 "java/lang/IndexOutOfBoundsException") (by decide +kernel)) (va_Nw.use rfl (hT.1 (Cond.castable "java/lang/IndexOutOfBoundsException" "java/lang/IndexOutOfBoundsException") (tf_cast (539, "java/lang/IndexOutOfBoundsException") (by decide +kernel)))) hcell hv hcl ?_
  refine lv_astore (lv' := [(4, .ref q9), (0, .ref h0), (1, .int a1), (2, .int a2), (3, .ref o)]) hx hb dL_setHandicap_13 hl (by decide) rfl (fun ls hl => ?_)
  refine lv_iconst (v := 1) hx hb dL_setHandicap_15 (by decide) ?_
  exact W.iret (v := 1) hx hb hr (fun t ht hW => ⟨⟨1, (), rfl, rfl, trivial⟩, hS.F ht⟩) hS.2.2 dL_setHandicap_16
set_option maxHeartbeats 4000000 in
set_option maxRecDepth 100000 in
theorem c_L_gets (l : Launch) (hlT : l.stackTraces = false) (D : va_G) (h0 : Nat) (r : Nat → Nat) (o : Nat) (sz : Nat) (a1 a2 : Int32) : Met l yL_gets wsL_gets ({ frames := 70, cells := 1, slots := 6, locals := 700 }) (va_Pc [.ref h0, .int a1, .int a2, .ref o] (PX6 D h0 r sz)) (va_Qi (fun (r9 : Int32) (_ : Unit) => r9 = 1) (fun _ _ => True) (rg0 sz)) 1 6 (rg0 sz) := by
  refine va_MetW (cc := cL_gets) (maxL := 5) (ret := (some .int)) (hh := [(0, 10, 13, 23)]) (by decide +kernel) rfl ?_
  intro p e s m args below meth c s₁ B hml hv
  obtain ⟨rfl, hsz, hP, hK, hT⟩ := hv
  have hx := B.exec
  have hb := B.bytes
  have hr := B.returns
  have hts := atoms_spec (ws := wsL_gets) B.pre
  have hown : s.vm.findClass RL = some m.cls := findClass_of_methodNamed B.named
  have hlocks := B.notSynchronized
  subst hsz
  have hA : ∀ q : Nat, s.heap.size ≤ q → rg0 s.heap.size q := fun _ h => h
  have hS : va_S (rg0 s.heap.size) s.heap s.heap [] := va_S.rf
  have htab := vx_table (x := yL_gets) B (hts (.codeWith yL_gets cL_gets 5 (some .int) [(0, 10, 13, 23)]) (List.mem_of_getElem? (i := 0) rfl))
  have hl := lv_entry ([.ref h0, .int a1, .int a2, .ref o]) (n := 5) (Nat.le_of_ble_eq_true rfl)
  rw [lg_entry_eq]
  generalize (lg_sl ([.ref h0, .int a1, .int a2, .ref o]) ++ List.replicate (5 - (lg_sl ([.ref h0, .int a1, .int a2, .ref o])).length) Slot.unset).toArray = ls at hl ⊢
  have hl : lv_has ls 5 [(0, .ref h0), (1, .int a1), (2, .int a2), (3, .ref o)] := hl
  refine lv_aload_n hx hb dL_gets_0 rfl (lv_at hl 3 rfl) ?_
  refine lv_iconst (v := 0) hx hb dL_gets_1 (by decide) ?_
  refine lv_aload_n hx hb dL_gets_2 rfl (lv_at hl 0 rfl) ?_
  refine lv_iload_n hx hb dL_gets_3 rfl (lv_at hl 1 rfl) ?_
  refine lv_iload_n hx hb dL_gets_4 rfl (lv_at hl 2 rfl) ?_
  refine vx_calli (vx_runV (As := [.int a1, .int a2]) (rest := [.int 0, .ref o]) ⟨hx, hb, hml, hown, hts⟩ (c_X6_gets l hlT D h0 r s.heap.size a1 a2) (cwV 2 hts gL_gets_X6_gets rfl rfl rfl (by decide +kernel) ⟨Nat.le_of_ble_eq_true rfl, Nat.le_of_ble_eq_true rfl⟩) ⟨fun a U g mk q => ⟨q.1, PX6.blind q.2⟩, va_recv hK hP (ci := 12) (q0 := 0) rfl rfl, fun U hU hW => ⟨rfl, PX6.go hP hK hT hS hA hU hW⟩⟩ rfl rfl hl.1 rfl (lv_room (Nat.le_of_ble_eq_true rfl)) dL_gets_5 ⟨Nat.le_of_ble_eq_true rfl, Nat.le_of_ble_eq_true rfl⟩) hS (fun q _ h => h) (fun q h => h) (fun q _ h => h) (fun E ce q9 u t H1 locs1 ht hvm hpx hB hz hk9 hS hcell hv hcl => ?_) (fun r9 u t H1 locs1 ht hvm hw hB hz1 hk1 hS => hw.elim)
  have hE : E = "java/lang/IndexOutOfBoundsException" := hB
  subst hE
  refine vx_catch (name := "java/lang/IndexOutOfBoundsException") hown [] ⟨0, 10, 13, 23⟩ [] (htab.trans rfl) (fun z hz => absurd hz List.not_mem_nil) (by decide) (by decide) (hts (.classLink RL 23 "java/lang/IndexOutOfBoundsException") (by decide +kernel)) (va_Nw.use rfl (hT.1 (Cond.castable "java/lang/IndexOutOfBoundsException" "java/lang/IndexOutOfBoundsException") (tf_cast (539, "java/lang/IndexOutOfBoundsException") (by decide +kernel)))) hcell hv hcl ?_
  refine lv_astore (lv' := [(4, .ref q9), (0, .ref h0), (1, .int a1), (2, .int a2), (3, .ref o)]) hx hb dL_gets_13 hl (by decide) rfl (fun ls hl => ?_)
  refine lv_iconst (v := 1) hx hb dL_gets_15 (by decide) ?_
  exact W.iret (v := 1) hx hb hr (fun t ht hW => ⟨⟨1, (), rfl, rfl, trivial⟩, hS.F ht⟩) hS.2.2 dL_gets_16
set_option maxHeartbeats 4000000 in
set_option maxRecDepth 100000 in
theorem c_L_holeOn (l : Launch) (hlT : l.stackTraces = false) (D : va_G) (h0 : Nat) (r : Nat → Nat) (o : Nat) (sz : Nat) : Met l yL_holeOn wsL_holeOn ({ frames := 70, cells := 1, slots := 6, locals := 700 }) (va_Pc [.ref h0, .ref o] (PX6 D h0 r sz)) (va_Qi (fun (r9 : Int32) (_ : Unit) => r9 = 1) (fun _ _ => True) (rg0 sz)) 1 6 (rg0 sz) := by
  refine va_MetW (cc := cL_holeOn) (maxL := 3) (ret := (some .int)) (hh := [(0, 8, 11, 15)]) (by decide +kernel) rfl ?_
  intro p e s m args below meth c s₁ B hml hv
  obtain ⟨rfl, hsz, hP, hK, hT⟩ := hv
  have hx := B.exec
  have hb := B.bytes
  have hr := B.returns
  have hts := atoms_spec (ws := wsL_holeOn) B.pre
  have hown : s.vm.findClass RL = some m.cls := findClass_of_methodNamed B.named
  have hlocks := B.notSynchronized
  subst hsz
  have hA : ∀ q : Nat, s.heap.size ≤ q → rg0 s.heap.size q := fun _ h => h
  have hS : va_S (rg0 s.heap.size) s.heap s.heap [] := va_S.rf
  have htab := vx_table (x := yL_holeOn) B (hts (.codeWith yL_holeOn cL_holeOn 3 (some .int) [(0, 8, 11, 15)]) (List.mem_of_getElem? (i := 0) rfl))
  have hl := lv_entry ([.ref h0, .ref o]) (n := 3) (Nat.le_of_ble_eq_true rfl)
  rw [lg_entry_eq]
  generalize (lg_sl ([.ref h0, .ref o]) ++ List.replicate (3 - (lg_sl ([.ref h0, .ref o])).length) Slot.unset).toArray = ls at hl ⊢
  have hl : lv_has ls 3 [(0, .ref h0), (1, .ref o)] := hl
  refine lv_aload_n hx hb dL_holeOn_0 rfl (lv_at hl 1 rfl) ?_
  refine lv_iconst (v := 0) hx hb dL_holeOn_1 (by decide) ?_
  refine lv_aload_n hx hb dL_holeOn_2 rfl (lv_at hl 0 rfl) ?_
  refine vx_calli (vx_runV (As := []) (rest := [.int 0, .ref o]) ⟨hx, hb, hml, hown, hts⟩ (c_X6_holeOn l hlT D h0 r s.heap.size) (cwV 0 hts gL_holeOn_X6_holeOn rfl rfl rfl (by decide +kernel) ⟨Nat.le_of_ble_eq_true rfl, Nat.le_of_ble_eq_true rfl⟩) ⟨fun a U g mk q => ⟨q.1, PX6.blind q.2⟩, va_recv hK hP (ci := 12) (q0 := 0) rfl rfl, fun U hU hW => ⟨rfl, PX6.go hP hK hT hS hA hU hW⟩⟩ rfl rfl hl.1 rfl (lv_room (Nat.le_of_ble_eq_true rfl)) dL_holeOn_3 ⟨Nat.le_of_ble_eq_true rfl, Nat.le_of_ble_eq_true rfl⟩) hS (fun q _ h => h) (fun q h => h) (fun q _ h => h) (fun E ce q9 u t H1 locs1 ht hvm hpx hB hz hk9 hS hcell hv hcl => ?_) (fun r9 u t H1 locs1 ht hvm hw hB hz1 hk1 hS => hw.elim)
  have hE : E = "java/lang/IllegalStateException" := hB
  subst hE
  refine vx_catch (name := "java/lang/IllegalStateException") hown [] ⟨0, 8, 11, 15⟩ [] (htab.trans rfl) (fun z hz => absurd hz List.not_mem_nil) (by decide) (by decide) (hts (.classLink RL 15 "java/lang/IllegalStateException") (by decide +kernel)) (va_Nw.use rfl (hT.1 (Cond.castable "java/lang/IllegalStateException" "java/lang/IllegalStateException") (tf_cast (69, "java/lang/IllegalStateException") (by decide +kernel)))) hcell hv hcl ?_
  refine lv_astore_n (lv' := [(2, .ref q9), (0, .ref h0), (1, .ref o)]) hx hb dL_holeOn_11 rfl hl (by decide) rfl (fun ls hl => ?_)
  refine lv_iconst (v := 1) hx hb dL_holeOn_12 (by decide) ?_
  exact W.iret (v := 1) hx hb hr (fun t ht hW => ⟨⟨1, (), rfl, rfl, trivial⟩, hS.F ht⟩) hS.2.2 dL_holeOn_13
set_option maxHeartbeats 4000000 in
set_option maxRecDepth 100000 in
theorem c_L_away (l : Launch) (hlT : l.stackTraces = false) (D : va_G) (h0 : Nat) (r : Nat → Nat) (o : Nat) (sz : Nat) : Met l yL_away wsL_away ({ frames := 70, cells := 1, slots := 6, locals := 700 }) (va_Pc [.ref h0, .ref o] (PX6 D h0 r sz)) (va_Qi (fun (r9 : Int32) (_ : Unit) => r9 = 1) (fun _ _ => True) (rg0 sz)) 1 6 (rg0 sz) := by
  refine va_MetW (cc := cL_away) (maxL := 3) (ret := (some .int)) (hh := [(0, 8, 11, 15), (0, 8, 14, 54)]) (by decide +kernel) rfl ?_
  intro p e s m args below meth c s₁ B hml hv
  obtain ⟨rfl, hsz, hP, hK, hT⟩ := hv
  have hx := B.exec
  have hb := B.bytes
  have hr := B.returns
  have hts := atoms_spec (ws := wsL_away) B.pre
  have hown : s.vm.findClass RL = some m.cls := findClass_of_methodNamed B.named
  have hlocks := B.notSynchronized
  subst hsz
  have hA : ∀ q : Nat, s.heap.size ≤ q → rg0 s.heap.size q := fun _ h => h
  have hS : va_S (rg0 s.heap.size) s.heap s.heap [] := va_S.rf
  have htab := vx_table (x := yL_away) B (hts (.codeWith yL_away cL_away 3 (some .int) [(0, 8, 11, 15), (0, 8, 14, 54)]) (List.mem_of_getElem? (i := 0) rfl))
  have hl := lv_entry ([.ref h0, .ref o]) (n := 3) (Nat.le_of_ble_eq_true rfl)
  rw [lg_entry_eq]
  generalize (lg_sl ([.ref h0, .ref o]) ++ List.replicate (3 - (lg_sl ([.ref h0, .ref o])).length) Slot.unset).toArray = ls at hl ⊢
  have hl : lv_has ls 3 [(0, .ref h0), (1, .ref o)] := hl
  refine lv_aload_n hx hb dL_away_0 rfl (lv_at hl 1 rfl) ?_
  refine lv_iconst (v := 0) hx hb dL_away_1 (by decide) ?_
  refine lv_aload_n hx hb dL_away_2 rfl (lv_at hl 0 rfl) ?_
  refine vx_calli (vx_runV (As := []) (rest := [.int 0, .ref o]) ⟨hx, hb, hml, hown, hts⟩ (c_X6_away l hlT D h0 r s.heap.size) (cwV 0 hts gL_away_X6_away rfl rfl rfl (by decide +kernel) ⟨Nat.le_of_ble_eq_true rfl, Nat.le_of_ble_eq_true rfl⟩) ⟨fun a U g mk q => ⟨q.1, PX6.blind q.2⟩, va_recv hK hP (ci := 12) (q0 := 0) rfl rfl, fun U hU hW => ⟨rfl, PX6.go hP hK hT hS hA hU hW⟩⟩ rfl rfl hl.1 rfl (lv_room (Nat.le_of_ble_eq_true rfl)) dL_away_3 ⟨Nat.le_of_ble_eq_true rfl, Nat.le_of_ble_eq_true rfl⟩) hS (fun q _ h => h) (fun q h => h) (fun q _ h => h) (fun E ce q9 u t H1 locs1 ht hvm hpx hB hz hk9 hS hcell hv hcl => ?_) (fun r9 u t H1 locs1 ht hvm hw hB hz1 hk1 hS => hw.elim)
  have hE : E = "java/lang/IllegalStateException" := hB
  subst hE
  refine vx_catch (name := "java/lang/IllegalStateException") hown [] ⟨0, 8, 11, 15⟩ [⟨0, 8, 14, 54⟩] (htab.trans rfl) (fun z hz => absurd hz List.not_mem_nil) (by decide) (by decide) (hts (.classLink RL 15 "java/lang/IllegalStateException") (by decide +kernel)) (va_Nw.use rfl (hT.1 (Cond.castable "java/lang/IllegalStateException" "java/lang/IllegalStateException") (tf_cast (69, "java/lang/IllegalStateException") (by decide +kernel)))) hcell hv hcl ?_
  refine lv_astore_n (lv' := [(2, .ref q9), (0, .ref h0), (1, .ref o)]) hx hb dL_away_11 rfl hl (by decide) rfl (fun ls hl => ?_)
  refine lv_iconst (v := 1) hx hb dL_away_12 (by decide) ?_
  exact W.iret (v := 1) hx hb hr (fun t ht hW => ⟨⟨1, (), rfl, rfl, trivial⟩, hS.F ht⟩) hS.2.2 dL_away_13
set_option maxHeartbeats 4000000 in
set_option maxRecDepth 100000 in
theorem c_L_stroke (l : Launch) (hlT : l.stackTraces = false) (D : va_G) (h0 : Nat) (r : Nat → Nat) (o : Nat) (sz : Nat) (a1 a2 a3 : Int32) : Met l yL_stroke wsL_stroke ({ frames := 70, cells := 1, slots := 6, locals := 700 }) (va_Pc [.ref h0, .int a1, .int a2, .int a3, .ref o] (PX6 D h0 r sz)) (va_Qi (fun (r9 : Int32) (_ : Unit) => r9 = 1) (fun _ _ => True) (rg0 sz)) 1 6 (rg0 sz) := by
  refine va_MetW (cc := cL_stroke) (maxL := 6) (ret := (some .int)) (hh := [(0, 12, 15, 23), (0, 12, 19, 15), (0, 12, 23, 17)]) (by decide +kernel) rfl ?_
  intro p e s m args below meth c s₁ B hml hv
  obtain ⟨rfl, hsz, hP, hK, hT⟩ := hv
  have hx := B.exec
  have hb := B.bytes
  have hr := B.returns
  have hts := atoms_spec (ws := wsL_stroke) B.pre
  have hown : s.vm.findClass RL = some m.cls := findClass_of_methodNamed B.named
  have hlocks := B.notSynchronized
  subst hsz
  have hA : ∀ q : Nat, s.heap.size ≤ q → rg0 s.heap.size q := fun _ h => h
  have hS : va_S (rg0 s.heap.size) s.heap s.heap [] := va_S.rf
  have htab := vx_table (x := yL_stroke) B (hts (.codeWith yL_stroke cL_stroke 6 (some .int) [(0, 12, 15, 23), (0, 12, 19, 15), (0, 12, 23, 17)]) (List.mem_of_getElem? (i := 0) rfl))
  have hl := lv_entry ([.ref h0, .int a1, .int a2, .int a3, .ref o]) (n := 6) (Nat.le_of_ble_eq_true rfl)
  rw [lg_entry_eq]
  generalize (lg_sl ([.ref h0, .int a1, .int a2, .int a3, .ref o]) ++ List.replicate (6 - (lg_sl ([.ref h0, .int a1, .int a2, .int a3, .ref o])).length) Slot.unset).toArray = ls at hl ⊢
  have hl : lv_has ls 6 [(0, .ref h0), (1, .int a1), (2, .int a2), (3, .int a3), (4, .ref o)] := hl
  refine lv_aload hx hb dL_stroke_0 (lv_at hl 4 rfl) ?_
  refine lv_iconst (v := 0) hx hb dL_stroke_2 (by decide) ?_
  refine lv_aload_n hx hb dL_stroke_3 rfl (lv_at hl 0 rfl) ?_
  refine lv_iload_n hx hb dL_stroke_4 rfl (lv_at hl 1 rfl) ?_
  refine lv_iload_n hx hb dL_stroke_5 rfl (lv_at hl 2 rfl) ?_
  refine lv_iload_n hx hb dL_stroke_6 rfl (lv_at hl 3 rfl) ?_
  refine vx_calli (vx_runV (As := [.int a1, .int a2, .int a3]) (rest := [.int 0, .ref o]) ⟨hx, hb, hml, hown, hts⟩ (c_X6_stroke l hlT D h0 r s.heap.size a1 a2 a3) (cwV 3 hts gL_stroke_X6_stroke rfl rfl rfl (by decide +kernel) ⟨Nat.le_of_ble_eq_true rfl, Nat.le_of_ble_eq_true rfl⟩) ⟨fun a U g mk q => ⟨q.1, PX6.blind q.2⟩, va_recv hK hP (ci := 12) (q0 := 0) rfl rfl, fun U hU hW => ⟨rfl, PX6.go hP hK hT hS hA hU hW⟩⟩ rfl rfl hl.1 rfl (lv_room (Nat.le_of_ble_eq_true rfl)) dL_stroke_7 ⟨Nat.le_of_ble_eq_true rfl, Nat.le_of_ble_eq_true rfl⟩) hS (fun q _ h => h) (fun q h => h) (fun q _ h => h) (fun E ce q9 u t H1 locs1 ht hvm hpx hB hz hk9 hS hcell hv hcl => ?_) (fun r9 u t H1 locs1 ht hvm hw hB hz1 hk1 hS => hw.elim)
  have hE : E = "java/lang/IndexOutOfBoundsException" := hB
  subst hE
  refine vx_catch (name := "java/lang/IndexOutOfBoundsException") hown [] ⟨0, 12, 15, 23⟩ [⟨0, 12, 19, 15⟩, ⟨0, 12, 23, 17⟩] (htab.trans rfl) (fun z hz => absurd hz List.not_mem_nil) (by decide) (by decide) (hts (.classLink RL 23 "java/lang/IndexOutOfBoundsException") (by decide +kernel)) (va_Nw.use rfl (hT.1 (Cond.castable "java/lang/IndexOutOfBoundsException" "java/lang/IndexOutOfBoundsException") (tf_cast (539, "java/lang/IndexOutOfBoundsException") (by decide +kernel)))) hcell hv hcl ?_
  refine lv_astore (lv' := [(5, .ref q9), (0, .ref h0), (1, .int a1), (2, .int a2), (3, .int a3), (4, .ref o)]) hx hb dL_stroke_15 hl (by decide) rfl (fun ls hl => ?_)
  refine lv_iconst (v := 1) hx hb dL_stroke_17 (by decide) ?_
  exact W.iret (v := 1) hx hb hr (fun t ht hW => ⟨⟨1, (), rfl, rfl, trivial⟩, hS.F ht⟩) hS.2.2 dL_stroke_18
set_option maxHeartbeats 4000000 in
set_option maxRecDepth 100000 in
theorem c_L_odds (l : Launch) (hlT : l.stackTraces = false) (D : va_G) (h0 : Nat) (r : Nat → Nat) (o : Nat) (sz : Nat) (a1 a2 a3 a4 : Int32) : Met l yL_odds wsL_odds ({ frames := 70, cells := 1, slots := 6, locals := 700 }) (va_Pc [.ref h0, .int a1, .int a2, .int a3, .int a4, .ref o] (PX6 D h0 r sz)) (va_Qi (fun (r9 : Int32) (_ : Unit) => r9 = 1) (fun _ _ => True) (rg0 sz)) 1 6 (rg0 sz) := by
  refine va_MetW (cc := cL_odds) (maxL := 7) (ret := (some .int)) (hh := [(0, 14, 17, 23), (0, 14, 21, 13), (0, 14, 25, 15), (0, 14, 29, 17)]) (by decide +kernel) rfl ?_
  intro p e s m args below meth c s₁ B hml hv
  obtain ⟨rfl, hsz, hP, hK, hT⟩ := hv
  have hx := B.exec
  have hb := B.bytes
  have hr := B.returns
  have hts := atoms_spec (ws := wsL_odds) B.pre
  have hown : s.vm.findClass RL = some m.cls := findClass_of_methodNamed B.named
  have hlocks := B.notSynchronized
  subst hsz
  have hA : ∀ q : Nat, s.heap.size ≤ q → rg0 s.heap.size q := fun _ h => h
  have hS : va_S (rg0 s.heap.size) s.heap s.heap [] := va_S.rf
  have htab := vx_table (x := yL_odds) B (hts (.codeWith yL_odds cL_odds 7 (some .int) [(0, 14, 17, 23), (0, 14, 21, 13), (0, 14, 25, 15), (0, 14, 29, 17)]) (List.mem_of_getElem? (i := 0) rfl))
  have hl := lv_entry ([.ref h0, .int a1, .int a2, .int a3, .int a4, .ref o]) (n := 7) (Nat.le_of_ble_eq_true rfl)
  rw [lg_entry_eq]
  generalize (lg_sl ([.ref h0, .int a1, .int a2, .int a3, .int a4, .ref o]) ++ List.replicate (7 - (lg_sl ([.ref h0, .int a1, .int a2, .int a3, .int a4, .ref o])).length) Slot.unset).toArray = ls at hl ⊢
  have hl : lv_has ls 7 [(0, .ref h0), (1, .int a1), (2, .int a2), (3, .int a3), (4, .int a4), (5, .ref o)] := hl
  refine lv_aload hx hb dL_odds_0 (lv_at hl 5 rfl) ?_
  refine lv_iconst (v := 0) hx hb dL_odds_2 (by decide) ?_
  refine lv_aload_n hx hb dL_odds_3 rfl (lv_at hl 0 rfl) ?_
  refine lv_iload_n hx hb dL_odds_4 rfl (lv_at hl 1 rfl) ?_
  refine lv_iload_n hx hb dL_odds_5 rfl (lv_at hl 2 rfl) ?_
  refine lv_iload_n hx hb dL_odds_6 rfl (lv_at hl 3 rfl) ?_
  refine lv_iload hx hb dL_odds_7 (lv_at hl 4 rfl) ?_
  refine vx_calli (vx_runV (As := [.int a1, .int a2, .int a3, .int a4]) (rest := [.int 0, .ref o]) ⟨hx, hb, hml, hown, hts⟩ (c_X6_odds l hlT D h0 r s.heap.size a1 a2 a3 a4) (cwV 4 hts gL_odds_X6_odds rfl rfl rfl (by decide +kernel) ⟨Nat.le_of_ble_eq_true rfl, Nat.le_of_ble_eq_true rfl⟩) ⟨fun a U g mk q => ⟨q.1, PX6.blind q.2⟩, va_recv hK hP (ci := 12) (q0 := 0) rfl rfl, fun U hU hW => ⟨rfl, PX6.go hP hK hT hS hA hU hW⟩⟩ rfl rfl hl.1 rfl (lv_room (Nat.le_of_ble_eq_true rfl)) dL_odds_9 ⟨Nat.le_of_ble_eq_true rfl, Nat.le_of_ble_eq_true rfl⟩) hS (fun q _ h => h) (fun q h => h) (fun q _ h => h) (fun E ce q9 u t H1 locs1 ht hvm hpx hB hz hk9 hS hcell hv hcl => ?_) (fun r9 u t H1 locs1 ht hvm hw hB hz1 hk1 hS => hw.elim)
  have hE : E = "java/lang/IndexOutOfBoundsException" := hB
  subst hE
  refine vx_catch (name := "java/lang/IndexOutOfBoundsException") hown [] ⟨0, 14, 17, 23⟩ [⟨0, 14, 21, 13⟩, ⟨0, 14, 25, 15⟩, ⟨0, 14, 29, 17⟩] (htab.trans rfl) (fun z hz => absurd hz List.not_mem_nil) (by decide) (by decide) (hts (.classLink RL 23 "java/lang/IndexOutOfBoundsException") (by decide +kernel)) (va_Nw.use rfl (hT.1 (Cond.castable "java/lang/IndexOutOfBoundsException" "java/lang/IndexOutOfBoundsException") (tf_cast (539, "java/lang/IndexOutOfBoundsException") (by decide +kernel)))) hcell hv hcl ?_
  refine lv_astore (lv' := [(6, .ref q9), (0, .ref h0), (1, .int a1), (2, .int a2), (3, .int a3), (4, .int a4), (5, .ref o)]) hx hb dL_odds_17 hl (by decide) rfl (fun ls hl => ?_)
  refine lv_iconst (v := 1) hx hb dL_odds_19 (by decide) ?_
  exact W.iret (v := 1) hx hb hr (fun t ht hW => ⟨⟨1, (), rfl, rfl, trivial⟩, hS.F ht⟩) hS.2.2 dL_odds_20
set_option maxHeartbeats 4000000 in
set_option maxRecDepth 100000 in
theorem c_L_provisional (l : Launch) (hlT : l.stackTraces = false) (D : va_G) (h0 : Nat) (r : Nat → Nat) (o : Nat) (sz : Nat) (a1 a2 a3 : Int32) : Met l yL_provisional wsL_provisional ({ frames := 70, cells := 1, slots := 6, locals := 700 }) (va_Pc [.ref h0, .int a1, .int a2, .int a3, .ref o] (PX6 D h0 r sz)) (va_Qi (fun (r9 : Int32) (_ : Unit) => r9 = 1) (fun _ _ => True) (rg0 sz)) 1 6 (rg0 sz) := by
  refine va_MetW (cc := cL_provisional) (maxL := 6) (ret := (some .int)) (hh := [(0, 12, 15, 23), (0, 12, 19, 15), (0, 12, 23, 17)]) (by decide +kernel) rfl ?_
  intro p e s m args below meth c s₁ B hml hv
  obtain ⟨rfl, hsz, hP, hK, hT⟩ := hv
  have hx := B.exec
  have hb := B.bytes
  have hr := B.returns
  have hts := atoms_spec (ws := wsL_provisional) B.pre
  have hown : s.vm.findClass RL = some m.cls := findClass_of_methodNamed B.named
  have hlocks := B.notSynchronized
  subst hsz
  have hA : ∀ q : Nat, s.heap.size ≤ q → rg0 s.heap.size q := fun _ h => h
  have hS : va_S (rg0 s.heap.size) s.heap s.heap [] := va_S.rf
  have htab := vx_table (x := yL_provisional) B (hts (.codeWith yL_provisional cL_provisional 6 (some .int) [(0, 12, 15, 23), (0, 12, 19, 15), (0, 12, 23, 17)]) (List.mem_of_getElem? (i := 0) rfl))
  have hl := lv_entry ([.ref h0, .int a1, .int a2, .int a3, .ref o]) (n := 6) (Nat.le_of_ble_eq_true rfl)
  rw [lg_entry_eq]
  generalize (lg_sl ([.ref h0, .int a1, .int a2, .int a3, .ref o]) ++ List.replicate (6 - (lg_sl ([.ref h0, .int a1, .int a2, .int a3, .ref o])).length) Slot.unset).toArray = ls at hl ⊢
  have hl : lv_has ls 6 [(0, .ref h0), (1, .int a1), (2, .int a2), (3, .int a3), (4, .ref o)] := hl
  refine lv_aload hx hb dL_provisional_0 (lv_at hl 4 rfl) ?_
  refine lv_iconst (v := 0) hx hb dL_provisional_2 (by decide) ?_
  refine lv_aload_n hx hb dL_provisional_3 rfl (lv_at hl 0 rfl) ?_
  refine lv_iload_n hx hb dL_provisional_4 rfl (lv_at hl 1 rfl) ?_
  refine lv_iload_n hx hb dL_provisional_5 rfl (lv_at hl 2 rfl) ?_
  refine lv_iload_n hx hb dL_provisional_6 rfl (lv_at hl 3 rfl) ?_
  refine vx_calli (vx_runV (As := [.int a1, .int a2, .int a3]) (rest := [.int 0, .ref o]) ⟨hx, hb, hml, hown, hts⟩ (c_X6_provisional l hlT D h0 r s.heap.size a1 a2 a3) (cwV 3 hts gL_provisional_X6_provisional rfl rfl rfl (by decide +kernel) ⟨Nat.le_of_ble_eq_true rfl, Nat.le_of_ble_eq_true rfl⟩) ⟨fun a U g mk q => ⟨q.1, PX6.blind q.2⟩, va_recv hK hP (ci := 12) (q0 := 0) rfl rfl, fun U hU hW => ⟨rfl, PX6.go hP hK hT hS hA hU hW⟩⟩ rfl rfl hl.1 rfl (lv_room (Nat.le_of_ble_eq_true rfl)) dL_provisional_7 ⟨Nat.le_of_ble_eq_true rfl, Nat.le_of_ble_eq_true rfl⟩) hS (fun q _ h => h) (fun q h => h) (fun q _ h => h) (fun E ce q9 u t H1 locs1 ht hvm hpx hB hz hk9 hS hcell hv hcl => ?_) (fun r9 u t H1 locs1 ht hvm hw hB hz1 hk1 hS => hw.elim)
  have hE : E = "java/lang/IndexOutOfBoundsException" := hB
  subst hE
  refine vx_catch (name := "java/lang/IndexOutOfBoundsException") hown [] ⟨0, 12, 15, 23⟩ [⟨0, 12, 19, 15⟩, ⟨0, 12, 23, 17⟩] (htab.trans rfl) (fun z hz => absurd hz List.not_mem_nil) (by decide) (by decide) (hts (.classLink RL 23 "java/lang/IndexOutOfBoundsException") (by decide +kernel)) (va_Nw.use rfl (hT.1 (Cond.castable "java/lang/IndexOutOfBoundsException" "java/lang/IndexOutOfBoundsException") (tf_cast (539, "java/lang/IndexOutOfBoundsException") (by decide +kernel)))) hcell hv hcl ?_
  refine lv_astore (lv' := [(5, .ref q9), (0, .ref h0), (1, .int a1), (2, .int a2), (3, .int a3), (4, .ref o)]) hx hb dL_provisional_15 hl (by decide) rfl (fun ls hl => ?_)
  refine lv_iconst (v := 1) hx hb dL_provisional_17 (by decide) ?_
  exact W.iret (v := 1) hx hb hr (fun t ht hW => ⟨⟨1, (), rfl, rfl, trivial⟩, hS.F ht⟩) hS.2.2 dL_provisional_18
set_option maxHeartbeats 4000000 in
set_option maxRecDepth 100000 in
theorem c_L_search (l : Launch) (hlT : l.stackTraces = false) (D : va_G) (h0 : Nat) (r : Nat → Nat) (o : Nat) (sz : Nat) (a1 : Int32) : Met l yL_search wsL_search ({ frames := 70, cells := 1, slots := 6, locals := 700 }) (va_Pc [.ref h0, .int a1, .ref o] (PX6 D h0 r sz)) (va_Qi (fun (r9 : Int32) (_ : Unit) => r9 = 1) (fun _ _ => True) (rg0 sz)) 1 6 (rg0 sz) := by
  refine va_MetW (cc := cL_search) (maxL := 4) (ret := (some .int)) (hh := [(0, 9, 12, 23), (0, 9, 15, 15), (0, 9, 18, 17)]) (by decide +kernel) rfl ?_
  intro p e s m args below meth c s₁ B hml hv
  obtain ⟨rfl, hsz, hP, hK, hT⟩ := hv
  have hx := B.exec
  have hb := B.bytes
  have hr := B.returns
  have hts := atoms_spec (ws := wsL_search) B.pre
  have hown : s.vm.findClass RL = some m.cls := findClass_of_methodNamed B.named
  have hlocks := B.notSynchronized
  subst hsz
  have hA : ∀ q : Nat, s.heap.size ≤ q → rg0 s.heap.size q := fun _ h => h
  have hS : va_S (rg0 s.heap.size) s.heap s.heap [] := va_S.rf
  have htab := vx_table (x := yL_search) B (hts (.codeWith yL_search cL_search 4 (some .int) [(0, 9, 12, 23), (0, 9, 15, 15), (0, 9, 18, 17)]) (List.mem_of_getElem? (i := 0) rfl))
  have hl := lv_entry ([.ref h0, .int a1, .ref o]) (n := 4) (Nat.le_of_ble_eq_true rfl)
  rw [lg_entry_eq]
  generalize (lg_sl ([.ref h0, .int a1, .ref o]) ++ List.replicate (4 - (lg_sl ([.ref h0, .int a1, .ref o])).length) Slot.unset).toArray = ls at hl ⊢
  have hl : lv_has ls 4 [(0, .ref h0), (1, .int a1), (2, .ref o)] := hl
  refine lv_aload_n hx hb dL_search_0 rfl (lv_at hl 2 rfl) ?_
  refine lv_iconst (v := 0) hx hb dL_search_1 (by decide) ?_
  refine lv_aload_n hx hb dL_search_2 rfl (lv_at hl 0 rfl) ?_
  refine lv_iload_n hx hb dL_search_3 rfl (lv_at hl 1 rfl) ?_
  refine vx_calli (vx_runV (As := [.int a1]) (rest := [.int 0, .ref o]) ⟨hx, hb, hml, hown, hts⟩ (c_X6_search l hlT D h0 r s.heap.size a1) (cwV 1 hts gL_search_X6_search rfl rfl rfl (by decide +kernel) ⟨Nat.le_of_ble_eq_true rfl, Nat.le_of_ble_eq_true rfl⟩) ⟨fun a U g mk q => ⟨q.1, PX6.blind q.2⟩, va_recv hK hP (ci := 12) (q0 := 0) rfl rfl, fun U hU hW => ⟨rfl, PX6.go hP hK hT hS hA hU hW⟩⟩ rfl rfl hl.1 rfl (lv_room (Nat.le_of_ble_eq_true rfl)) dL_search_4 ⟨Nat.le_of_ble_eq_true rfl, Nat.le_of_ble_eq_true rfl⟩) hS (fun q _ h => h) (fun q h => h) (fun q _ h => h) (fun E ce q9 u t H1 locs1 ht hvm hpx hB hz hk9 hS hcell hv hcl => ?_) (fun r9 u t H1 locs1 ht hvm hw hB hz1 hk1 hS => hw.elim)
  have hE : E = "java/lang/IndexOutOfBoundsException" := hB
  subst hE
  refine vx_catch (name := "java/lang/IndexOutOfBoundsException") hown [] ⟨0, 9, 12, 23⟩ [⟨0, 9, 15, 15⟩, ⟨0, 9, 18, 17⟩] (htab.trans rfl) (fun z hz => absurd hz List.not_mem_nil) (by decide) (by decide) (hts (.classLink RL 23 "java/lang/IndexOutOfBoundsException") (by decide +kernel)) (va_Nw.use rfl (hT.1 (Cond.castable "java/lang/IndexOutOfBoundsException" "java/lang/IndexOutOfBoundsException") (tf_cast (539, "java/lang/IndexOutOfBoundsException") (by decide +kernel)))) hcell hv hcl ?_
  refine lv_astore_n (lv' := [(3, .ref q9), (0, .ref h0), (1, .int a1), (2, .ref o)]) hx hb dL_search_12 rfl hl (by decide) rfl (fun ls hl => ?_)
  refine lv_iconst (v := 1) hx hb dL_search_13 (by decide) ?_
  exact W.iret (v := 1) hx hb hr (fun t ht hW => ⟨⟨1, (), rfl, rfl, trivial⟩, hS.F ht⟩) hS.2.2 dL_search_14
set_option maxHeartbeats 4000000 in
set_option maxRecDepth 100000 in
theorem c_L_again (l : Launch) (hlT : l.stackTraces = false) (D : va_G) (h0 : Nat) (r : Nat → Nat) (o : Nat) (sz : Nat) (a1 : Int32) : Met l yL_again wsL_again ({ frames := 70, cells := 1, slots := 6, locals := 700 }) (va_Pc [.ref h0, .int a1, .ref o] (PX6 D h0 r sz)) (va_Qi (fun (r9 : Int32) (_ : Unit) => r9 = 1) (fun _ _ => True) (rg0 sz)) 1 6 (rg0 sz) := by
  refine va_MetW (cc := cL_again) (maxL := 4) (ret := (some .int)) (hh := [(0, 9, 12, 23), (0, 9, 15, 15), (0, 9, 18, 17)]) (by decide +kernel) rfl ?_
  intro p e s m args below meth c s₁ B hml hv
  obtain ⟨rfl, hsz, hP, hK, hT⟩ := hv
  have hx := B.exec
  have hb := B.bytes
  have hr := B.returns
  have hts := atoms_spec (ws := wsL_again) B.pre
  have hown : s.vm.findClass RL = some m.cls := findClass_of_methodNamed B.named
  have hlocks := B.notSynchronized
  subst hsz
  have hA : ∀ q : Nat, s.heap.size ≤ q → rg0 s.heap.size q := fun _ h => h
  have hS : va_S (rg0 s.heap.size) s.heap s.heap [] := va_S.rf
  have htab := vx_table (x := yL_again) B (hts (.codeWith yL_again cL_again 4 (some .int) [(0, 9, 12, 23), (0, 9, 15, 15), (0, 9, 18, 17)]) (List.mem_of_getElem? (i := 0) rfl))
  have hl := lv_entry ([.ref h0, .int a1, .ref o]) (n := 4) (Nat.le_of_ble_eq_true rfl)
  rw [lg_entry_eq]
  generalize (lg_sl ([.ref h0, .int a1, .ref o]) ++ List.replicate (4 - (lg_sl ([.ref h0, .int a1, .ref o])).length) Slot.unset).toArray = ls at hl ⊢
  have hl : lv_has ls 4 [(0, .ref h0), (1, .int a1), (2, .ref o)] := hl
  refine lv_aload_n hx hb dL_again_0 rfl (lv_at hl 2 rfl) ?_
  refine lv_iconst (v := 0) hx hb dL_again_1 (by decide) ?_
  refine lv_aload_n hx hb dL_again_2 rfl (lv_at hl 0 rfl) ?_
  refine lv_iload_n hx hb dL_again_3 rfl (lv_at hl 1 rfl) ?_
  refine vx_calli (vx_runV (As := [.int a1]) (rest := [.int 0, .ref o]) ⟨hx, hb, hml, hown, hts⟩ (c_X6_again l hlT D h0 r s.heap.size a1) (cwV 1 hts gL_again_X6_again rfl rfl rfl (by decide +kernel) ⟨Nat.le_of_ble_eq_true rfl, Nat.le_of_ble_eq_true rfl⟩) ⟨fun a U g mk q => ⟨q.1, PX6.blind q.2⟩, va_recv hK hP (ci := 12) (q0 := 0) rfl rfl, fun U hU hW => ⟨rfl, PX6.go hP hK hT hS hA hU hW⟩⟩ rfl rfl hl.1 rfl (lv_room (Nat.le_of_ble_eq_true rfl)) dL_again_4 ⟨Nat.le_of_ble_eq_true rfl, Nat.le_of_ble_eq_true rfl⟩) hS (fun q _ h => h) (fun q h => h) (fun q _ h => h) (fun E ce q9 u t H1 locs1 ht hvm hpx hB hz hk9 hS hcell hv hcl => ?_) (fun r9 u t H1 locs1 ht hvm hw hB hz1 hk1 hS => hw.elim)
  have hE : E = "java/lang/IndexOutOfBoundsException" := hB
  subst hE
  refine vx_catch (name := "java/lang/IndexOutOfBoundsException") hown [] ⟨0, 9, 12, 23⟩ [⟨0, 9, 15, 15⟩, ⟨0, 9, 18, 17⟩] (htab.trans rfl) (fun z hz => absurd hz List.not_mem_nil) (by decide) (by decide) (hts (.classLink RL 23 "java/lang/IndexOutOfBoundsException") (by decide +kernel)) (va_Nw.use rfl (hT.1 (Cond.castable "java/lang/IndexOutOfBoundsException" "java/lang/IndexOutOfBoundsException") (tf_cast (539, "java/lang/IndexOutOfBoundsException") (by decide +kernel)))) hcell hv hcl ?_
  refine lv_astore_n (lv' := [(3, .ref q9), (0, .ref h0), (1, .int a1), (2, .ref o)]) hx hb dL_again_12 rfl hl (by decide) rfl (fun ls hl => ?_)
  refine lv_iconst (v := 1) hx hb dL_again_13 (by decide) ?_
  exact W.iret (v := 1) hx hb hr (fun t ht hW => ⟨⟨1, (), rfl, rfl, trivial⟩, hS.F ht⟩) hS.2.2 dL_again_14
set_option maxHeartbeats 4000000 in
set_option maxRecDepth 100000 in
theorem c_L_line (l : Launch) (hlT : l.stackTraces = false) (D : va_G) (h0 : Nat) (r : Nat → Nat) (o : Nat) (sz : Nat) (a1 a2 : Int32) : Met l yL_line wsL_line ({ frames := 70, cells := 1, slots := 6, locals := 700 }) (va_Pc [.ref h0, .int a1, .int a2, .ref o] (PX6 D h0 r sz)) (va_Qi (fun (r9 : Int32) (_ : Unit) => r9 = 1) (fun _ _ => True) (rg0 sz)) 1 6 (rg0 sz) := by
  refine va_MetW (cc := cL_line) (maxL := 5) (ret := (some .int)) (hh := [(0, 10, 13, 23), (0, 10, 17, 13), (0, 10, 21, 15), (0, 10, 25, 17)]) (by decide +kernel) rfl ?_
  intro p e s m args below meth c s₁ B hml hv
  obtain ⟨rfl, hsz, hP, hK, hT⟩ := hv
  have hx := B.exec
  have hb := B.bytes
  have hr := B.returns
  have hts := atoms_spec (ws := wsL_line) B.pre
  have hown : s.vm.findClass RL = some m.cls := findClass_of_methodNamed B.named
  have hlocks := B.notSynchronized
  subst hsz
  have hA : ∀ q : Nat, s.heap.size ≤ q → rg0 s.heap.size q := fun _ h => h
  have hS : va_S (rg0 s.heap.size) s.heap s.heap [] := va_S.rf
  have htab := vx_table (x := yL_line) B (hts (.codeWith yL_line cL_line 5 (some .int) [(0, 10, 13, 23), (0, 10, 17, 13), (0, 10, 21, 15), (0, 10, 25, 17)]) (List.mem_of_getElem? (i := 0) rfl))
  have hl := lv_entry ([.ref h0, .int a1, .int a2, .ref o]) (n := 5) (Nat.le_of_ble_eq_true rfl)
  rw [lg_entry_eq]
  generalize (lg_sl ([.ref h0, .int a1, .int a2, .ref o]) ++ List.replicate (5 - (lg_sl ([.ref h0, .int a1, .int a2, .ref o])).length) Slot.unset).toArray = ls at hl ⊢
  have hl : lv_has ls 5 [(0, .ref h0), (1, .int a1), (2, .int a2), (3, .ref o)] := hl
  refine lv_aload_n hx hb dL_line_0 rfl (lv_at hl 3 rfl) ?_
  refine lv_iconst (v := 0) hx hb dL_line_1 (by decide) ?_
  refine lv_aload_n hx hb dL_line_2 rfl (lv_at hl 0 rfl) ?_
  refine lv_iload_n hx hb dL_line_3 rfl (lv_at hl 1 rfl) ?_
  refine lv_iload_n hx hb dL_line_4 rfl (lv_at hl 2 rfl) ?_
  refine vx_calli (vx_runV (As := [.int a1, .int a2]) (rest := [.int 0, .ref o]) ⟨hx, hb, hml, hown, hts⟩ (c_X6_line l hlT D h0 r s.heap.size a1 a2) (cwV 2 hts gL_line_X6_line rfl rfl rfl (by decide +kernel) ⟨Nat.le_of_ble_eq_true rfl, Nat.le_of_ble_eq_true rfl⟩) ⟨fun a U g mk q => ⟨q.1, PX6.blind q.2⟩, va_recv hK hP (ci := 12) (q0 := 0) rfl rfl, fun U hU hW => ⟨rfl, PX6.go hP hK hT hS hA hU hW⟩⟩ rfl rfl hl.1 rfl (lv_room (Nat.le_of_ble_eq_true rfl)) dL_line_5 ⟨Nat.le_of_ble_eq_true rfl, Nat.le_of_ble_eq_true rfl⟩) hS (fun q _ h => h) (fun q h => h) (fun q _ h => h) (fun E ce q9 u t H1 locs1 ht hvm hpx hB hz hk9 hS hcell hv hcl => ?_) (fun r9 u t H1 locs1 ht hvm hw hB hz1 hk1 hS => hw.elim)
  have hE : E = "java/lang/IndexOutOfBoundsException" := hB
  subst hE
  refine vx_catch (name := "java/lang/IndexOutOfBoundsException") hown [] ⟨0, 10, 13, 23⟩ [⟨0, 10, 17, 13⟩, ⟨0, 10, 21, 15⟩, ⟨0, 10, 25, 17⟩] (htab.trans rfl) (fun z hz => absurd hz List.not_mem_nil) (by decide) (by decide) (hts (.classLink RL 23 "java/lang/IndexOutOfBoundsException") (by decide +kernel)) (va_Nw.use rfl (hT.1 (Cond.castable "java/lang/IndexOutOfBoundsException" "java/lang/IndexOutOfBoundsException") (tf_cast (539, "java/lang/IndexOutOfBoundsException") (by decide +kernel)))) hcell hv hcl ?_
  refine lv_astore (lv' := [(4, .ref q9), (0, .ref h0), (1, .int a1), (2, .int a2), (3, .ref o)]) hx hb dL_line_13 hl (by decide) rfl (fun ls hl => ?_)
  refine lv_iconst (v := 1) hx hb dL_line_15 (by decide) ?_
  exact W.iret (v := 1) hx hb hr (fun t ht hW => ⟨⟨1, (), rfl, rfl, trivial⟩, hS.F ht⟩) hS.2.2 dL_line_16
set_option maxHeartbeats 4000000 in
set_option maxRecDepth 100000 in
theorem c_L_aside (l : Launch) (hlT : l.stackTraces = false) (D : va_G) (h0 : Nat) (r : Nat → Nat) (o : Nat) (sz : Nat) (a1 a2 a3 : Int32) : Met l yL_aside wsL_aside ({ frames := 70, cells := 1, slots := 6, locals := 700 }) (va_Pc [.ref h0, .int a1, .int a2, .int a3, .ref o] (PX6 D h0 r sz)) (va_Qi (fun (r9 : Int32) (_ : Unit) => r9 = 1) (fun _ _ => True) (rg0 sz)) 1 6 (rg0 sz) := by
  refine va_MetW (cc := cL_aside) (maxL := 6) (ret := (some .int)) (hh := [(0, 12, 15, 23), (0, 12, 19, 15), (0, 12, 23, 17)]) (by decide +kernel) rfl ?_
  intro p e s m args below meth c s₁ B hml hv
  obtain ⟨rfl, hsz, hP, hK, hT⟩ := hv
  have hx := B.exec
  have hb := B.bytes
  have hr := B.returns
  have hts := atoms_spec (ws := wsL_aside) B.pre
  have hown : s.vm.findClass RL = some m.cls := findClass_of_methodNamed B.named
  have hlocks := B.notSynchronized
  subst hsz
  have hA : ∀ q : Nat, s.heap.size ≤ q → rg0 s.heap.size q := fun _ h => h
  have hS : va_S (rg0 s.heap.size) s.heap s.heap [] := va_S.rf
  have htab := vx_table (x := yL_aside) B (hts (.codeWith yL_aside cL_aside 6 (some .int) [(0, 12, 15, 23), (0, 12, 19, 15), (0, 12, 23, 17)]) (List.mem_of_getElem? (i := 0) rfl))
  have hl := lv_entry ([.ref h0, .int a1, .int a2, .int a3, .ref o]) (n := 6) (Nat.le_of_ble_eq_true rfl)
  rw [lg_entry_eq]
  generalize (lg_sl ([.ref h0, .int a1, .int a2, .int a3, .ref o]) ++ List.replicate (6 - (lg_sl ([.ref h0, .int a1, .int a2, .int a3, .ref o])).length) Slot.unset).toArray = ls at hl ⊢
  have hl : lv_has ls 6 [(0, .ref h0), (1, .int a1), (2, .int a2), (3, .int a3), (4, .ref o)] := hl
  refine lv_aload hx hb dL_aside_0 (lv_at hl 4 rfl) ?_
  refine lv_iconst (v := 0) hx hb dL_aside_2 (by decide) ?_
  refine lv_aload_n hx hb dL_aside_3 rfl (lv_at hl 0 rfl) ?_
  refine lv_iload_n hx hb dL_aside_4 rfl (lv_at hl 1 rfl) ?_
  refine lv_iload_n hx hb dL_aside_5 rfl (lv_at hl 2 rfl) ?_
  refine lv_iload_n hx hb dL_aside_6 rfl (lv_at hl 3 rfl) ?_
  refine vx_calli (vx_runV (As := [.int a1, .int a2, .int a3]) (rest := [.int 0, .ref o]) ⟨hx, hb, hml, hown, hts⟩ (c_X6_aside l hlT D h0 r s.heap.size a1 a2 a3) (cwV 3 hts gL_aside_X6_aside rfl rfl rfl (by decide +kernel) ⟨Nat.le_of_ble_eq_true rfl, Nat.le_of_ble_eq_true rfl⟩) ⟨fun a U g mk q => ⟨q.1, PX6.blind q.2⟩, va_recv hK hP (ci := 12) (q0 := 0) rfl rfl, fun U hU hW => ⟨rfl, PX6.go hP hK hT hS hA hU hW⟩⟩ rfl rfl hl.1 rfl (lv_room (Nat.le_of_ble_eq_true rfl)) dL_aside_7 ⟨Nat.le_of_ble_eq_true rfl, Nat.le_of_ble_eq_true rfl⟩) hS (fun q _ h => h) (fun q h => h) (fun q _ h => h) (fun E ce q9 u t H1 locs1 ht hvm hpx hB hz hk9 hS hcell hv hcl => ?_) (fun r9 u t H1 locs1 ht hvm hw hB hz1 hk1 hS => hw.elim)
  have hE : E = "java/lang/IndexOutOfBoundsException" := hB
  subst hE
  refine vx_catch (name := "java/lang/IndexOutOfBoundsException") hown [] ⟨0, 12, 15, 23⟩ [⟨0, 12, 19, 15⟩, ⟨0, 12, 23, 17⟩] (htab.trans rfl) (fun z hz => absurd hz List.not_mem_nil) (by decide) (by decide) (hts (.classLink RL 23 "java/lang/IndexOutOfBoundsException") (by decide +kernel)) (va_Nw.use rfl (hT.1 (Cond.castable "java/lang/IndexOutOfBoundsException" "java/lang/IndexOutOfBoundsException") (tf_cast (539, "java/lang/IndexOutOfBoundsException") (by decide +kernel)))) hcell hv hcl ?_
  refine lv_astore (lv' := [(5, .ref q9), (0, .ref h0), (1, .int a1), (2, .int a2), (3, .int a3), (4, .ref o)]) hx hb dL_aside_15 hl (by decide) rfl (fun ls hl => ?_)
  refine lv_iconst (v := 1) hx hb dL_aside_17 (by decide) ?_
  exact W.iret (v := 1) hx hb hr (fun t ht hW => ⟨⟨1, (), rfl, rfl, trivial⟩, hS.F ht⟩) hS.2.2 dL_aside_18
set_option maxHeartbeats 4000000 in
set_option maxRecDepth 100000 in
theorem c_L_point (l : Launch) (hlT : l.stackTraces = false) (D : va_G) (h0 : Nat) (r : Nat → Nat) (o : Nat) (sz : Nat) (a1 a2 : Int32) : Met l yL_point wsL_point ({ frames := 70, cells := 1, slots := 6, locals := 700 }) (va_Pc [.ref h0, .int a1, .int a2, .ref o] (PX6 D h0 r sz)) (va_Qi (fun (r9 : Int32) (_ : Unit) => r9 = 1) (fun _ _ => True) (rg0 sz)) 1 6 (rg0 sz) := by
  refine va_MetW (cc := cL_point) (maxL := 5) (ret := (some .int)) (hh := [(0, 10, 13, 23), (0, 10, 17, 15), (0, 10, 21, 17), (0, 10, 25, 54)]) (by decide +kernel) rfl ?_
  intro p e s m args below meth c s₁ B hml hv
  obtain ⟨rfl, hsz, hP, hK, hT⟩ := hv
  have hx := B.exec
  have hb := B.bytes
  have hr := B.returns
  have hts := atoms_spec (ws := wsL_point) B.pre
  have hown : s.vm.findClass RL = some m.cls := findClass_of_methodNamed B.named
  have hlocks := B.notSynchronized
  subst hsz
  have hA : ∀ q : Nat, s.heap.size ≤ q → rg0 s.heap.size q := fun _ h => h
  have hS : va_S (rg0 s.heap.size) s.heap s.heap [] := va_S.rf
  have htab := vx_table (x := yL_point) B (hts (.codeWith yL_point cL_point 5 (some .int) [(0, 10, 13, 23), (0, 10, 17, 15), (0, 10, 21, 17), (0, 10, 25, 54)]) (List.mem_of_getElem? (i := 0) rfl))
  have hl := lv_entry ([.ref h0, .int a1, .int a2, .ref o]) (n := 5) (Nat.le_of_ble_eq_true rfl)
  rw [lg_entry_eq]
  generalize (lg_sl ([.ref h0, .int a1, .int a2, .ref o]) ++ List.replicate (5 - (lg_sl ([.ref h0, .int a1, .int a2, .ref o])).length) Slot.unset).toArray = ls at hl ⊢
  have hl : lv_has ls 5 [(0, .ref h0), (1, .int a1), (2, .int a2), (3, .ref o)] := hl
  refine lv_aload_n hx hb dL_point_0 rfl (lv_at hl 3 rfl) ?_
  refine lv_iconst (v := 0) hx hb dL_point_1 (by decide) ?_
  refine lv_aload_n hx hb dL_point_2 rfl (lv_at hl 0 rfl) ?_
  refine lv_iload_n hx hb dL_point_3 rfl (lv_at hl 1 rfl) ?_
  refine lv_iload_n hx hb dL_point_4 rfl (lv_at hl 2 rfl) ?_
  refine vx_calli (vx_runV (As := [.int a1, .int a2]) (rest := [.int 0, .ref o]) ⟨hx, hb, hml, hown, hts⟩ (c_X6_point l hlT D h0 r s.heap.size a1 a2) (cwV 2 hts gL_point_X6_point rfl rfl rfl (by decide +kernel) ⟨Nat.le_of_ble_eq_true rfl, Nat.le_of_ble_eq_true rfl⟩) ⟨fun a U g mk q => ⟨q.1, PX6.blind q.2⟩, va_recv hK hP (ci := 12) (q0 := 0) rfl rfl, fun U hU hW => ⟨rfl, PX6.go hP hK hT hS hA hU hW⟩⟩ rfl rfl hl.1 rfl (lv_room (Nat.le_of_ble_eq_true rfl)) dL_point_5 ⟨Nat.le_of_ble_eq_true rfl, Nat.le_of_ble_eq_true rfl⟩) hS (fun q _ h => h) (fun q h => h) (fun q _ h => h) (fun E ce q9 u t H1 locs1 ht hvm hpx hB hz hk9 hS hcell hv hcl => ?_) (fun r9 u t H1 locs1 ht hvm hw hB hz1 hk1 hS => hw.elim)
  have hE : E = "java/lang/IndexOutOfBoundsException" := hB
  subst hE
  refine vx_catch (name := "java/lang/IndexOutOfBoundsException") hown [] ⟨0, 10, 13, 23⟩ [⟨0, 10, 17, 15⟩, ⟨0, 10, 21, 17⟩, ⟨0, 10, 25, 54⟩] (htab.trans rfl) (fun z hz => absurd hz List.not_mem_nil) (by decide) (by decide) (hts (.classLink RL 23 "java/lang/IndexOutOfBoundsException") (by decide +kernel)) (va_Nw.use rfl (hT.1 (Cond.castable "java/lang/IndexOutOfBoundsException" "java/lang/IndexOutOfBoundsException") (tf_cast (539, "java/lang/IndexOutOfBoundsException") (by decide +kernel)))) hcell hv hcl ?_
  refine lv_astore (lv' := [(4, .ref q9), (0, .ref h0), (1, .int a1), (2, .int a2), (3, .ref o)]) hx hb dL_point_13 hl (by decide) rfl (fun ls hl => ?_)
  refine lv_iconst (v := 1) hx hb dL_point_15 (by decide) ?_
  exact W.iret (v := 1) hx hb hr (fun t ht hW => ⟨⟨1, (), rfl, rfl, trivial⟩, hS.F ht⟩) hS.2.2 dL_point_16
set_option maxHeartbeats 4000000 in
set_option maxRecDepth 100000 in
theorem c_L_free (l : Launch) (hlT : l.stackTraces = false) (D : va_G) (h0 : Nat) (r : Nat → Nat) (o : Nat) (sz : Nat) (a1 a2 a3 : Int32) : Met l yL_free wsL_free ({ frames := 70, cells := 1, slots := 6, locals := 700 }) (va_Pc [.ref h0, .int a1, .int a2, .int a3, .ref o] (PX6 D h0 r sz)) (va_Qi (fun (r9 : Int32) (_ : Unit) => r9 = 1) (fun _ _ => True) (rg0 sz)) 1 6 (rg0 sz) := by
  refine va_MetW (cc := cL_free) (maxL := 6) (ret := (some .int)) (hh := [(0, 12, 15, 23), (0, 12, 19, 15), (0, 12, 23, 17), (0, 12, 27, 54)]) (by decide +kernel) rfl ?_
  intro p e s m args below meth c s₁ B hml hv
  obtain ⟨rfl, hsz, hP, hK, hT⟩ := hv
  have hx := B.exec
  have hb := B.bytes
  have hr := B.returns
  have hts := atoms_spec (ws := wsL_free) B.pre
  have hown : s.vm.findClass RL = some m.cls := findClass_of_methodNamed B.named
  have hlocks := B.notSynchronized
  subst hsz
  have hA : ∀ q : Nat, s.heap.size ≤ q → rg0 s.heap.size q := fun _ h => h
  have hS : va_S (rg0 s.heap.size) s.heap s.heap [] := va_S.rf
  have htab := vx_table (x := yL_free) B (hts (.codeWith yL_free cL_free 6 (some .int) [(0, 12, 15, 23), (0, 12, 19, 15), (0, 12, 23, 17), (0, 12, 27, 54)]) (List.mem_of_getElem? (i := 0) rfl))
  have hl := lv_entry ([.ref h0, .int a1, .int a2, .int a3, .ref o]) (n := 6) (Nat.le_of_ble_eq_true rfl)
  rw [lg_entry_eq]
  generalize (lg_sl ([.ref h0, .int a1, .int a2, .int a3, .ref o]) ++ List.replicate (6 - (lg_sl ([.ref h0, .int a1, .int a2, .int a3, .ref o])).length) Slot.unset).toArray = ls at hl ⊢
  have hl : lv_has ls 6 [(0, .ref h0), (1, .int a1), (2, .int a2), (3, .int a3), (4, .ref o)] := hl
  refine lv_aload hx hb dL_free_0 (lv_at hl 4 rfl) ?_
  refine lv_iconst (v := 0) hx hb dL_free_2 (by decide) ?_
  refine lv_aload_n hx hb dL_free_3 rfl (lv_at hl 0 rfl) ?_
  refine lv_iload_n hx hb dL_free_4 rfl (lv_at hl 1 rfl) ?_
  refine lv_iload_n hx hb dL_free_5 rfl (lv_at hl 2 rfl) ?_
  refine lv_iload_n hx hb dL_free_6 rfl (lv_at hl 3 rfl) ?_
  refine vx_calli (vx_runV (As := [.int a1, .int a2, .int a3]) (rest := [.int 0, .ref o]) ⟨hx, hb, hml, hown, hts⟩ (c_X6_free l hlT D h0 r s.heap.size a1 a2 a3) (cwV 3 hts gL_free_X6_free rfl rfl rfl (by decide +kernel) ⟨Nat.le_of_ble_eq_true rfl, Nat.le_of_ble_eq_true rfl⟩) ⟨fun a U g mk q => ⟨q.1, PX6.blind q.2⟩, va_recv hK hP (ci := 12) (q0 := 0) rfl rfl, fun U hU hW => ⟨rfl, PX6.go hP hK hT hS hA hU hW⟩⟩ rfl rfl hl.1 rfl (lv_room (Nat.le_of_ble_eq_true rfl)) dL_free_7 ⟨Nat.le_of_ble_eq_true rfl, Nat.le_of_ble_eq_true rfl⟩) hS (fun q _ h => h) (fun q h => h) (fun q _ h => h) (fun E ce q9 u t H1 locs1 ht hvm hpx hB hz hk9 hS hcell hv hcl => ?_) (fun r9 u t H1 locs1 ht hvm hw hB hz1 hk1 hS => hw.elim)
  have hE : E = "java/lang/IndexOutOfBoundsException" := hB
  subst hE
  refine vx_catch (name := "java/lang/IndexOutOfBoundsException") hown [] ⟨0, 12, 15, 23⟩ [⟨0, 12, 19, 15⟩, ⟨0, 12, 23, 17⟩, ⟨0, 12, 27, 54⟩] (htab.trans rfl) (fun z hz => absurd hz List.not_mem_nil) (by decide) (by decide) (hts (.classLink RL 23 "java/lang/IndexOutOfBoundsException") (by decide +kernel)) (va_Nw.use rfl (hT.1 (Cond.castable "java/lang/IndexOutOfBoundsException" "java/lang/IndexOutOfBoundsException") (tf_cast (539, "java/lang/IndexOutOfBoundsException") (by decide +kernel)))) hcell hv hcl ?_
  refine lv_astore (lv' := [(5, .ref q9), (0, .ref h0), (1, .int a1), (2, .int a2), (3, .int a3), (4, .ref o)]) hx hb dL_free_15 hl (by decide) rfl (fun ls hl => ?_)
  refine lv_iconst (v := 1) hx hb dL_free_17 (by decide) ?_
  exact W.iret (v := 1) hx hb hr (fun t ht hW => ⟨⟨1, (), rfl, rfl, trivial⟩, hS.F ht⟩) hS.2.2 dL_free_18
set_option maxHeartbeats 4000000 in
set_option maxRecDepth 100000 in
theorem c_L_wrongPlace (l : Launch) (hlT : l.stackTraces = false) (D : va_G) (h0 : Nat) (r : Nat → Nat) (o : Nat) (sz : Nat) (a1 a2 a3 : Int32) : Met l yL_wrongPlace wsL_wrongPlace ({ frames := 70, cells := 1, slots := 6, locals := 700 }) (va_Pc [.ref h0, .int a1, .int a2, .int a3, .ref o] (PX6 D h0 r sz)) (va_Qi (fun (r9 : Int32) (_ : Unit) => r9 = 1) (fun _ _ => True) (rg0 sz)) 1 6 (rg0 sz) := by
  refine va_MetW (cc := cL_wrongPlace) (maxL := 6) (ret := (some .int)) (hh := [(0, 19, 22, 23), (0, 19, 26, 15), (0, 19, 30, 17)]) (by decide +kernel) rfl ?_
  intro p e s m args below meth c s₁ B hml hv
  obtain ⟨rfl, hsz, hP, hK, hT⟩ := hv
  have hx := B.exec
  have hb := B.bytes
  have hr := B.returns
  have hts := atoms_spec (ws := wsL_wrongPlace) B.pre
  have hown : s.vm.findClass RL = some m.cls := findClass_of_methodNamed B.named
  have hlocks := B.notSynchronized
  subst hsz
  have hA : ∀ q : Nat, s.heap.size ≤ q → rg0 s.heap.size q := fun _ h => h
  have hS : va_S (rg0 s.heap.size) s.heap s.heap [] := va_S.rf
  have htab := vx_table (x := yL_wrongPlace) B (hts (.codeWith yL_wrongPlace cL_wrongPlace 6 (some .int) [(0, 19, 22, 23), (0, 19, 26, 15), (0, 19, 30, 17)]) (List.mem_of_getElem? (i := 0) rfl))
  have hl := lv_entry ([.ref h0, .int a1, .int a2, .int a3, .ref o]) (n := 6) (Nat.le_of_ble_eq_true rfl)
  rw [lg_entry_eq]
  generalize (lg_sl ([.ref h0, .int a1, .int a2, .int a3, .ref o]) ++ List.replicate (6 - (lg_sl ([.ref h0, .int a1, .int a2, .int a3, .ref o])).length) Slot.unset).toArray = ls at hl ⊢
  have hl : lv_has ls 6 [(0, .ref h0), (1, .int a1), (2, .int a2), (3, .int a3), (4, .ref o)] := hl
  refine lv_aload hx hb dL_wrongPlace_0 (lv_at hl 4 rfl) ?_
  refine lv_iconst (v := 0) hx hb dL_wrongPlace_2 (by decide) ?_
  refine lv_aload_n hx hb dL_wrongPlace_3 rfl (lv_at hl 0 rfl) ?_
  refine lv_iload_n hx hb dL_wrongPlace_4 rfl (lv_at hl 1 rfl) ?_
  refine lv_iload_n hx hb dL_wrongPlace_5 rfl (lv_at hl 2 rfl) ?_
  refine lv_iload_n hx hb dL_wrongPlace_6 rfl (lv_at hl 3 rfl) ?_
  refine vx_calli (vx_runV (As := [.int a1, .int a2, .int a3]) (rest := [.int 0, .ref o]) ⟨hx, hb, hml, hown, hts⟩ (c_X6_wrongPlace l hlT D h0 r s.heap.size a1 a2 a3) (cwV 3 hts gL_wrongPlace_X6_wrongPlace rfl rfl rfl (by decide +kernel) ⟨Nat.le_of_ble_eq_true rfl, Nat.le_of_ble_eq_true rfl⟩) ⟨fun a U g mk q => ⟨q.1, PX6.blind q.2⟩, va_recv hK hP (ci := 12) (q0 := 0) rfl rfl, fun U hU hW => ⟨rfl, PX6.go hP hK hT hS hA hU hW⟩⟩ rfl rfl hl.1 rfl (lv_room (Nat.le_of_ble_eq_true rfl)) dL_wrongPlace_7 ⟨Nat.le_of_ble_eq_true rfl, Nat.le_of_ble_eq_true rfl⟩) hS (fun q _ h => h) (fun q h => h) (fun q _ h => h) (fun E ce q9 u t H1 locs1 ht hvm hpx hB hz hk9 hS hcell hv hcl => ?_) (fun r9 u t H1 locs1 ht hvm hw hB hz1 hk1 hS => hw.elim)
  have hE : E = "java/lang/IndexOutOfBoundsException" := hB
  subst hE
  refine vx_catch (name := "java/lang/IndexOutOfBoundsException") hown [] ⟨0, 19, 22, 23⟩ [⟨0, 19, 26, 15⟩, ⟨0, 19, 30, 17⟩] (htab.trans rfl) (fun z hz => absurd hz List.not_mem_nil) (by decide) (by decide) (hts (.classLink RL 23 "java/lang/IndexOutOfBoundsException") (by decide +kernel)) (va_Nw.use rfl (hT.1 (Cond.castable "java/lang/IndexOutOfBoundsException" "java/lang/IndexOutOfBoundsException") (tf_cast (539, "java/lang/IndexOutOfBoundsException") (by decide +kernel)))) hcell hv hcl ?_
  refine lv_astore (lv' := [(5, .ref q9), (0, .ref h0), (1, .int a1), (2, .int a2), (3, .int a3), (4, .ref o)]) hx hb dL_wrongPlace_22 hl (by decide) rfl (fun ls hl => ?_)
  refine lv_iconst (v := 1) hx hb dL_wrongPlace_24 (by decide) ?_
  exact W.iret (v := 1) hx hb hr (fun t ht hW => ⟨⟨1, (), rfl, rfl, trivial⟩, hS.F ht⟩) hS.2.2 dL_wrongPlace_25
set_option maxHeartbeats 4000000 in
set_option maxRecDepth 100000 in
theorem c_L_correct (l : Launch) (hlT : l.stackTraces = false) (D : va_G) (h0 : Nat) (r : Nat → Nat) (o : Nat) (sz : Nat) (a1 : Int32) : Met l yL_correct wsL_correct ({ frames := 70, cells := 1, slots := 6, locals := 700 }) (va_Pc [.ref h0, .int a1, .ref o] (PX6 D h0 r sz)) (va_Qi (fun (r9 : Int32) (_ : Unit) => r9 = 1) (fun _ _ => True) (rg0 sz)) 1 6 (rg0 sz) := by
  refine va_MetW (cc := cL_correct) (maxL := 4) (ret := (some .int)) (hh := [(0, 9, 12, 23), (0, 9, 15, 15), (0, 9, 18, 17)]) (by decide +kernel) rfl ?_
  intro p e s m args below meth c s₁ B hml hv
  obtain ⟨rfl, hsz, hP, hK, hT⟩ := hv
  have hx := B.exec
  have hb := B.bytes
  have hr := B.returns
  have hts := atoms_spec (ws := wsL_correct) B.pre
  have hown : s.vm.findClass RL = some m.cls := findClass_of_methodNamed B.named
  have hlocks := B.notSynchronized
  subst hsz
  have hA : ∀ q : Nat, s.heap.size ≤ q → rg0 s.heap.size q := fun _ h => h
  have hS : va_S (rg0 s.heap.size) s.heap s.heap [] := va_S.rf
  have htab := vx_table (x := yL_correct) B (hts (.codeWith yL_correct cL_correct 4 (some .int) [(0, 9, 12, 23), (0, 9, 15, 15), (0, 9, 18, 17)]) (List.mem_of_getElem? (i := 0) rfl))
  have hl := lv_entry ([.ref h0, .int a1, .ref o]) (n := 4) (Nat.le_of_ble_eq_true rfl)
  rw [lg_entry_eq]
  generalize (lg_sl ([.ref h0, .int a1, .ref o]) ++ List.replicate (4 - (lg_sl ([.ref h0, .int a1, .ref o])).length) Slot.unset).toArray = ls at hl ⊢
  have hl : lv_has ls 4 [(0, .ref h0), (1, .int a1), (2, .ref o)] := hl
  refine lv_aload_n hx hb dL_correct_0 rfl (lv_at hl 2 rfl) ?_
  refine lv_iconst (v := 0) hx hb dL_correct_1 (by decide) ?_
  refine lv_aload_n hx hb dL_correct_2 rfl (lv_at hl 0 rfl) ?_
  refine lv_iload_n hx hb dL_correct_3 rfl (lv_at hl 1 rfl) ?_
  refine vx_calli (vx_runV (As := [.int a1]) (rest := [.int 0, .ref o]) ⟨hx, hb, hml, hown, hts⟩ (c_X6_correct l hlT D h0 r s.heap.size a1) (cwV 1 hts gL_correct_X6_correct rfl rfl rfl (by decide +kernel) ⟨Nat.le_of_ble_eq_true rfl, Nat.le_of_ble_eq_true rfl⟩) ⟨fun a U g mk q => ⟨q.1, PX6.blind q.2⟩, va_recv hK hP (ci := 12) (q0 := 0) rfl rfl, fun U hU hW => ⟨rfl, PX6.go hP hK hT hS hA hU hW⟩⟩ rfl rfl hl.1 rfl (lv_room (Nat.le_of_ble_eq_true rfl)) dL_correct_4 ⟨Nat.le_of_ble_eq_true rfl, Nat.le_of_ble_eq_true rfl⟩) hS (fun q _ h => h) (fun q h => h) (fun q _ h => h) (fun E ce q9 u t H1 locs1 ht hvm hpx hB hz hk9 hS hcell hv hcl => ?_) (fun r9 u t H1 locs1 ht hvm hw hB hz1 hk1 hS => hw.elim)
  have hE : E = "java/lang/IndexOutOfBoundsException" := hB
  subst hE
  refine vx_catch (name := "java/lang/IndexOutOfBoundsException") hown [] ⟨0, 9, 12, 23⟩ [⟨0, 9, 15, 15⟩, ⟨0, 9, 18, 17⟩] (htab.trans rfl) (fun z hz => absurd hz List.not_mem_nil) (by decide) (by decide) (hts (.classLink RL 23 "java/lang/IndexOutOfBoundsException") (by decide +kernel)) (va_Nw.use rfl (hT.1 (Cond.castable "java/lang/IndexOutOfBoundsException" "java/lang/IndexOutOfBoundsException") (tf_cast (539, "java/lang/IndexOutOfBoundsException") (by decide +kernel)))) hcell hv hcl ?_
  refine lv_astore_n (lv' := [(3, .ref q9), (0, .ref h0), (1, .int a1), (2, .ref o)]) hx hb dL_correct_12 rfl hl (by decide) rfl (fun ls hl => ?_)
  refine lv_iconst (v := 1) hx hb dL_correct_13 (by decide) ?_
  exact W.iret (v := 1) hx hb hr (fun t ht hW => ⟨⟨1, (), rfl, rfl, trivial⟩, hS.F ht⟩) hS.2.2 dL_correct_14
set_option maxHeartbeats 4000000 in
set_option maxRecDepth 100000 in
theorem c_L_move (l : Launch) (hlT : l.stackTraces = false) (D : va_G) (h0 : Nat) (r : Nat → Nat) (o : Nat) (sz : Nat) (a1 a2 a3 a4 : Int32) : Met l yL_move wsL_move ({ frames := 70, cells := 1, slots := 6, locals := 700 }) (va_Pc [.ref h0, .int a1, .int a2, .int a3, .int a4, .ref o] (PX6 D h0 r sz)) (va_Qi (fun (r9 : Int32) (_ : Unit) => r9 = 1) (fun _ _ => True) (rg0 sz)) 1 6 (rg0 sz) := by
  refine va_MetW (cc := cL_move) (maxL := 7) (ret := (some .int)) (hh := [(0, 14, 17, 23), (0, 14, 21, 13), (0, 14, 25, 15), (0, 14, 29, 17)]) (by decide +kernel) rfl ?_
  intro p e s m args below meth c s₁ B hml hv
  obtain ⟨rfl, hsz, hP, hK, hT⟩ := hv
  have hx := B.exec
  have hb := B.bytes
  have hr := B.returns
  have hts := atoms_spec (ws := wsL_move) B.pre
  have hown : s.vm.findClass RL = some m.cls := findClass_of_methodNamed B.named
  have hlocks := B.notSynchronized
  subst hsz
  have hA : ∀ q : Nat, s.heap.size ≤ q → rg0 s.heap.size q := fun _ h => h
  have hS : va_S (rg0 s.heap.size) s.heap s.heap [] := va_S.rf
  have htab := vx_table (x := yL_move) B (hts (.codeWith yL_move cL_move 7 (some .int) [(0, 14, 17, 23), (0, 14, 21, 13), (0, 14, 25, 15), (0, 14, 29, 17)]) (List.mem_of_getElem? (i := 0) rfl))
  have hl := lv_entry ([.ref h0, .int a1, .int a2, .int a3, .int a4, .ref o]) (n := 7) (Nat.le_of_ble_eq_true rfl)
  rw [lg_entry_eq]
  generalize (lg_sl ([.ref h0, .int a1, .int a2, .int a3, .int a4, .ref o]) ++ List.replicate (7 - (lg_sl ([.ref h0, .int a1, .int a2, .int a3, .int a4, .ref o])).length) Slot.unset).toArray = ls at hl ⊢
  have hl : lv_has ls 7 [(0, .ref h0), (1, .int a1), (2, .int a2), (3, .int a3), (4, .int a4), (5, .ref o)] := hl
  refine lv_aload hx hb dL_move_0 (lv_at hl 5 rfl) ?_
  refine lv_iconst (v := 0) hx hb dL_move_2 (by decide) ?_
  refine lv_aload_n hx hb dL_move_3 rfl (lv_at hl 0 rfl) ?_
  refine lv_iload_n hx hb dL_move_4 rfl (lv_at hl 1 rfl) ?_
  refine lv_iload_n hx hb dL_move_5 rfl (lv_at hl 2 rfl) ?_
  refine lv_iload_n hx hb dL_move_6 rfl (lv_at hl 3 rfl) ?_
  refine lv_iload hx hb dL_move_7 (lv_at hl 4 rfl) ?_
  refine vx_calli (vx_runV (As := [.int a1, .int a2, .int a3, .int a4]) (rest := [.int 0, .ref o]) ⟨hx, hb, hml, hown, hts⟩ (c_X6_move l hlT D h0 r s.heap.size a1 a2 a3 a4) (cwV 4 hts gL_move_X6_move rfl rfl rfl (by decide +kernel) ⟨Nat.le_of_ble_eq_true rfl, Nat.le_of_ble_eq_true rfl⟩) ⟨fun a U g mk q => ⟨q.1, PX6.blind q.2⟩, va_recv hK hP (ci := 12) (q0 := 0) rfl rfl, fun U hU hW => ⟨rfl, PX6.go hP hK hT hS hA hU hW⟩⟩ rfl rfl hl.1 rfl (lv_room (Nat.le_of_ble_eq_true rfl)) dL_move_9 ⟨Nat.le_of_ble_eq_true rfl, Nat.le_of_ble_eq_true rfl⟩) hS (fun q _ h => h) (fun q h => h) (fun q _ h => h) (fun E ce q9 u t H1 locs1 ht hvm hpx hB hz hk9 hS hcell hv hcl => ?_) (fun r9 u t H1 locs1 ht hvm hw hB hz1 hk1 hS => hw.elim)
  have hE : E = "java/lang/IndexOutOfBoundsException" := hB
  subst hE
  refine vx_catch (name := "java/lang/IndexOutOfBoundsException") hown [] ⟨0, 14, 17, 23⟩ [⟨0, 14, 21, 13⟩, ⟨0, 14, 25, 15⟩, ⟨0, 14, 29, 17⟩] (htab.trans rfl) (fun z hz => absurd hz List.not_mem_nil) (by decide) (by decide) (hts (.classLink RL 23 "java/lang/IndexOutOfBoundsException") (by decide +kernel)) (va_Nw.use rfl (hT.1 (Cond.castable "java/lang/IndexOutOfBoundsException" "java/lang/IndexOutOfBoundsException") (tf_cast (539, "java/lang/IndexOutOfBoundsException") (by decide +kernel)))) hcell hv hcl ?_
  refine lv_astore (lv' := [(6, .ref q9), (0, .ref h0), (1, .int a1), (2, .int a2), (3, .int a3), (4, .int a4), (5, .ref o)]) hx hb dL_move_17 hl (by decide) rfl (fun ls hl => ?_)
  refine lv_iconst (v := 1) hx hb dL_move_19 (by decide) ?_
  exact W.iret (v := 1) hx hb hr (fun t ht hW => ⟨⟨1, (), rfl, rfl, trivial⟩, hS.F ht⟩) hS.2.2 dL_move_20
set_option maxHeartbeats 4000000 in
set_option maxRecDepth 100000 in
theorem c_L_wrongBall (l : Launch) (hlT : l.stackTraces = false) (D : va_G) (h0 : Nat) (r : Nat → Nat) (o : Nat) (sz : Nat) (a1 a2 : Int32) : Met l yL_wrongBall wsL_wrongBall ({ frames := 70, cells := 1, slots := 6, locals := 700 }) (va_Pc [.ref h0, .int a1, .int a2, .ref o] (PX6 D h0 r sz)) (va_Qi (fun (r9 : Int32) (_ : Unit) => r9 = 1) (fun _ _ => True) (rg0 sz)) 1 6 (rg0 sz) := by
  refine va_MetW (cc := cL_wrongBall) (maxL := 5) (ret := (some .int)) (hh := [(0, 10, 13, 23), (0, 10, 17, 15), (0, 10, 21, 17)]) (by decide +kernel) rfl ?_
  intro p e s m args below meth c s₁ B hml hv
  obtain ⟨rfl, hsz, hP, hK, hT⟩ := hv
  have hx := B.exec
  have hb := B.bytes
  have hr := B.returns
  have hts := atoms_spec (ws := wsL_wrongBall) B.pre
  have hown : s.vm.findClass RL = some m.cls := findClass_of_methodNamed B.named
  have hlocks := B.notSynchronized
  subst hsz
  have hA : ∀ q : Nat, s.heap.size ≤ q → rg0 s.heap.size q := fun _ h => h
  have hS : va_S (rg0 s.heap.size) s.heap s.heap [] := va_S.rf
  have htab := vx_table (x := yL_wrongBall) B (hts (.codeWith yL_wrongBall cL_wrongBall 5 (some .int) [(0, 10, 13, 23), (0, 10, 17, 15), (0, 10, 21, 17)]) (List.mem_of_getElem? (i := 0) rfl))
  have hl := lv_entry ([.ref h0, .int a1, .int a2, .ref o]) (n := 5) (Nat.le_of_ble_eq_true rfl)
  rw [lg_entry_eq]
  generalize (lg_sl ([.ref h0, .int a1, .int a2, .ref o]) ++ List.replicate (5 - (lg_sl ([.ref h0, .int a1, .int a2, .ref o])).length) Slot.unset).toArray = ls at hl ⊢
  have hl : lv_has ls 5 [(0, .ref h0), (1, .int a1), (2, .int a2), (3, .ref o)] := hl
  refine lv_aload_n hx hb dL_wrongBall_0 rfl (lv_at hl 3 rfl) ?_
  refine lv_iconst (v := 0) hx hb dL_wrongBall_1 (by decide) ?_
  refine lv_aload_n hx hb dL_wrongBall_2 rfl (lv_at hl 0 rfl) ?_
  refine lv_iload_n hx hb dL_wrongBall_3 rfl (lv_at hl 1 rfl) ?_
  refine lv_iload_n hx hb dL_wrongBall_4 rfl (lv_at hl 2 rfl) ?_
  refine vx_calli (vx_runV (As := [.int a1, .int a2]) (rest := [.int 0, .ref o]) ⟨hx, hb, hml, hown, hts⟩ (c_X6_wrongBall l hlT D h0 r s.heap.size a1 a2) (cwV 2 hts gL_wrongBall_X6_wrongBall rfl rfl rfl (by decide +kernel) ⟨Nat.le_of_ble_eq_true rfl, Nat.le_of_ble_eq_true rfl⟩) ⟨fun a U g mk q => ⟨q.1, PX6.blind q.2⟩, va_recv hK hP (ci := 12) (q0 := 0) rfl rfl, fun U hU hW => ⟨rfl, PX6.go hP hK hT hS hA hU hW⟩⟩ rfl rfl hl.1 rfl (lv_room (Nat.le_of_ble_eq_true rfl)) dL_wrongBall_5 ⟨Nat.le_of_ble_eq_true rfl, Nat.le_of_ble_eq_true rfl⟩) hS (fun q _ h => h) (fun q h => h) (fun q _ h => h) (fun E ce q9 u t H1 locs1 ht hvm hpx hB hz hk9 hS hcell hv hcl => ?_) (fun r9 u t H1 locs1 ht hvm hw hB hz1 hk1 hS => hw.elim)
  have hE : E = "java/lang/IndexOutOfBoundsException" := hB
  subst hE
  refine vx_catch (name := "java/lang/IndexOutOfBoundsException") hown [] ⟨0, 10, 13, 23⟩ [⟨0, 10, 17, 15⟩, ⟨0, 10, 21, 17⟩] (htab.trans rfl) (fun z hz => absurd hz List.not_mem_nil) (by decide) (by decide) (hts (.classLink RL 23 "java/lang/IndexOutOfBoundsException") (by decide +kernel)) (va_Nw.use rfl (hT.1 (Cond.castable "java/lang/IndexOutOfBoundsException" "java/lang/IndexOutOfBoundsException") (tf_cast (539, "java/lang/IndexOutOfBoundsException") (by decide +kernel)))) hcell hv hcl ?_
  refine lv_astore (lv' := [(4, .ref q9), (0, .ref h0), (1, .int a1), (2, .int a2), (3, .ref o)]) hx hb dL_wrongBall_13 hl (by decide) rfl (fun ls hl => ?_)
  refine lv_iconst (v := 1) hx hb dL_wrongBall_15 (by decide) ?_
  exact W.iret (v := 1) hx hb hr (fun t ht hW => ⟨⟨1, (), rfl, rfl, trivial⟩, hS.F ht⟩) hS.2.2 dL_wrongBall_16
set_option maxHeartbeats 4000000 in
set_option maxRecDepth 100000 in
theorem c_L_pickUp (l : Launch) (hlT : l.stackTraces = false) (D : va_G) (h0 : Nat) (r : Nat → Nat) (o : Nat) (sz : Nat) (a1 : Int32) : Met l yL_pickUp wsL_pickUp ({ frames := 70, cells := 1, slots := 6, locals := 700 }) (va_Pc [.ref h0, .int a1, .ref o] (PX6 D h0 r sz)) (va_Qi (fun (r9 : Int32) (_ : Unit) => r9 = 1) (fun _ _ => True) (rg0 sz)) 1 6 (rg0 sz) := by
  refine va_MetW (cc := cL_pickUp) (maxL := 4) (ret := (some .int)) (hh := [(0, 9, 12, 23), (0, 9, 15, 15), (0, 9, 18, 17)]) (by decide +kernel) rfl ?_
  intro p e s m args below meth c s₁ B hml hv
  obtain ⟨rfl, hsz, hP, hK, hT⟩ := hv
  have hx := B.exec
  have hb := B.bytes
  have hr := B.returns
  have hts := atoms_spec (ws := wsL_pickUp) B.pre
  have hown : s.vm.findClass RL = some m.cls := findClass_of_methodNamed B.named
  have hlocks := B.notSynchronized
  subst hsz
  have hA : ∀ q : Nat, s.heap.size ≤ q → rg0 s.heap.size q := fun _ h => h
  have hS : va_S (rg0 s.heap.size) s.heap s.heap [] := va_S.rf
  have htab := vx_table (x := yL_pickUp) B (hts (.codeWith yL_pickUp cL_pickUp 4 (some .int) [(0, 9, 12, 23), (0, 9, 15, 15), (0, 9, 18, 17)]) (List.mem_of_getElem? (i := 0) rfl))
  have hl := lv_entry ([.ref h0, .int a1, .ref o]) (n := 4) (Nat.le_of_ble_eq_true rfl)
  rw [lg_entry_eq]
  generalize (lg_sl ([.ref h0, .int a1, .ref o]) ++ List.replicate (4 - (lg_sl ([.ref h0, .int a1, .ref o])).length) Slot.unset).toArray = ls at hl ⊢
  have hl : lv_has ls 4 [(0, .ref h0), (1, .int a1), (2, .ref o)] := hl
  refine lv_aload_n hx hb dL_pickUp_0 rfl (lv_at hl 2 rfl) ?_
  refine lv_iconst (v := 0) hx hb dL_pickUp_1 (by decide) ?_
  refine lv_aload_n hx hb dL_pickUp_2 rfl (lv_at hl 0 rfl) ?_
  refine lv_iload_n hx hb dL_pickUp_3 rfl (lv_at hl 1 rfl) ?_
  refine vx_calli (vx_runV (As := [.int a1]) (rest := [.int 0, .ref o]) ⟨hx, hb, hml, hown, hts⟩ (c_X6_pickUp l hlT D h0 r s.heap.size a1) (cwV 1 hts gL_pickUp_X6_pickUp rfl rfl rfl (by decide +kernel) ⟨Nat.le_of_ble_eq_true rfl, Nat.le_of_ble_eq_true rfl⟩) ⟨fun a U g mk q => ⟨q.1, PX6.blind q.2⟩, va_recv hK hP (ci := 12) (q0 := 0) rfl rfl, fun U hU hW => ⟨rfl, PX6.go hP hK hT hS hA hU hW⟩⟩ rfl rfl hl.1 rfl (lv_room (Nat.le_of_ble_eq_true rfl)) dL_pickUp_4 ⟨Nat.le_of_ble_eq_true rfl, Nat.le_of_ble_eq_true rfl⟩) hS (fun q _ h => h) (fun q h => h) (fun q _ h => h) (fun E ce q9 u t H1 locs1 ht hvm hpx hB hz hk9 hS hcell hv hcl => ?_) (fun r9 u t H1 locs1 ht hvm hw hB hz1 hk1 hS => hw.elim)
  have hE : E = "java/lang/IndexOutOfBoundsException" := hB
  subst hE
  refine vx_catch (name := "java/lang/IndexOutOfBoundsException") hown [] ⟨0, 9, 12, 23⟩ [⟨0, 9, 15, 15⟩, ⟨0, 9, 18, 17⟩] (htab.trans rfl) (fun z hz => absurd hz List.not_mem_nil) (by decide) (by decide) (hts (.classLink RL 23 "java/lang/IndexOutOfBoundsException") (by decide +kernel)) (va_Nw.use rfl (hT.1 (Cond.castable "java/lang/IndexOutOfBoundsException" "java/lang/IndexOutOfBoundsException") (tf_cast (539, "java/lang/IndexOutOfBoundsException") (by decide +kernel)))) hcell hv hcl ?_
  refine lv_astore_n (lv' := [(3, .ref q9), (0, .ref h0), (1, .int a1), (2, .ref o)]) hx hb dL_pickUp_12 rfl hl (by decide) rfl (fun ls hl => ?_)
  refine lv_iconst (v := 1) hx hb dL_pickUp_13 (by decide) ?_
  exact W.iret (v := 1) hx hb hr (fun t ht hW => ⟨⟨1, (), rfl, rfl, trivial⟩, hS.F ht⟩) hS.2.2 dL_pickUp_14
set_option maxHeartbeats 4000000 in
set_option maxRecDepth 100000 in
theorem c_L_suspend (l : Launch) (hlT : l.stackTraces = false) (D : va_G) (h0 : Nat) (r : Nat → Nat) (o : Nat) (sz : Nat) (a1 : Int32) : Met l yL_suspend wsL_suspend ({ frames := 70, cells := 1, slots := 6, locals := 700 }) (va_Pc [.ref h0, .int a1, .ref o] (PX6 D h0 r sz)) (va_Qi (fun (r9 : Int32) (_ : Unit) => r9 = 1) (fun _ _ => True) (rg0 sz)) 1 6 (rg0 sz) := by
  refine va_MetW (cc := cL_suspend) (maxL := 4) (ret := (some .int)) (hh := [(0, 16, 19, 15)]) (by decide +kernel) rfl ?_
  intro p e s m args below meth c s₁ B hml hv
  obtain ⟨rfl, hsz, hP, hK, hT⟩ := hv
  have hx := B.exec
  have hb := B.bytes
  have hr := B.returns
  have hts := atoms_spec (ws := wsL_suspend) B.pre
  have hown : s.vm.findClass RL = some m.cls := findClass_of_methodNamed B.named
  have hlocks := B.notSynchronized
  subst hsz
  have hA : ∀ q : Nat, s.heap.size ≤ q → rg0 s.heap.size q := fun _ h => h
  have hS : va_S (rg0 s.heap.size) s.heap s.heap [] := va_S.rf
  have htab := vx_table (x := yL_suspend) B (hts (.codeWith yL_suspend cL_suspend 4 (some .int) [(0, 16, 19, 15)]) (List.mem_of_getElem? (i := 0) rfl))
  have hl := lv_entry ([.ref h0, .int a1, .ref o]) (n := 4) (Nat.le_of_ble_eq_true rfl)
  rw [lg_entry_eq]
  generalize (lg_sl ([.ref h0, .int a1, .ref o]) ++ List.replicate (4 - (lg_sl ([.ref h0, .int a1, .ref o])).length) Slot.unset).toArray = ls at hl ⊢
  have hl : lv_has ls 4 [(0, .ref h0), (1, .int a1), (2, .ref o)] := hl
  refine lv_aload_n hx hb dL_suspend_0 rfl (lv_at hl 2 rfl) ?_
  refine lv_iconst (v := 0) hx hb dL_suspend_1 (by decide) ?_
  refine lv_aload_n hx hb dL_suspend_2 rfl (lv_at hl 0 rfl) ?_
  refine lv_iload_n hx hb dL_suspend_3 rfl (lv_at hl 1 rfl) ?_
  refine vx_calli (vx_runV (As := [.int a1]) (rest := [.int 0, .ref o]) ⟨hx, hb, hml, hown, hts⟩ (c_X6_suspend l hlT D h0 r s.heap.size a1) (cwV 1 hts gL_suspend_X6_suspend rfl rfl rfl (by decide +kernel) ⟨Nat.le_of_ble_eq_true rfl, Nat.le_of_ble_eq_true rfl⟩) ⟨fun a U g mk q => ⟨q.1, PX6.blind q.2⟩, va_recv hK hP (ci := 12) (q0 := 0) rfl rfl, fun U hU hW => ⟨rfl, PX6.go hP hK hT hS hA hU hW⟩⟩ rfl rfl hl.1 rfl (lv_room (Nat.le_of_ble_eq_true rfl)) dL_suspend_4 ⟨Nat.le_of_ble_eq_true rfl, Nat.le_of_ble_eq_true rfl⟩) hS (fun q _ h => h) (fun q h => h) (fun q _ h => h) (fun E ce q9 u t H1 locs1 ht hvm hpx hB hz hk9 hS hcell hv hcl => ?_) (fun r9 u t H1 locs1 ht hvm hw hB hz1 hk1 hS => hw.elim)
  have hE : E = "java/lang/IllegalStateException" := hB
  subst hE
  refine vx_catch (name := "java/lang/IllegalStateException") hown [] ⟨0, 16, 19, 15⟩ [] (htab.trans rfl) (fun z hz => absurd hz List.not_mem_nil) (by decide) (by decide) (hts (.classLink RL 15 "java/lang/IllegalStateException") (by decide +kernel)) (va_Nw.use rfl (hT.1 (Cond.castable "java/lang/IllegalStateException" "java/lang/IllegalStateException") (tf_cast (69, "java/lang/IllegalStateException") (by decide +kernel)))) hcell hv hcl ?_
  refine lv_astore_n (lv' := [(3, .ref q9), (0, .ref h0), (1, .int a1), (2, .ref o)]) hx hb dL_suspend_19 rfl hl (by decide) rfl (fun ls hl => ?_)
  refine lv_iconst (v := 1) hx hb dL_suspend_20 (by decide) ?_
  exact W.iret (v := 1) hx hb hr (fun t ht hW => ⟨⟨1, (), rfl, rfl, trivial⟩, hS.F ht⟩) hS.2.2 dL_suspend_21
set_option maxHeartbeats 4000000 in
set_option maxRecDepth 100000 in
theorem c_L_cancel (l : Launch) (hlT : l.stackTraces = false) (D : va_G) (h0 : Nat) (r : Nat → Nat) (o : Nat) (sz : Nat) (a1 : Int32) : Met l yL_cancel wsL_cancel ({ frames := 70, cells := 1, slots := 6, locals := 700 }) (va_Pc [.ref h0, .int a1, .ref o] (PX6 D h0 r sz)) (va_Qi (fun (r9 : Int32) (_ : Unit) => r9 = 1) (fun _ _ => True) (rg0 sz)) 1 6 (rg0 sz) := by
  refine va_MetW (cc := cL_cancel) (maxL := 4) (ret := (some .int)) (hh := [(0, 16, 19, 23), (0, 16, 22, 15), (0, 16, 25, 17)]) (by decide +kernel) rfl ?_
  intro p e s m args below meth c s₁ B hml hv
  obtain ⟨rfl, hsz, hP, hK, hT⟩ := hv
  have hx := B.exec
  have hb := B.bytes
  have hr := B.returns
  have hts := atoms_spec (ws := wsL_cancel) B.pre
  have hown : s.vm.findClass RL = some m.cls := findClass_of_methodNamed B.named
  have hlocks := B.notSynchronized
  subst hsz
  have hA : ∀ q : Nat, s.heap.size ≤ q → rg0 s.heap.size q := fun _ h => h
  have hS : va_S (rg0 s.heap.size) s.heap s.heap [] := va_S.rf
  have htab := vx_table (x := yL_cancel) B (hts (.codeWith yL_cancel cL_cancel 4 (some .int) [(0, 16, 19, 23), (0, 16, 22, 15), (0, 16, 25, 17)]) (List.mem_of_getElem? (i := 0) rfl))
  have hl := lv_entry ([.ref h0, .int a1, .ref o]) (n := 4) (Nat.le_of_ble_eq_true rfl)
  rw [lg_entry_eq]
  generalize (lg_sl ([.ref h0, .int a1, .ref o]) ++ List.replicate (4 - (lg_sl ([.ref h0, .int a1, .ref o])).length) Slot.unset).toArray = ls at hl ⊢
  have hl : lv_has ls 4 [(0, .ref h0), (1, .int a1), (2, .ref o)] := hl
  refine lv_aload_n hx hb dL_cancel_0 rfl (lv_at hl 2 rfl) ?_
  refine lv_iconst (v := 0) hx hb dL_cancel_1 (by decide) ?_
  refine lv_aload_n hx hb dL_cancel_2 rfl (lv_at hl 0 rfl) ?_
  refine lv_iload_n hx hb dL_cancel_3 rfl (lv_at hl 1 rfl) ?_
  refine vx_calli (vx_runV (As := [.int a1]) (rest := [.int 0, .ref o]) ⟨hx, hb, hml, hown, hts⟩ (c_X6_cancel l hlT D h0 r s.heap.size a1) (cwV 1 hts gL_cancel_X6_cancel rfl rfl rfl (by decide +kernel) ⟨Nat.le_of_ble_eq_true rfl, Nat.le_of_ble_eq_true rfl⟩) ⟨fun a U g mk q => ⟨q.1, PX6.blind q.2⟩, va_recv hK hP (ci := 12) (q0 := 0) rfl rfl, fun U hU hW => ⟨rfl, PX6.go hP hK hT hS hA hU hW⟩⟩ rfl rfl hl.1 rfl (lv_room (Nat.le_of_ble_eq_true rfl)) dL_cancel_4 ⟨Nat.le_of_ble_eq_true rfl, Nat.le_of_ble_eq_true rfl⟩) hS (fun q _ h => h) (fun q h => h) (fun q _ h => h) (fun E ce q9 u t H1 locs1 ht hvm hpx hB hz hk9 hS hcell hv hcl => ?_) (fun r9 u t H1 locs1 ht hvm hw hB hz1 hk1 hS => hw.elim)
  have hE : E = "java/lang/IndexOutOfBoundsException" := hB
  subst hE
  refine vx_catch (name := "java/lang/IndexOutOfBoundsException") hown [] ⟨0, 16, 19, 23⟩ [⟨0, 16, 22, 15⟩, ⟨0, 16, 25, 17⟩] (htab.trans rfl) (fun z hz => absurd hz List.not_mem_nil) (by decide) (by decide) (hts (.classLink RL 23 "java/lang/IndexOutOfBoundsException") (by decide +kernel)) (va_Nw.use rfl (hT.1 (Cond.castable "java/lang/IndexOutOfBoundsException" "java/lang/IndexOutOfBoundsException") (tf_cast (539, "java/lang/IndexOutOfBoundsException") (by decide +kernel)))) hcell hv hcl ?_
  refine lv_astore_n (lv' := [(3, .ref q9), (0, .ref h0), (1, .int a1), (2, .ref o)]) hx hb dL_cancel_19 rfl hl (by decide) rfl (fun ls hl => ?_)
  refine lv_iconst (v := 1) hx hb dL_cancel_20 (by decide) ?_
  exact W.iret (v := 1) hx hb hr (fun t ht hW => ⟨⟨1, (), rfl, rfl, trivial⟩, hS.F ht⟩) hS.2.2 dL_cancel_21
set_option maxHeartbeats 4000000 in
set_option maxRecDepth 100000 in
theorem c_L_concede (l : Launch) (hlT : l.stackTraces = false) (D : va_G) (h0 : Nat) (r : Nat → Nat) (o : Nat) (sz : Nat) (a1 a2 : Int32) : Met l yL_concede wsL_concede ({ frames := 70, cells := 1, slots := 6, locals := 700 }) (va_Pc [.ref h0, .int a1, .int a2, .ref o] (PX6 D h0 r sz)) (va_Qi (fun (r9 : Int32) (_ : Unit) => r9 = 1) (fun _ _ => True) (rg0 sz)) 1 6 (rg0 sz) := by
  refine va_MetW (cc := cL_concede) (maxL := 5) (ret := (some .int)) (hh := [(0, 10, 13, 23), (0, 10, 17, 13), (0, 10, 21, 15), (0, 10, 25, 17)]) (by decide +kernel) rfl ?_
  intro p e s m args below meth c s₁ B hml hv
  obtain ⟨rfl, hsz, hP, hK, hT⟩ := hv
  have hx := B.exec
  have hb := B.bytes
  have hr := B.returns
  have hts := atoms_spec (ws := wsL_concede) B.pre
  have hown : s.vm.findClass RL = some m.cls := findClass_of_methodNamed B.named
  have hlocks := B.notSynchronized
  subst hsz
  have hA : ∀ q : Nat, s.heap.size ≤ q → rg0 s.heap.size q := fun _ h => h
  have hS : va_S (rg0 s.heap.size) s.heap s.heap [] := va_S.rf
  have htab := vx_table (x := yL_concede) B (hts (.codeWith yL_concede cL_concede 5 (some .int) [(0, 10, 13, 23), (0, 10, 17, 13), (0, 10, 21, 15), (0, 10, 25, 17)]) (List.mem_of_getElem? (i := 0) rfl))
  have hl := lv_entry ([.ref h0, .int a1, .int a2, .ref o]) (n := 5) (Nat.le_of_ble_eq_true rfl)
  rw [lg_entry_eq]
  generalize (lg_sl ([.ref h0, .int a1, .int a2, .ref o]) ++ List.replicate (5 - (lg_sl ([.ref h0, .int a1, .int a2, .ref o])).length) Slot.unset).toArray = ls at hl ⊢
  have hl : lv_has ls 5 [(0, .ref h0), (1, .int a1), (2, .int a2), (3, .ref o)] := hl
  refine lv_aload_n hx hb dL_concede_0 rfl (lv_at hl 3 rfl) ?_
  refine lv_iconst (v := 0) hx hb dL_concede_1 (by decide) ?_
  refine lv_aload_n hx hb dL_concede_2 rfl (lv_at hl 0 rfl) ?_
  refine lv_iload_n hx hb dL_concede_3 rfl (lv_at hl 1 rfl) ?_
  refine lv_iload_n hx hb dL_concede_4 rfl (lv_at hl 2 rfl) ?_
  refine vx_calli (vx_runV (As := [.int a1, .int a2]) (rest := [.int 0, .ref o]) ⟨hx, hb, hml, hown, hts⟩ (c_X6_concede l hlT D h0 r s.heap.size a1 a2) (cwV 2 hts gL_concede_X6_concede rfl rfl rfl (by decide +kernel) ⟨Nat.le_of_ble_eq_true rfl, Nat.le_of_ble_eq_true rfl⟩) ⟨fun a U g mk q => ⟨q.1, PX6.blind q.2⟩, va_recv hK hP (ci := 12) (q0 := 0) rfl rfl, fun U hU hW => ⟨rfl, PX6.go hP hK hT hS hA hU hW⟩⟩ rfl rfl hl.1 rfl (lv_room (Nat.le_of_ble_eq_true rfl)) dL_concede_5 ⟨Nat.le_of_ble_eq_true rfl, Nat.le_of_ble_eq_true rfl⟩) hS (fun q _ h => h) (fun q h => h) (fun q _ h => h) (fun E ce q9 u t H1 locs1 ht hvm hpx hB hz hk9 hS hcell hv hcl => ?_) (fun r9 u t H1 locs1 ht hvm hw hB hz1 hk1 hS => hw.elim)
  have hE : E = "java/lang/IndexOutOfBoundsException" := hB
  subst hE
  refine vx_catch (name := "java/lang/IndexOutOfBoundsException") hown [] ⟨0, 10, 13, 23⟩ [⟨0, 10, 17, 13⟩, ⟨0, 10, 21, 15⟩, ⟨0, 10, 25, 17⟩] (htab.trans rfl) (fun z hz => absurd hz List.not_mem_nil) (by decide) (by decide) (hts (.classLink RL 23 "java/lang/IndexOutOfBoundsException") (by decide +kernel)) (va_Nw.use rfl (hT.1 (Cond.castable "java/lang/IndexOutOfBoundsException" "java/lang/IndexOutOfBoundsException") (tf_cast (539, "java/lang/IndexOutOfBoundsException") (by decide +kernel)))) hcell hv hcl ?_
  refine lv_astore (lv' := [(4, .ref q9), (0, .ref h0), (1, .int a1), (2, .int a2), (3, .ref o)]) hx hb dL_concede_13 hl (by decide) rfl (fun ls hl => ?_)
  refine lv_iconst (v := 1) hx hb dL_concede_15 (by decide) ?_
  exact W.iret (v := 1) hx hb hr (fun t ht hW => ⟨⟨1, (), rfl, rfl, trivial⟩, hS.F ht⟩) hS.2.2 dL_concede_16
set_option maxHeartbeats 4000000 in
set_option maxRecDepth 100000 in
theorem c_L_nextHole (l : Launch) (hlT : l.stackTraces = false) (D : va_G) (h0 : Nat) (r : Nat → Nat) (o : Nat) (sz : Nat) : Met l yL_nextHole wsL_nextHole ({ frames := 70, cells := 1, slots := 6, locals := 700 }) (va_Pc [.ref h0, .ref o] (PX6 D h0 r sz)) (va_Qi (fun (r9 : Int32) (_ : Unit) => r9 = 1) (fun _ _ => True) (rg0 sz)) 1 6 (rg0 sz) := by
  refine va_MetW (cc := cL_nextHole) (maxL := 3) (ret := (some .int)) (hh := [(0, 8, 11, 15), (0, 8, 14, 17)]) (by decide +kernel) rfl ?_
  intro p e s m args below meth c s₁ B hml hv
  obtain ⟨rfl, hsz, hP, hK, hT⟩ := hv
  have hx := B.exec
  have hb := B.bytes
  have hr := B.returns
  have hts := atoms_spec (ws := wsL_nextHole) B.pre
  have hown : s.vm.findClass RL = some m.cls := findClass_of_methodNamed B.named
  have hlocks := B.notSynchronized
  subst hsz
  have hA : ∀ q : Nat, s.heap.size ≤ q → rg0 s.heap.size q := fun _ h => h
  have hS : va_S (rg0 s.heap.size) s.heap s.heap [] := va_S.rf
  have htab := vx_table (x := yL_nextHole) B (hts (.codeWith yL_nextHole cL_nextHole 3 (some .int) [(0, 8, 11, 15), (0, 8, 14, 17)]) (List.mem_of_getElem? (i := 0) rfl))
  have hl := lv_entry ([.ref h0, .ref o]) (n := 3) (Nat.le_of_ble_eq_true rfl)
  rw [lg_entry_eq]
  generalize (lg_sl ([.ref h0, .ref o]) ++ List.replicate (3 - (lg_sl ([.ref h0, .ref o])).length) Slot.unset).toArray = ls at hl ⊢
  have hl : lv_has ls 3 [(0, .ref h0), (1, .ref o)] := hl
  refine lv_aload_n hx hb dL_nextHole_0 rfl (lv_at hl 1 rfl) ?_
  refine lv_iconst (v := 0) hx hb dL_nextHole_1 (by decide) ?_
  refine lv_aload_n hx hb dL_nextHole_2 rfl (lv_at hl 0 rfl) ?_
  refine vx_calli (vx_runV (As := []) (rest := [.int 0, .ref o]) ⟨hx, hb, hml, hown, hts⟩ (c_X6_nextHole l hlT D h0 r s.heap.size) (cwV 0 hts gL_nextHole_X6_nextHole rfl rfl rfl (by decide +kernel) ⟨Nat.le_of_ble_eq_true rfl, Nat.le_of_ble_eq_true rfl⟩) ⟨fun a U g mk q => ⟨q.1, PX6.blind q.2⟩, va_recv hK hP (ci := 12) (q0 := 0) rfl rfl, fun U hU hW => ⟨rfl, PX6.go hP hK hT hS hA hU hW⟩⟩ rfl rfl hl.1 rfl (lv_room (Nat.le_of_ble_eq_true rfl)) dL_nextHole_3 ⟨Nat.le_of_ble_eq_true rfl, Nat.le_of_ble_eq_true rfl⟩) hS (fun q _ h => h) (fun q h => h) (fun q _ h => h) (fun E ce q9 u t H1 locs1 ht hvm hpx hB hz hk9 hS hcell hv hcl => ?_) (fun r9 u t H1 locs1 ht hvm hw hB hz1 hk1 hS => hw.elim)
  have hE : E = "java/lang/IllegalStateException" := hB
  subst hE
  refine vx_catch (name := "java/lang/IllegalStateException") hown [] ⟨0, 8, 11, 15⟩ [⟨0, 8, 14, 17⟩] (htab.trans rfl) (fun z hz => absurd hz List.not_mem_nil) (by decide) (by decide) (hts (.classLink RL 15 "java/lang/IllegalStateException") (by decide +kernel)) (va_Nw.use rfl (hT.1 (Cond.castable "java/lang/IllegalStateException" "java/lang/IllegalStateException") (tf_cast (69, "java/lang/IllegalStateException") (by decide +kernel)))) hcell hv hcl ?_
  refine lv_astore_n (lv' := [(2, .ref q9), (0, .ref h0), (1, .ref o)]) hx hb dL_nextHole_11 rfl hl (by decide) rfl (fun ls hl => ?_)
  refine lv_iconst (v := 1) hx hb dL_nextHole_12 (by decide) ?_
  exact W.iret (v := 1) hx hb hr (fun t ht hW => ⟨⟨1, (), rfl, rfl, trivial⟩, hS.F ht⟩) hS.2.2 dL_nextHole_13
set_option maxHeartbeats 4000000 in
set_option maxRecDepth 100000 in
theorem c_L_state (l : Launch) (hlT : l.stackTraces = false) (D : va_G) (h0 : Nat) (r : Nat → Nat) (o : Nat) (sz : Nat) (a1 : Int32) : Met l yL_state wsL_state ({ frames := 70, cells := 1, slots := 6, locals := 700 }) (va_Pc [.ref h0, .int a1, .ref o] (PX6 D h0 r sz)) (va_Qi (fun (r9 : Int32) (_ : Unit) => r9 = 1) (fun _ _ => True) (rg0 sz)) 1 6 (rg0 sz) := by
  refine va_MetW (cc := cL_state) (maxL := 4) (ret := (some .int)) (hh := [(0, 9, 12, 23), (0, 9, 15, 15)]) (by decide +kernel) rfl ?_
  intro p e s m args below meth c s₁ B hml hv
  obtain ⟨rfl, hsz, hP, hK, hT⟩ := hv
  have hx := B.exec
  have hb := B.bytes
  have hr := B.returns
  have hts := atoms_spec (ws := wsL_state) B.pre
  have hown : s.vm.findClass RL = some m.cls := findClass_of_methodNamed B.named
  have hlocks := B.notSynchronized
  subst hsz
  have hA : ∀ q : Nat, s.heap.size ≤ q → rg0 s.heap.size q := fun _ h => h
  have hS : va_S (rg0 s.heap.size) s.heap s.heap [] := va_S.rf
  have htab := vx_table (x := yL_state) B (hts (.codeWith yL_state cL_state 4 (some .int) [(0, 9, 12, 23), (0, 9, 15, 15)]) (List.mem_of_getElem? (i := 0) rfl))
  have hl := lv_entry ([.ref h0, .int a1, .ref o]) (n := 4) (Nat.le_of_ble_eq_true rfl)
  rw [lg_entry_eq]
  generalize (lg_sl ([.ref h0, .int a1, .ref o]) ++ List.replicate (4 - (lg_sl ([.ref h0, .int a1, .ref o])).length) Slot.unset).toArray = ls at hl ⊢
  have hl : lv_has ls 4 [(0, .ref h0), (1, .int a1), (2, .ref o)] := hl
  refine lv_aload_n hx hb dL_state_0 rfl (lv_at hl 2 rfl) ?_
  refine lv_iconst (v := 0) hx hb dL_state_1 (by decide) ?_
  refine lv_aload_n hx hb dL_state_2 rfl (lv_at hl 0 rfl) ?_
  refine lv_iload_n hx hb dL_state_3 rfl (lv_at hl 1 rfl) ?_
  refine vx_calli (vx_runV (As := [.int a1]) (rest := [.int 0, .ref o]) ⟨hx, hb, hml, hown, hts⟩ (c_X6_state l hlT D h0 r s.heap.size a1) (cwV 1 hts gL_state_X6_state rfl rfl rfl (by decide +kernel) ⟨Nat.le_of_ble_eq_true rfl, Nat.le_of_ble_eq_true rfl⟩) ⟨fun a U g mk q => ⟨q.1, PX6.blind q.2⟩, va_recv hK hP (ci := 12) (q0 := 0) rfl rfl, fun U hU hW => ⟨rfl, PX6.go hP hK hT hS hA hU hW⟩⟩ rfl rfl hl.1 rfl (lv_room (Nat.le_of_ble_eq_true rfl)) dL_state_4 ⟨Nat.le_of_ble_eq_true rfl, Nat.le_of_ble_eq_true rfl⟩) hS (fun q _ h => h) (fun q h => h) (fun q _ h => h) (fun E ce q9 u t H1 locs1 ht hvm hpx hB hz hk9 hS hcell hv hcl => ?_) (fun r9 u t H1 locs1 ht hvm hw hB hz1 hk1 hS => hw.elim)
  have hE : E = "java/lang/IndexOutOfBoundsException" := hB
  subst hE
  refine vx_catch (name := "java/lang/IndexOutOfBoundsException") hown [] ⟨0, 9, 12, 23⟩ [⟨0, 9, 15, 15⟩] (htab.trans rfl) (fun z hz => absurd hz List.not_mem_nil) (by decide) (by decide) (hts (.classLink RL 23 "java/lang/IndexOutOfBoundsException") (by decide +kernel)) (va_Nw.use rfl (hT.1 (Cond.castable "java/lang/IndexOutOfBoundsException" "java/lang/IndexOutOfBoundsException") (tf_cast (539, "java/lang/IndexOutOfBoundsException") (by decide +kernel)))) hcell hv hcl ?_
  refine lv_astore_n (lv' := [(3, .ref q9), (0, .ref h0), (1, .int a1), (2, .ref o)]) hx hb dL_state_12 rfl hl (by decide) rfl (fun ls hl => ?_)
  refine lv_iconst (v := 1) hx hb dL_state_13 (by decide) ?_
  exact W.iret (v := 1) hx hb hr (fun t ht hW => ⟨⟨1, (), rfl, rfl, trivial⟩, hS.F ht⟩) hS.2.2 dL_state_14
set_option maxHeartbeats 4000000 in
set_option maxRecDepth 100000 in
theorem c_L_lie (l : Launch) (hlT : l.stackTraces = false) (D : va_G) (h0 : Nat) (r : Nat → Nat) (o : Nat) (sz : Nat) (a1 a2 : Int32) : Met l yL_lie wsL_lie ({ frames := 70, cells := 1, slots := 6, locals := 700 }) (va_Pc [.ref h0, .int a1, .int a2, .ref o] (PX6 D h0 r sz)) (va_Qi (fun (r9 : Int32) (_ : Unit) => r9 = 1) (fun _ _ => True) (rg0 sz)) 1 6 (rg0 sz) := by
  refine va_MetW (cc := cL_lie) (maxL := 5) (ret := (some .int)) (hh := [(0, 10, 13, 23), (0, 10, 17, 15), (0, 10, 21, 54)]) (by decide +kernel) rfl ?_
  intro p e s m args below meth c s₁ B hml hv
  obtain ⟨rfl, hsz, hP, hK, hT⟩ := hv
  have hx := B.exec
  have hb := B.bytes
  have hr := B.returns
  have hts := atoms_spec (ws := wsL_lie) B.pre
  have hown : s.vm.findClass RL = some m.cls := findClass_of_methodNamed B.named
  have hlocks := B.notSynchronized
  subst hsz
  have hA : ∀ q : Nat, s.heap.size ≤ q → rg0 s.heap.size q := fun _ h => h
  have hS : va_S (rg0 s.heap.size) s.heap s.heap [] := va_S.rf
  have htab := vx_table (x := yL_lie) B (hts (.codeWith yL_lie cL_lie 5 (some .int) [(0, 10, 13, 23), (0, 10, 17, 15), (0, 10, 21, 54)]) (List.mem_of_getElem? (i := 0) rfl))
  have hl := lv_entry ([.ref h0, .int a1, .int a2, .ref o]) (n := 5) (Nat.le_of_ble_eq_true rfl)
  rw [lg_entry_eq]
  generalize (lg_sl ([.ref h0, .int a1, .int a2, .ref o]) ++ List.replicate (5 - (lg_sl ([.ref h0, .int a1, .int a2, .ref o])).length) Slot.unset).toArray = ls at hl ⊢
  have hl : lv_has ls 5 [(0, .ref h0), (1, .int a1), (2, .int a2), (3, .ref o)] := hl
  refine lv_aload_n hx hb dL_lie_0 rfl (lv_at hl 3 rfl) ?_
  refine lv_iconst (v := 0) hx hb dL_lie_1 (by decide) ?_
  refine lv_aload_n hx hb dL_lie_2 rfl (lv_at hl 0 rfl) ?_
  refine lv_iload_n hx hb dL_lie_3 rfl (lv_at hl 1 rfl) ?_
  refine lv_iload_n hx hb dL_lie_4 rfl (lv_at hl 2 rfl) ?_
  refine vx_calli (vx_runV (As := [.int a1, .int a2]) (rest := [.int 0, .ref o]) ⟨hx, hb, hml, hown, hts⟩ (c_X6_lie l hlT D h0 r s.heap.size a1 a2) (cwV 2 hts gL_lie_X6_lie rfl rfl rfl (by decide +kernel) ⟨Nat.le_of_ble_eq_true rfl, Nat.le_of_ble_eq_true rfl⟩) ⟨fun a U g mk q => ⟨q.1, PX6.blind q.2⟩, va_recv hK hP (ci := 12) (q0 := 0) rfl rfl, fun U hU hW => ⟨rfl, PX6.go hP hK hT hS hA hU hW⟩⟩ rfl rfl hl.1 rfl (lv_room (Nat.le_of_ble_eq_true rfl)) dL_lie_5 ⟨Nat.le_of_ble_eq_true rfl, Nat.le_of_ble_eq_true rfl⟩) hS (fun q _ h => h) (fun q h => h) (fun q _ h => h) (fun E ce q9 u t H1 locs1 ht hvm hpx hB hz hk9 hS hcell hv hcl => ?_) (fun r9 u t H1 locs1 ht hvm hw hB hz1 hk1 hS => hw.elim)
  have hE : E = "java/lang/IndexOutOfBoundsException" := hB
  subst hE
  refine vx_catch (name := "java/lang/IndexOutOfBoundsException") hown [] ⟨0, 10, 13, 23⟩ [⟨0, 10, 17, 15⟩, ⟨0, 10, 21, 54⟩] (htab.trans rfl) (fun z hz => absurd hz List.not_mem_nil) (by decide) (by decide) (hts (.classLink RL 23 "java/lang/IndexOutOfBoundsException") (by decide +kernel)) (va_Nw.use rfl (hT.1 (Cond.castable "java/lang/IndexOutOfBoundsException" "java/lang/IndexOutOfBoundsException") (tf_cast (539, "java/lang/IndexOutOfBoundsException") (by decide +kernel)))) hcell hv hcl ?_
  refine lv_astore (lv' := [(4, .ref q9), (0, .ref h0), (1, .int a1), (2, .int a2), (3, .ref o)]) hx hb dL_lie_13 hl (by decide) rfl (fun ls hl => ?_)
  refine lv_iconst (v := 1) hx hb dL_lie_15 (by decide) ?_
  exact W.iret (v := 1) hx hb hr (fun t ht hW => ⟨⟨1, (), rfl, rfl, trivial⟩, hS.F ht⟩) hS.2.2 dL_lie_16
set_option maxHeartbeats 4000000 in
set_option maxRecDepth 100000 in
theorem c_L_strokes (l : Launch) (hlT : l.stackTraces = false) (D : va_G) (h0 : Nat) (r : Nat → Nat) (o : Nat) (sz : Nat) (a1 : Int32) : Met l yL_strokes wsL_strokes ({ frames := 70, cells := 1, slots := 6, locals := 700 }) (va_Pc [.ref h0, .int a1, .ref o] (PX6 D h0 r sz)) (va_Qi (fun (r9 : Int32) (_ : Unit) => r9 = 1) (fun _ _ => True) (rg0 sz)) 1 6 (rg0 sz) := by
  refine va_MetW (cc := cL_strokes) (maxL := 4) (ret := (some .int)) (hh := [(0, 9, 12, 23), (0, 9, 15, 15)]) (by decide +kernel) rfl ?_
  intro p e s m args below meth c s₁ B hml hv
  obtain ⟨rfl, hsz, hP, hK, hT⟩ := hv
  have hx := B.exec
  have hb := B.bytes
  have hr := B.returns
  have hts := atoms_spec (ws := wsL_strokes) B.pre
  have hown : s.vm.findClass RL = some m.cls := findClass_of_methodNamed B.named
  have hlocks := B.notSynchronized
  subst hsz
  have hA : ∀ q : Nat, s.heap.size ≤ q → rg0 s.heap.size q := fun _ h => h
  have hS : va_S (rg0 s.heap.size) s.heap s.heap [] := va_S.rf
  have htab := vx_table (x := yL_strokes) B (hts (.codeWith yL_strokes cL_strokes 4 (some .int) [(0, 9, 12, 23), (0, 9, 15, 15)]) (List.mem_of_getElem? (i := 0) rfl))
  have hl := lv_entry ([.ref h0, .int a1, .ref o]) (n := 4) (Nat.le_of_ble_eq_true rfl)
  rw [lg_entry_eq]
  generalize (lg_sl ([.ref h0, .int a1, .ref o]) ++ List.replicate (4 - (lg_sl ([.ref h0, .int a1, .ref o])).length) Slot.unset).toArray = ls at hl ⊢
  have hl : lv_has ls 4 [(0, .ref h0), (1, .int a1), (2, .ref o)] := hl
  refine lv_aload_n hx hb dL_strokes_0 rfl (lv_at hl 2 rfl) ?_
  refine lv_iconst (v := 0) hx hb dL_strokes_1 (by decide) ?_
  refine lv_aload_n hx hb dL_strokes_2 rfl (lv_at hl 0 rfl) ?_
  refine lv_iload_n hx hb dL_strokes_3 rfl (lv_at hl 1 rfl) ?_
  refine vx_calli (vx_runV (As := [.int a1]) (rest := [.int 0, .ref o]) ⟨hx, hb, hml, hown, hts⟩ (c_X6_strokes l hlT D h0 r s.heap.size a1) (cwV 1 hts gL_strokes_X6_strokes rfl rfl rfl (by decide +kernel) ⟨Nat.le_of_ble_eq_true rfl, Nat.le_of_ble_eq_true rfl⟩) ⟨fun a U g mk q => ⟨q.1, PX6.blind q.2⟩, va_recv hK hP (ci := 12) (q0 := 0) rfl rfl, fun U hU hW => ⟨rfl, PX6.go hP hK hT hS hA hU hW⟩⟩ rfl rfl hl.1 rfl (lv_room (Nat.le_of_ble_eq_true rfl)) dL_strokes_4 ⟨Nat.le_of_ble_eq_true rfl, Nat.le_of_ble_eq_true rfl⟩) hS (fun q _ h => h) (fun q h => h) (fun q _ h => h) (fun E ce q9 u t H1 locs1 ht hvm hpx hB hz hk9 hS hcell hv hcl => ?_) (fun r9 u t H1 locs1 ht hvm hw hB hz1 hk1 hS => hw.elim)
  have hE : E = "java/lang/IndexOutOfBoundsException" := hB
  subst hE
  refine vx_catch (name := "java/lang/IndexOutOfBoundsException") hown [] ⟨0, 9, 12, 23⟩ [⟨0, 9, 15, 15⟩] (htab.trans rfl) (fun z hz => absurd hz List.not_mem_nil) (by decide) (by decide) (hts (.classLink RL 23 "java/lang/IndexOutOfBoundsException") (by decide +kernel)) (va_Nw.use rfl (hT.1 (Cond.castable "java/lang/IndexOutOfBoundsException" "java/lang/IndexOutOfBoundsException") (tf_cast (539, "java/lang/IndexOutOfBoundsException") (by decide +kernel)))) hcell hv hcl ?_
  refine lv_astore_n (lv' := [(3, .ref q9), (0, .ref h0), (1, .int a1), (2, .ref o)]) hx hb dL_strokes_12 rfl hl (by decide) rfl (fun ls hl => ?_)
  refine lv_iconst (v := 1) hx hb dL_strokes_13 (by decide) ?_
  exact W.iret (v := 1) hx hb hr (fun t ht hW => ⟨⟨1, (), rfl, rfl, trivial⟩, hS.F ht⟩) hS.2.2 dL_strokes_14
set_option maxHeartbeats 4000000 in
set_option maxRecDepth 100000 in
theorem c_L_penalties (l : Launch) (hlT : l.stackTraces = false) (D : va_G) (h0 : Nat) (r : Nat → Nat) (o : Nat) (sz : Nat) (a1 : Int32) : Met l yL_penalties wsL_penalties ({ frames := 70, cells := 1, slots := 6, locals := 700 }) (va_Pc [.ref h0, .int a1, .ref o] (PX6 D h0 r sz)) (va_Qi (fun (r9 : Int32) (_ : Unit) => r9 = 1) (fun _ _ => True) (rg0 sz)) 1 6 (rg0 sz) := by
  refine va_MetW (cc := cL_penalties) (maxL := 4) (ret := (some .int)) (hh := [(0, 9, 12, 23), (0, 9, 15, 15)]) (by decide +kernel) rfl ?_
  intro p e s m args below meth c s₁ B hml hv
  obtain ⟨rfl, hsz, hP, hK, hT⟩ := hv
  have hx := B.exec
  have hb := B.bytes
  have hr := B.returns
  have hts := atoms_spec (ws := wsL_penalties) B.pre
  have hown : s.vm.findClass RL = some m.cls := findClass_of_methodNamed B.named
  have hlocks := B.notSynchronized
  subst hsz
  have hA : ∀ q : Nat, s.heap.size ≤ q → rg0 s.heap.size q := fun _ h => h
  have hS : va_S (rg0 s.heap.size) s.heap s.heap [] := va_S.rf
  have htab := vx_table (x := yL_penalties) B (hts (.codeWith yL_penalties cL_penalties 4 (some .int) [(0, 9, 12, 23), (0, 9, 15, 15)]) (List.mem_of_getElem? (i := 0) rfl))
  have hl := lv_entry ([.ref h0, .int a1, .ref o]) (n := 4) (Nat.le_of_ble_eq_true rfl)
  rw [lg_entry_eq]
  generalize (lg_sl ([.ref h0, .int a1, .ref o]) ++ List.replicate (4 - (lg_sl ([.ref h0, .int a1, .ref o])).length) Slot.unset).toArray = ls at hl ⊢
  have hl : lv_has ls 4 [(0, .ref h0), (1, .int a1), (2, .ref o)] := hl
  refine lv_aload_n hx hb dL_penalties_0 rfl (lv_at hl 2 rfl) ?_
  refine lv_iconst (v := 0) hx hb dL_penalties_1 (by decide) ?_
  refine lv_aload_n hx hb dL_penalties_2 rfl (lv_at hl 0 rfl) ?_
  refine lv_iload_n hx hb dL_penalties_3 rfl (lv_at hl 1 rfl) ?_
  refine vx_calli (vx_runV (As := [.int a1]) (rest := [.int 0, .ref o]) ⟨hx, hb, hml, hown, hts⟩ (c_X6_penalties l hlT D h0 r s.heap.size a1) (cwV 1 hts gL_penalties_X6_penalties rfl rfl rfl (by decide +kernel) ⟨Nat.le_of_ble_eq_true rfl, Nat.le_of_ble_eq_true rfl⟩) ⟨fun a U g mk q => ⟨q.1, PX6.blind q.2⟩, va_recv hK hP (ci := 12) (q0 := 0) rfl rfl, fun U hU hW => ⟨rfl, PX6.go hP hK hT hS hA hU hW⟩⟩ rfl rfl hl.1 rfl (lv_room (Nat.le_of_ble_eq_true rfl)) dL_penalties_4 ⟨Nat.le_of_ble_eq_true rfl, Nat.le_of_ble_eq_true rfl⟩) hS (fun q _ h => h) (fun q h => h) (fun q _ h => h) (fun E ce q9 u t H1 locs1 ht hvm hpx hB hz hk9 hS hcell hv hcl => ?_) (fun r9 u t H1 locs1 ht hvm hw hB hz1 hk1 hS => hw.elim)
  have hE : E = "java/lang/IndexOutOfBoundsException" := hB
  subst hE
  refine vx_catch (name := "java/lang/IndexOutOfBoundsException") hown [] ⟨0, 9, 12, 23⟩ [⟨0, 9, 15, 15⟩] (htab.trans rfl) (fun z hz => absurd hz List.not_mem_nil) (by decide) (by decide) (hts (.classLink RL 23 "java/lang/IndexOutOfBoundsException") (by decide +kernel)) (va_Nw.use rfl (hT.1 (Cond.castable "java/lang/IndexOutOfBoundsException" "java/lang/IndexOutOfBoundsException") (tf_cast (539, "java/lang/IndexOutOfBoundsException") (by decide +kernel)))) hcell hv hcl ?_
  refine lv_astore_n (lv' := [(3, .ref q9), (0, .ref h0), (1, .int a1), (2, .ref o)]) hx hb dL_penalties_12 rfl hl (by decide) rfl (fun ls hl => ?_)
  refine lv_iconst (v := 1) hx hb dL_penalties_13 (by decide) ?_
  exact W.iret (v := 1) hx hb hr (fun t ht hW => ⟨⟨1, (), rfl, rfl, trivial⟩, hS.F ht⟩) hS.2.2 dL_penalties_14
set_option maxHeartbeats 4000000 in
set_option maxRecDepth 100000 in
theorem c_L_isOut (l : Launch) (hlT : l.stackTraces = false) (D : va_G) (h0 : Nat) (r : Nat → Nat) (o : Nat) (sz : Nat) (a1 : Int32) : Met l yL_isOut wsL_isOut ({ frames := 70, cells := 1, slots := 6, locals := 700 }) (va_Pc [.ref h0, .int a1, .ref o] (PX6 D h0 r sz)) (va_Qi (fun (r9 : Int32) (_ : Unit) => r9 = 1) (fun _ _ => True) (rg0 sz)) 1 6 (rg0 sz) := by
  refine va_MetW (cc := cL_isOut) (maxL := 4) (ret := (some .int)) (hh := [(0, 16, 19, 23)]) (by decide +kernel) rfl ?_
  intro p e s m args below meth c s₁ B hml hv
  obtain ⟨rfl, hsz, hP, hK, hT⟩ := hv
  have hx := B.exec
  have hb := B.bytes
  have hr := B.returns
  have hts := atoms_spec (ws := wsL_isOut) B.pre
  have hown : s.vm.findClass RL = some m.cls := findClass_of_methodNamed B.named
  have hlocks := B.notSynchronized
  subst hsz
  have hA : ∀ q : Nat, s.heap.size ≤ q → rg0 s.heap.size q := fun _ h => h
  have hS : va_S (rg0 s.heap.size) s.heap s.heap [] := va_S.rf
  have htab := vx_table (x := yL_isOut) B (hts (.codeWith yL_isOut cL_isOut 4 (some .int) [(0, 16, 19, 23)]) (List.mem_of_getElem? (i := 0) rfl))
  have hl := lv_entry ([.ref h0, .int a1, .ref o]) (n := 4) (Nat.le_of_ble_eq_true rfl)
  rw [lg_entry_eq]
  generalize (lg_sl ([.ref h0, .int a1, .ref o]) ++ List.replicate (4 - (lg_sl ([.ref h0, .int a1, .ref o])).length) Slot.unset).toArray = ls at hl ⊢
  have hl : lv_has ls 4 [(0, .ref h0), (1, .int a1), (2, .ref o)] := hl
  refine lv_aload_n hx hb dL_isOut_0 rfl (lv_at hl 2 rfl) ?_
  refine lv_iconst (v := 0) hx hb dL_isOut_1 (by decide) ?_
  refine lv_aload_n hx hb dL_isOut_2 rfl (lv_at hl 0 rfl) ?_
  refine lv_iload_n hx hb dL_isOut_3 rfl (lv_at hl 1 rfl) ?_
  refine vx_calli (vx_runV (As := [.int a1]) (rest := [.int 0, .ref o]) ⟨hx, hb, hml, hown, hts⟩ (c_X6_isOut l hlT D h0 r s.heap.size a1) (cwV 1 hts gL_isOut_X6_isOut rfl rfl rfl (by decide +kernel) ⟨Nat.le_of_ble_eq_true rfl, Nat.le_of_ble_eq_true rfl⟩) ⟨fun a U g mk q => ⟨q.1, PX6.blind q.2⟩, va_recv hK hP (ci := 12) (q0 := 0) rfl rfl, fun U hU hW => ⟨rfl, PX6.go hP hK hT hS hA hU hW⟩⟩ rfl rfl hl.1 rfl (lv_room (Nat.le_of_ble_eq_true rfl)) dL_isOut_4 ⟨Nat.le_of_ble_eq_true rfl, Nat.le_of_ble_eq_true rfl⟩) hS (fun q _ h => h) (fun q h => h) (fun q _ h => h) (fun E ce q9 u t H1 locs1 ht hvm hpx hB hz hk9 hS hcell hv hcl => ?_) (fun r9 u t H1 locs1 ht hvm hw hB hz1 hk1 hS => hw.elim)
  have hE : E = "java/lang/IndexOutOfBoundsException" := hB
  subst hE
  refine vx_catch (name := "java/lang/IndexOutOfBoundsException") hown [] ⟨0, 16, 19, 23⟩ [] (htab.trans rfl) (fun z hz => absurd hz List.not_mem_nil) (by decide) (by decide) (hts (.classLink RL 23 "java/lang/IndexOutOfBoundsException") (by decide +kernel)) (va_Nw.use rfl (hT.1 (Cond.castable "java/lang/IndexOutOfBoundsException" "java/lang/IndexOutOfBoundsException") (tf_cast (539, "java/lang/IndexOutOfBoundsException") (by decide +kernel)))) hcell hv hcl ?_
  refine lv_astore_n (lv' := [(3, .ref q9), (0, .ref h0), (1, .int a1), (2, .ref o)]) hx hb dL_isOut_19 rfl hl (by decide) rfl (fun ls hl => ?_)
  refine lv_iconst (v := 1) hx hb dL_isOut_20 (by decide) ?_
  exact W.iret (v := 1) hx hb hr (fun t ht hW => ⟨⟨1, (), rfl, rfl, trivial⟩, hS.F ht⟩) hS.2.2 dL_isOut_21
set_option maxHeartbeats 4000000 in
set_option maxRecDepth 100000 in
theorem c_L_score (l : Launch) (hlT : l.stackTraces = false) (D : va_G) (h0 : Nat) (r : Nat → Nat) (o : Nat) (sz : Nat) (a1 a2 : Int32) : Met l yL_score wsL_score ({ frames := 70, cells := 1, slots := 6, locals := 700 }) (va_Pc [.ref h0, .int a1, .int a2, .ref o] (PX6 D h0 r sz)) (va_Qi (fun (r9 : Int32) (_ : Unit) => r9 = 1) (fun _ _ => True) (rg0 sz)) 1 6 (rg0 sz) := by
  refine va_MetW (cc := cL_score) (maxL := 5) (ret := (some .int)) (hh := [(0, 10, 13, 23), (0, 10, 17, 54)]) (by decide +kernel) rfl ?_
  intro p e s m args below meth c s₁ B hml hv
  obtain ⟨rfl, hsz, hP, hK, hT⟩ := hv
  have hx := B.exec
  have hb := B.bytes
  have hr := B.returns
  have hts := atoms_spec (ws := wsL_score) B.pre
  have hown : s.vm.findClass RL = some m.cls := findClass_of_methodNamed B.named
  have hlocks := B.notSynchronized
  subst hsz
  have hA : ∀ q : Nat, s.heap.size ≤ q → rg0 s.heap.size q := fun _ h => h
  have hS : va_S (rg0 s.heap.size) s.heap s.heap [] := va_S.rf
  have htab := vx_table (x := yL_score) B (hts (.codeWith yL_score cL_score 5 (some .int) [(0, 10, 13, 23), (0, 10, 17, 54)]) (List.mem_of_getElem? (i := 0) rfl))
  have hl := lv_entry ([.ref h0, .int a1, .int a2, .ref o]) (n := 5) (Nat.le_of_ble_eq_true rfl)
  rw [lg_entry_eq]
  generalize (lg_sl ([.ref h0, .int a1, .int a2, .ref o]) ++ List.replicate (5 - (lg_sl ([.ref h0, .int a1, .int a2, .ref o])).length) Slot.unset).toArray = ls at hl ⊢
  have hl : lv_has ls 5 [(0, .ref h0), (1, .int a1), (2, .int a2), (3, .ref o)] := hl
  refine lv_aload_n hx hb dL_score_0 rfl (lv_at hl 3 rfl) ?_
  refine lv_iconst (v := 0) hx hb dL_score_1 (by decide) ?_
  refine lv_aload_n hx hb dL_score_2 rfl (lv_at hl 0 rfl) ?_
  refine lv_iload_n hx hb dL_score_3 rfl (lv_at hl 1 rfl) ?_
  refine lv_iload_n hx hb dL_score_4 rfl (lv_at hl 2 rfl) ?_
  refine vx_calli (vx_runV (As := [.int a1, .int a2]) (rest := [.int 0, .ref o]) ⟨hx, hb, hml, hown, hts⟩ (c_X6_score l hlT D h0 r s.heap.size a1 a2) (cwV 2 hts gL_score_X6_score rfl rfl rfl (by decide +kernel) ⟨Nat.le_of_ble_eq_true rfl, Nat.le_of_ble_eq_true rfl⟩) ⟨fun a U g mk q => ⟨q.1, PX6.blind q.2⟩, va_recv hK hP (ci := 12) (q0 := 0) rfl rfl, fun U hU hW => ⟨rfl, PX6.go hP hK hT hS hA hU hW⟩⟩ rfl rfl hl.1 rfl (lv_room (Nat.le_of_ble_eq_true rfl)) dL_score_5 ⟨Nat.le_of_ble_eq_true rfl, Nat.le_of_ble_eq_true rfl⟩) hS (fun q _ h => h) (fun q h => h) (fun q _ h => h) (fun E ce q9 u t H1 locs1 ht hvm hpx hB hz hk9 hS hcell hv hcl => ?_) (fun r9 u t H1 locs1 ht hvm hw hB hz1 hk1 hS => hw.elim)
  have hE : E = "java/lang/IndexOutOfBoundsException" := hB
  subst hE
  refine vx_catch (name := "java/lang/IndexOutOfBoundsException") hown [] ⟨0, 10, 13, 23⟩ [⟨0, 10, 17, 54⟩] (htab.trans rfl) (fun z hz => absurd hz List.not_mem_nil) (by decide) (by decide) (hts (.classLink RL 23 "java/lang/IndexOutOfBoundsException") (by decide +kernel)) (va_Nw.use rfl (hT.1 (Cond.castable "java/lang/IndexOutOfBoundsException" "java/lang/IndexOutOfBoundsException") (tf_cast (539, "java/lang/IndexOutOfBoundsException") (by decide +kernel)))) hcell hv hcl ?_
  refine lv_astore (lv' := [(4, .ref q9), (0, .ref h0), (1, .int a1), (2, .int a2), (3, .ref o)]) hx hb dL_score_13 hl (by decide) rfl (fun ls hl => ?_)
  refine lv_iconst (v := 1) hx hb dL_score_15 (by decide) ?_
  exact W.iret (v := 1) hx hb hr (fun t ht hW => ⟨⟨1, (), rfl, rfl, trivial⟩, hS.F ht⟩) hS.2.2 dL_score_16
set_option maxHeartbeats 4000000 in
set_option maxRecDepth 100000 in
theorem c_L_up (l : Launch) (hlT : l.stackTraces = false) (D : va_G) (h0 : Nat) (r : Nat → Nat) (o : Nat) (sz : Nat) : Met l yL_up wsL_up ({ frames := 70, cells := 1, slots := 6, locals := 700 }) (va_Pc [.ref h0, .ref o] (PX6 D h0 r sz)) (va_Qi (fun (r9 : Int32) (_ : Unit) => r9 = 1) (fun _ _ => True) (rg0 sz)) 1 6 (rg0 sz) := by
  refine va_MetW (cc := cL_up) (maxL := 3) (ret := (some .int)) (hh := [(0, 8, 11, 17)]) (by decide +kernel) rfl ?_
  intro p e s m args below meth c s₁ B hml hv
  obtain ⟨rfl, hsz, hP, hK, hT⟩ := hv
  have hx := B.exec
  have hb := B.bytes
  have hr := B.returns
  have hts := atoms_spec (ws := wsL_up) B.pre
  have hown : s.vm.findClass RL = some m.cls := findClass_of_methodNamed B.named
  have hlocks := B.notSynchronized
  subst hsz
  have hA : ∀ q : Nat, s.heap.size ≤ q → rg0 s.heap.size q := fun _ h => h
  have hS : va_S (rg0 s.heap.size) s.heap s.heap [] := va_S.rf
  have htab := vx_table (x := yL_up) B (hts (.codeWith yL_up cL_up 3 (some .int) [(0, 8, 11, 17)]) (List.mem_of_getElem? (i := 0) rfl))
  have hl := lv_entry ([.ref h0, .ref o]) (n := 3) (Nat.le_of_ble_eq_true rfl)
  rw [lg_entry_eq]
  generalize (lg_sl ([.ref h0, .ref o]) ++ List.replicate (3 - (lg_sl ([.ref h0, .ref o])).length) Slot.unset).toArray = ls at hl ⊢
  have hl : lv_has ls 3 [(0, .ref h0), (1, .ref o)] := hl
  refine lv_aload_n hx hb dL_up_0 rfl (lv_at hl 1 rfl) ?_
  refine lv_iconst (v := 0) hx hb dL_up_1 (by decide) ?_
  refine lv_aload_n hx hb dL_up_2 rfl (lv_at hl 0 rfl) ?_
  refine vx_calli (vx_runV (As := []) (rest := [.int 0, .ref o]) ⟨hx, hb, hml, hown, hts⟩ (c_X6_up l hlT D h0 r s.heap.size) (cwV 0 hts gL_up_X6_up rfl rfl rfl (by decide +kernel) ⟨Nat.le_of_ble_eq_true rfl, Nat.le_of_ble_eq_true rfl⟩) ⟨fun a U g mk q => ⟨q.1, PX6.blind q.2⟩, va_recv hK hP (ci := 12) (q0 := 0) rfl rfl, fun U hU hW => ⟨rfl, PX6.go hP hK hT hS hA hU hW⟩⟩ rfl rfl hl.1 rfl (lv_room (Nat.le_of_ble_eq_true rfl)) dL_up_3 ⟨Nat.le_of_ble_eq_true rfl, Nat.le_of_ble_eq_true rfl⟩) hS (fun q _ h => h) (fun q h => h) (fun q _ h => h) (fun E ce q9 u t H1 locs1 ht hvm hpx hB hz hk9 hS hcell hv hcl => ?_) (fun r9 u t H1 locs1 ht hvm hw hB hz1 hk1 hS => hw.elim)
  have hE : E = "java/lang/UnsupportedOperationException" := hB
  subst hE
  refine vx_catch (name := "java/lang/UnsupportedOperationException") hown [] ⟨0, 8, 11, 17⟩ [] (htab.trans rfl) (fun z hz => absurd hz List.not_mem_nil) (by decide) (by decide) (hts (.classLink RL 17 "java/lang/UnsupportedOperationException") (by decide +kernel)) (va_Nw.use rfl (hT.1 (Cond.castable "java/lang/UnsupportedOperationException" "java/lang/UnsupportedOperationException") (tf_cast (78, "java/lang/UnsupportedOperationException") (by decide +kernel)))) hcell hv hcl ?_
  refine lv_astore_n (lv' := [(2, .ref q9), (0, .ref h0), (1, .ref o)]) hx hb dL_up_11 rfl hl (by decide) rfl (fun ls hl => ?_)
  refine lv_iconst (v := 1) hx hb dL_up_12 (by decide) ?_
  exact W.iret (v := 1) hx hb hr (fun t ht hW => ⟨⟨1, (), rfl, rfl, trivial⟩, hS.F ht⟩) hS.2.2 dL_up_13
set_option maxHeartbeats 4000000 in
set_option maxRecDepth 100000 in
theorem c_L_isMatchOver (l : Launch) (hlT : l.stackTraces = false) (D : va_G) (h0 : Nat) (r : Nat → Nat) (o : Nat) (sz : Nat) : Met l yL_isMatchOver wsL_isMatchOver ({ frames := 70, cells := 1, slots := 6, locals := 700 }) (va_Pc [.ref h0, .ref o] (PX6 D h0 r sz)) (va_Qi (fun (r9 : Int32) (_ : Unit) => r9 = 1) (fun _ _ => True) (rg0 sz)) 1 6 (rg0 sz) := by
  refine va_MetW (cc := cL_isMatchOver) (maxL := 3) (ret := (some .int)) (hh := [(0, 15, 18, 17)]) (by decide +kernel) rfl ?_
  intro p e s m args below meth c s₁ B hml hv
  obtain ⟨rfl, hsz, hP, hK, hT⟩ := hv
  have hx := B.exec
  have hb := B.bytes
  have hr := B.returns
  have hts := atoms_spec (ws := wsL_isMatchOver) B.pre
  have hown : s.vm.findClass RL = some m.cls := findClass_of_methodNamed B.named
  have hlocks := B.notSynchronized
  subst hsz
  have hA : ∀ q : Nat, s.heap.size ≤ q → rg0 s.heap.size q := fun _ h => h
  have hS : va_S (rg0 s.heap.size) s.heap s.heap [] := va_S.rf
  have htab := vx_table (x := yL_isMatchOver) B (hts (.codeWith yL_isMatchOver cL_isMatchOver 3 (some .int) [(0, 15, 18, 17)]) (List.mem_of_getElem? (i := 0) rfl))
  have hl := lv_entry ([.ref h0, .ref o]) (n := 3) (Nat.le_of_ble_eq_true rfl)
  rw [lg_entry_eq]
  generalize (lg_sl ([.ref h0, .ref o]) ++ List.replicate (3 - (lg_sl ([.ref h0, .ref o])).length) Slot.unset).toArray = ls at hl ⊢
  have hl : lv_has ls 3 [(0, .ref h0), (1, .ref o)] := hl
  refine lv_aload_n hx hb dL_isMatchOver_0 rfl (lv_at hl 1 rfl) ?_
  refine lv_iconst (v := 0) hx hb dL_isMatchOver_1 (by decide) ?_
  refine lv_aload_n hx hb dL_isMatchOver_2 rfl (lv_at hl 0 rfl) ?_
  refine vx_calli (vx_runV (As := []) (rest := [.int 0, .ref o]) ⟨hx, hb, hml, hown, hts⟩ (c_X6_isMatchOver l hlT D h0 r s.heap.size) (cwV 0 hts gL_isMatchOver_X6_isMatchOver rfl rfl rfl (by decide +kernel) ⟨Nat.le_of_ble_eq_true rfl, Nat.le_of_ble_eq_true rfl⟩) ⟨fun a U g mk q => ⟨q.1, PX6.blind q.2⟩, va_recv hK hP (ci := 12) (q0 := 0) rfl rfl, fun U hU hW => ⟨rfl, PX6.go hP hK hT hS hA hU hW⟩⟩ rfl rfl hl.1 rfl (lv_room (Nat.le_of_ble_eq_true rfl)) dL_isMatchOver_3 ⟨Nat.le_of_ble_eq_true rfl, Nat.le_of_ble_eq_true rfl⟩) hS (fun q _ h => h) (fun q h => h) (fun q _ h => h) (fun E ce q9 u t H1 locs1 ht hvm hpx hB hz hk9 hS hcell hv hcl => ?_) (fun r9 u t H1 locs1 ht hvm hw hB hz1 hk1 hS => hw.elim)
  have hE : E = "java/lang/UnsupportedOperationException" := hB
  subst hE
  refine vx_catch (name := "java/lang/UnsupportedOperationException") hown [] ⟨0, 15, 18, 17⟩ [] (htab.trans rfl) (fun z hz => absurd hz List.not_mem_nil) (by decide) (by decide) (hts (.classLink RL 17 "java/lang/UnsupportedOperationException") (by decide +kernel)) (va_Nw.use rfl (hT.1 (Cond.castable "java/lang/UnsupportedOperationException" "java/lang/UnsupportedOperationException") (tf_cast (78, "java/lang/UnsupportedOperationException") (by decide +kernel)))) hcell hv hcl ?_
  refine lv_astore_n (lv' := [(2, .ref q9), (0, .ref h0), (1, .ref o)]) hx hb dL_isMatchOver_18 rfl hl (by decide) rfl (fun ls hl => ?_)
  refine lv_iconst (v := 1) hx hb dL_isMatchOver_19 (by decide) ?_
  exact W.iret (v := 1) hx hb hr (fun t ht hW => ⟨⟨1, (), rfl, rfl, trivial⟩, hS.F ht⟩) hS.2.2 dL_isMatchOver_20
set_option maxHeartbeats 4000000 in
set_option maxRecDepth 100000 in
theorem c_L_write (l : Launch) (hlT : l.stackTraces = false) (D : va_G) (h0 : Nat) (r : Nat → Nat) (o : Nat) (sz : Nat) (a1 a2 a3 : Int32) : Met l yL_write wsL_write ({ frames := 70, cells := 1, slots := 6, locals := 700 }) (va_Pc [.ref h0, .int a1, .int a2, .int a3, .ref o] (PX6 D h0 r sz)) (va_Qi (fun (r9 : Int32) (_ : Unit) => r9 = 1) (fun _ _ => True) (rg0 sz)) 1 6 (rg0 sz) := by
  refine va_MetW (cc := cL_write) (maxL := 6) (ret := (some .int)) (hh := [(0, 12, 15, 23), (0, 12, 19, 13), (0, 12, 23, 17)]) (by decide +kernel) rfl ?_
  intro p e s m args below meth c s₁ B hml hv
  obtain ⟨rfl, hsz, hP, hK, hT⟩ := hv
  have hx := B.exec
  have hb := B.bytes
  have hr := B.returns
  have hts := atoms_spec (ws := wsL_write) B.pre
  have hown : s.vm.findClass RL = some m.cls := findClass_of_methodNamed B.named
  have hlocks := B.notSynchronized
  subst hsz
  have hA : ∀ q : Nat, s.heap.size ≤ q → rg0 s.heap.size q := fun _ h => h
  have hS : va_S (rg0 s.heap.size) s.heap s.heap [] := va_S.rf
  have htab := vx_table (x := yL_write) B (hts (.codeWith yL_write cL_write 6 (some .int) [(0, 12, 15, 23), (0, 12, 19, 13), (0, 12, 23, 17)]) (List.mem_of_getElem? (i := 0) rfl))
  have hl := lv_entry ([.ref h0, .int a1, .int a2, .int a3, .ref o]) (n := 6) (Nat.le_of_ble_eq_true rfl)
  rw [lg_entry_eq]
  generalize (lg_sl ([.ref h0, .int a1, .int a2, .int a3, .ref o]) ++ List.replicate (6 - (lg_sl ([.ref h0, .int a1, .int a2, .int a3, .ref o])).length) Slot.unset).toArray = ls at hl ⊢
  have hl : lv_has ls 6 [(0, .ref h0), (1, .int a1), (2, .int a2), (3, .int a3), (4, .ref o)] := hl
  refine lv_aload hx hb dL_write_0 (lv_at hl 4 rfl) ?_
  refine lv_iconst (v := 0) hx hb dL_write_2 (by decide) ?_
  refine lv_aload_n hx hb dL_write_3 rfl (lv_at hl 0 rfl) ?_
  refine lv_iload_n hx hb dL_write_4 rfl (lv_at hl 1 rfl) ?_
  refine lv_iload_n hx hb dL_write_5 rfl (lv_at hl 2 rfl) ?_
  refine lv_iload_n hx hb dL_write_6 rfl (lv_at hl 3 rfl) ?_
  refine vx_calli (vx_runV (As := [.int a1, .int a2, .int a3]) (rest := [.int 0, .ref o]) ⟨hx, hb, hml, hown, hts⟩ (c_X6_write l hlT D h0 r s.heap.size a1 a2 a3) (cwV 3 hts gL_write_X6_write rfl rfl rfl (by decide +kernel) ⟨Nat.le_of_ble_eq_true rfl, Nat.le_of_ble_eq_true rfl⟩) ⟨fun a U g mk q => ⟨q.1, PX6.blind q.2⟩, va_recv hK hP (ci := 12) (q0 := 0) rfl rfl, fun U hU hW => ⟨rfl, PX6.go hP hK hT hS hA hU hW⟩⟩ rfl rfl hl.1 rfl (lv_room (Nat.le_of_ble_eq_true rfl)) dL_write_7 ⟨Nat.le_of_ble_eq_true rfl, Nat.le_of_ble_eq_true rfl⟩) hS (fun q _ h => h) (fun q h => h) (fun q _ h => h) (fun E ce q9 u t H1 locs1 ht hvm hpx hB hz hk9 hS hcell hv hcl => ?_) (fun r9 u t H1 locs1 ht hvm hw hB hz1 hk1 hS => hw.elim)
  have hE : E = "java/lang/IndexOutOfBoundsException" := hB
  subst hE
  refine vx_catch (name := "java/lang/IndexOutOfBoundsException") hown [] ⟨0, 12, 15, 23⟩ [⟨0, 12, 19, 13⟩, ⟨0, 12, 23, 17⟩] (htab.trans rfl) (fun z hz => absurd hz List.not_mem_nil) (by decide) (by decide) (hts (.classLink RL 23 "java/lang/IndexOutOfBoundsException") (by decide +kernel)) (va_Nw.use rfl (hT.1 (Cond.castable "java/lang/IndexOutOfBoundsException" "java/lang/IndexOutOfBoundsException") (tf_cast (539, "java/lang/IndexOutOfBoundsException") (by decide +kernel)))) hcell hv hcl ?_
  refine lv_astore (lv' := [(5, .ref q9), (0, .ref h0), (1, .int a1), (2, .int a2), (3, .int a3), (4, .ref o)]) hx hb dL_write_15 hl (by decide) rfl (fun ls hl => ?_)
  refine lv_iconst (v := 1) hx hb dL_write_17 (by decide) ?_
  exact W.iret (v := 1) hx hb hr (fun t ht hW => ⟨⟨1, (), rfl, rfl, trivial⟩, hS.F ht⟩) hS.2.2 dL_write_18
set_option maxHeartbeats 4000000 in
set_option maxRecDepth 100000 in
theorem c_L_sign (l : Launch) (hlT : l.stackTraces = false) (D : va_G) (h0 : Nat) (r : Nat → Nat) (o : Nat) (sz : Nat) (a1 : Int32) : Met l yL_sign wsL_sign ({ frames := 70, cells := 1, slots := 6, locals := 700 }) (va_Pc [.ref h0, .int a1, .ref o] (PX6 D h0 r sz)) (va_Qi (fun (r9 : Int32) (_ : Unit) => r9 = 1) (fun _ _ => True) (rg0 sz)) 1 6 (rg0 sz) := by
  refine va_MetW (cc := cL_sign) (maxL := 4) (ret := (some .int)) (hh := [(0, 16, 19, 23), (0, 16, 22, 17), (0, 16, 25, 54)]) (by decide +kernel) rfl ?_
  intro p e s m args below meth c s₁ B hml hv
  obtain ⟨rfl, hsz, hP, hK, hT⟩ := hv
  have hx := B.exec
  have hb := B.bytes
  have hr := B.returns
  have hts := atoms_spec (ws := wsL_sign) B.pre
  have hown : s.vm.findClass RL = some m.cls := findClass_of_methodNamed B.named
  have hlocks := B.notSynchronized
  subst hsz
  have hA : ∀ q : Nat, s.heap.size ≤ q → rg0 s.heap.size q := fun _ h => h
  have hS : va_S (rg0 s.heap.size) s.heap s.heap [] := va_S.rf
  have htab := vx_table (x := yL_sign) B (hts (.codeWith yL_sign cL_sign 4 (some .int) [(0, 16, 19, 23), (0, 16, 22, 17), (0, 16, 25, 54)]) (List.mem_of_getElem? (i := 0) rfl))
  have hl := lv_entry ([.ref h0, .int a1, .ref o]) (n := 4) (Nat.le_of_ble_eq_true rfl)
  rw [lg_entry_eq]
  generalize (lg_sl ([.ref h0, .int a1, .ref o]) ++ List.replicate (4 - (lg_sl ([.ref h0, .int a1, .ref o])).length) Slot.unset).toArray = ls at hl ⊢
  have hl : lv_has ls 4 [(0, .ref h0), (1, .int a1), (2, .ref o)] := hl
  refine lv_aload_n hx hb dL_sign_0 rfl (lv_at hl 2 rfl) ?_
  refine lv_iconst (v := 0) hx hb dL_sign_1 (by decide) ?_
  refine lv_aload_n hx hb dL_sign_2 rfl (lv_at hl 0 rfl) ?_
  refine lv_iload_n hx hb dL_sign_3 rfl (lv_at hl 1 rfl) ?_
  refine vx_calli (vx_runV (As := [.int a1]) (rest := [.int 0, .ref o]) ⟨hx, hb, hml, hown, hts⟩ (c_X6_sign l hlT D h0 r s.heap.size a1) (cwV 1 hts gL_sign_X6_sign rfl rfl rfl (by decide +kernel) ⟨Nat.le_of_ble_eq_true rfl, Nat.le_of_ble_eq_true rfl⟩) ⟨fun a U g mk q => ⟨q.1, PX6.blind q.2⟩, va_recv hK hP (ci := 12) (q0 := 0) rfl rfl, fun U hU hW => ⟨rfl, PX6.go hP hK hT hS hA hU hW⟩⟩ rfl rfl hl.1 rfl (lv_room (Nat.le_of_ble_eq_true rfl)) dL_sign_4 ⟨Nat.le_of_ble_eq_true rfl, Nat.le_of_ble_eq_true rfl⟩) hS (fun q _ h => h) (fun q h => h) (fun q _ h => h) (fun E ce q9 u t H1 locs1 ht hvm hpx hB hz hk9 hS hcell hv hcl => ?_) (fun r9 u t H1 locs1 ht hvm hw hB hz1 hk1 hS => hw.elim)
  have hE : E = "java/lang/IndexOutOfBoundsException" := hB
  subst hE
  refine vx_catch (name := "java/lang/IndexOutOfBoundsException") hown [] ⟨0, 16, 19, 23⟩ [⟨0, 16, 22, 17⟩, ⟨0, 16, 25, 54⟩] (htab.trans rfl) (fun z hz => absurd hz List.not_mem_nil) (by decide) (by decide) (hts (.classLink RL 23 "java/lang/IndexOutOfBoundsException") (by decide +kernel)) (va_Nw.use rfl (hT.1 (Cond.castable "java/lang/IndexOutOfBoundsException" "java/lang/IndexOutOfBoundsException") (tf_cast (539, "java/lang/IndexOutOfBoundsException") (by decide +kernel)))) hcell hv hcl ?_
  refine lv_astore_n (lv' := [(3, .ref q9), (0, .ref h0), (1, .int a1), (2, .ref o)]) hx hb dL_sign_19 rfl hl (by decide) rfl (fun ls hl => ?_)
  refine lv_iconst (v := 1) hx hb dL_sign_20 (by decide) ?_
  exact W.iret (v := 1) hx hb hr (fun t ht hW => ⟨⟨1, (), rfl, rfl, trivial⟩, hS.F ht⟩) hS.2.2 dL_sign_21
set_option maxHeartbeats 4000000 in
set_option maxRecDepth 100000 in
theorem c_L_total (l : Launch) (hlT : l.stackTraces = false) (D : va_G) (h0 : Nat) (r : Nat → Nat) (o : Nat) (sz : Nat) (a1 : Int32) : Met l yL_total wsL_total ({ frames := 70, cells := 1, slots := 6, locals := 700 }) (va_Pc [.ref h0, .int a1, .ref o] (PX6 D h0 r sz)) (va_Qi (fun (r9 : Int32) (_ : Unit) => r9 = 1) (fun _ _ => True) (rg0 sz)) 1 6 (rg0 sz) := by
  refine va_MetW (cc := cL_total) (maxL := 4) (ret := (some .int)) (hh := [(0, 9, 12, 23), (0, 9, 15, 54)]) (by decide +kernel) rfl ?_
  intro p e s m args below meth c s₁ B hml hv
  obtain ⟨rfl, hsz, hP, hK, hT⟩ := hv
  have hx := B.exec
  have hb := B.bytes
  have hr := B.returns
  have hts := atoms_spec (ws := wsL_total) B.pre
  have hown : s.vm.findClass RL = some m.cls := findClass_of_methodNamed B.named
  have hlocks := B.notSynchronized
  subst hsz
  have hA : ∀ q : Nat, s.heap.size ≤ q → rg0 s.heap.size q := fun _ h => h
  have hS : va_S (rg0 s.heap.size) s.heap s.heap [] := va_S.rf
  have htab := vx_table (x := yL_total) B (hts (.codeWith yL_total cL_total 4 (some .int) [(0, 9, 12, 23), (0, 9, 15, 54)]) (List.mem_of_getElem? (i := 0) rfl))
  have hl := lv_entry ([.ref h0, .int a1, .ref o]) (n := 4) (Nat.le_of_ble_eq_true rfl)
  rw [lg_entry_eq]
  generalize (lg_sl ([.ref h0, .int a1, .ref o]) ++ List.replicate (4 - (lg_sl ([.ref h0, .int a1, .ref o])).length) Slot.unset).toArray = ls at hl ⊢
  have hl : lv_has ls 4 [(0, .ref h0), (1, .int a1), (2, .ref o)] := hl
  refine lv_aload_n hx hb dL_total_0 rfl (lv_at hl 2 rfl) ?_
  refine lv_iconst (v := 0) hx hb dL_total_1 (by decide) ?_
  refine lv_aload_n hx hb dL_total_2 rfl (lv_at hl 0 rfl) ?_
  refine lv_iload_n hx hb dL_total_3 rfl (lv_at hl 1 rfl) ?_
  refine vx_calli (vx_runV (As := [.int a1]) (rest := [.int 0, .ref o]) ⟨hx, hb, hml, hown, hts⟩ (c_X6_total l hlT D h0 r s.heap.size a1) (cwV 1 hts gL_total_X6_total rfl rfl rfl (by decide +kernel) ⟨Nat.le_of_ble_eq_true rfl, Nat.le_of_ble_eq_true rfl⟩) ⟨fun a U g mk q => ⟨q.1, PX6.blind q.2⟩, va_recv hK hP (ci := 12) (q0 := 0) rfl rfl, fun U hU hW => ⟨rfl, PX6.go hP hK hT hS hA hU hW⟩⟩ rfl rfl hl.1 rfl (lv_room (Nat.le_of_ble_eq_true rfl)) dL_total_4 ⟨Nat.le_of_ble_eq_true rfl, Nat.le_of_ble_eq_true rfl⟩) hS (fun q _ h => h) (fun q h => h) (fun q _ h => h) (fun E ce q9 u t H1 locs1 ht hvm hpx hB hz hk9 hS hcell hv hcl => ?_) (fun r9 u t H1 locs1 ht hvm hw hB hz1 hk1 hS => hw.elim)
  have hE : E = "java/lang/IndexOutOfBoundsException" := hB
  subst hE
  refine vx_catch (name := "java/lang/IndexOutOfBoundsException") hown [] ⟨0, 9, 12, 23⟩ [⟨0, 9, 15, 54⟩] (htab.trans rfl) (fun z hz => absurd hz List.not_mem_nil) (by decide) (by decide) (hts (.classLink RL 23 "java/lang/IndexOutOfBoundsException") (by decide +kernel)) (va_Nw.use rfl (hT.1 (Cond.castable "java/lang/IndexOutOfBoundsException" "java/lang/IndexOutOfBoundsException") (tf_cast (539, "java/lang/IndexOutOfBoundsException") (by decide +kernel)))) hcell hv hcl ?_
  refine lv_astore_n (lv' := [(3, .ref q9), (0, .ref h0), (1, .int a1), (2, .ref o)]) hx hb dL_total_12 rfl hl (by decide) rfl (fun ls hl => ?_)
  refine lv_iconst (v := 1) hx hb dL_total_13 (by decide) ?_
  exact W.iret (v := 1) hx hb hr (fun t ht hW => ⟨⟨1, (), rfl, rfl, trivial⟩, hS.F ht⟩) hS.2.2 dL_total_14
set_option maxHeartbeats 4000000 in
set_option maxRecDepth 100000 in
theorem c_L_stableford (l : Launch) (hlT : l.stackTraces = false) (D : va_G) (h0 : Nat) (r : Nat → Nat) (o : Nat) (sz : Nat) (a1 : Int32) : Met l yL_stableford wsL_stableford ({ frames := 70, cells := 1, slots := 6, locals := 700 }) (va_Pc [.ref h0, .int a1, .ref o] (PX6 D h0 r sz)) (va_Qi (fun (r9 : Int32) (_ : Unit) => r9 = 1) (fun _ _ => True) (rg0 sz)) 1 6 (rg0 sz) := by
  refine va_MetW (cc := cL_stableford) (maxL := 4) (ret := (some .int)) (hh := [(0, 9, 12, 23)]) (by decide +kernel) rfl ?_
  intro p e s m args below meth c s₁ B hml hv
  obtain ⟨rfl, hsz, hP, hK, hT⟩ := hv
  have hx := B.exec
  have hb := B.bytes
  have hr := B.returns
  have hts := atoms_spec (ws := wsL_stableford) B.pre
  have hown : s.vm.findClass RL = some m.cls := findClass_of_methodNamed B.named
  have hlocks := B.notSynchronized
  subst hsz
  have hA : ∀ q : Nat, s.heap.size ≤ q → rg0 s.heap.size q := fun _ h => h
  have hS : va_S (rg0 s.heap.size) s.heap s.heap [] := va_S.rf
  have htab := vx_table (x := yL_stableford) B (hts (.codeWith yL_stableford cL_stableford 4 (some .int) [(0, 9, 12, 23)]) (List.mem_of_getElem? (i := 0) rfl))
  have hl := lv_entry ([.ref h0, .int a1, .ref o]) (n := 4) (Nat.le_of_ble_eq_true rfl)
  rw [lg_entry_eq]
  generalize (lg_sl ([.ref h0, .int a1, .ref o]) ++ List.replicate (4 - (lg_sl ([.ref h0, .int a1, .ref o])).length) Slot.unset).toArray = ls at hl ⊢
  have hl : lv_has ls 4 [(0, .ref h0), (1, .int a1), (2, .ref o)] := hl
  refine lv_aload_n hx hb dL_stableford_0 rfl (lv_at hl 2 rfl) ?_
  refine lv_iconst (v := 0) hx hb dL_stableford_1 (by decide) ?_
  refine lv_aload_n hx hb dL_stableford_2 rfl (lv_at hl 0 rfl) ?_
  refine lv_iload_n hx hb dL_stableford_3 rfl (lv_at hl 1 rfl) ?_
  refine vx_calli (vx_runV (As := [.int a1]) (rest := [.int 0, .ref o]) ⟨hx, hb, hml, hown, hts⟩ (c_X6_stableford l hlT D h0 r s.heap.size a1) (cwV 1 hts gL_stableford_X6_stableford rfl rfl rfl (by decide +kernel) ⟨Nat.le_of_ble_eq_true rfl, Nat.le_of_ble_eq_true rfl⟩) ⟨fun a U g mk q => ⟨q.1, PX6.blind q.2⟩, va_recv hK hP (ci := 12) (q0 := 0) rfl rfl, fun U hU hW => ⟨rfl, PX6.go hP hK hT hS hA hU hW⟩⟩ rfl rfl hl.1 rfl (lv_room (Nat.le_of_ble_eq_true rfl)) dL_stableford_4 ⟨Nat.le_of_ble_eq_true rfl, Nat.le_of_ble_eq_true rfl⟩) hS (fun q _ h => h) (fun q h => h) (fun q _ h => h) (fun E ce q9 u t H1 locs1 ht hvm hpx hB hz hk9 hS hcell hv hcl => ?_) (fun r9 u t H1 locs1 ht hvm hw hB hz1 hk1 hS => hw.elim)
  have hE : E = "java/lang/IndexOutOfBoundsException" := hB
  subst hE
  refine vx_catch (name := "java/lang/IndexOutOfBoundsException") hown [] ⟨0, 9, 12, 23⟩ [] (htab.trans rfl) (fun z hz => absurd hz List.not_mem_nil) (by decide) (by decide) (hts (.classLink RL 23 "java/lang/IndexOutOfBoundsException") (by decide +kernel)) (va_Nw.use rfl (hT.1 (Cond.castable "java/lang/IndexOutOfBoundsException" "java/lang/IndexOutOfBoundsException") (tf_cast (539, "java/lang/IndexOutOfBoundsException") (by decide +kernel)))) hcell hv hcl ?_
  refine lv_astore_n (lv' := [(3, .ref q9), (0, .ref h0), (1, .int a1), (2, .ref o)]) hx hb dL_stableford_12 rfl hl (by decide) rfl (fun ls hl => ?_)
  refine lv_iconst (v := 1) hx hb dL_stableford_13 (by decide) ?_
  exact W.iret (v := 1) hx hb hr (fun t ht hW => ⟨⟨1, (), rfl, rfl, trivial⟩, hS.F ht⟩) hS.2.2 dL_stableford_14
set_option maxHeartbeats 4000000 in
set_option maxRecDepth 100000 in
theorem c_L_parPlay (l : Launch) (hlT : l.stackTraces = false) (D : va_G) (h0 : Nat) (r : Nat → Nat) (o : Nat) (sz : Nat) (a1 : Int32) : Met l yL_parPlay wsL_parPlay ({ frames := 70, cells := 1, slots := 6, locals := 700 }) (va_Pc [.ref h0, .int a1, .ref o] (PX6 D h0 r sz)) (va_Qi (fun (r9 : Int32) (_ : Unit) => r9 = 1) (fun _ _ => True) (rg0 sz)) 1 6 (rg0 sz) := by
  refine va_MetW (cc := cL_parPlay) (maxL := 4) (ret := (some .int)) (hh := [(0, 9, 12, 23), (0, 9, 15, 54)]) (by decide +kernel) rfl ?_
  intro p e s m args below meth c s₁ B hml hv
  obtain ⟨rfl, hsz, hP, hK, hT⟩ := hv
  have hx := B.exec
  have hb := B.bytes
  have hr := B.returns
  have hts := atoms_spec (ws := wsL_parPlay) B.pre
  have hown : s.vm.findClass RL = some m.cls := findClass_of_methodNamed B.named
  have hlocks := B.notSynchronized
  subst hsz
  have hA : ∀ q : Nat, s.heap.size ≤ q → rg0 s.heap.size q := fun _ h => h
  have hS : va_S (rg0 s.heap.size) s.heap s.heap [] := va_S.rf
  have htab := vx_table (x := yL_parPlay) B (hts (.codeWith yL_parPlay cL_parPlay 4 (some .int) [(0, 9, 12, 23), (0, 9, 15, 54)]) (List.mem_of_getElem? (i := 0) rfl))
  have hl := lv_entry ([.ref h0, .int a1, .ref o]) (n := 4) (Nat.le_of_ble_eq_true rfl)
  rw [lg_entry_eq]
  generalize (lg_sl ([.ref h0, .int a1, .ref o]) ++ List.replicate (4 - (lg_sl ([.ref h0, .int a1, .ref o])).length) Slot.unset).toArray = ls at hl ⊢
  have hl : lv_has ls 4 [(0, .ref h0), (1, .int a1), (2, .ref o)] := hl
  refine lv_aload_n hx hb dL_parPlay_0 rfl (lv_at hl 2 rfl) ?_
  refine lv_iconst (v := 0) hx hb dL_parPlay_1 (by decide) ?_
  refine lv_aload_n hx hb dL_parPlay_2 rfl (lv_at hl 0 rfl) ?_
  refine lv_iload_n hx hb dL_parPlay_3 rfl (lv_at hl 1 rfl) ?_
  refine vx_calli (vx_runV (As := [.int a1]) (rest := [.int 0, .ref o]) ⟨hx, hb, hml, hown, hts⟩ (c_X6_parPlay l hlT D h0 r s.heap.size a1) (cwV 1 hts gL_parPlay_X6_parPlay rfl rfl rfl (by decide +kernel) ⟨Nat.le_of_ble_eq_true rfl, Nat.le_of_ble_eq_true rfl⟩) ⟨fun a U g mk q => ⟨q.1, PX6.blind q.2⟩, va_recv hK hP (ci := 12) (q0 := 0) rfl rfl, fun U hU hW => ⟨rfl, PX6.go hP hK hT hS hA hU hW⟩⟩ rfl rfl hl.1 rfl (lv_room (Nat.le_of_ble_eq_true rfl)) dL_parPlay_4 ⟨Nat.le_of_ble_eq_true rfl, Nat.le_of_ble_eq_true rfl⟩) hS (fun q _ h => h) (fun q h => h) (fun q _ h => h) (fun E ce q9 u t H1 locs1 ht hvm hpx hB hz hk9 hS hcell hv hcl => ?_) (fun r9 u t H1 locs1 ht hvm hw hB hz1 hk1 hS => hw.elim)
  have hE : E = "java/lang/IndexOutOfBoundsException" := hB
  subst hE
  refine vx_catch (name := "java/lang/IndexOutOfBoundsException") hown [] ⟨0, 9, 12, 23⟩ [⟨0, 9, 15, 54⟩] (htab.trans rfl) (fun z hz => absurd hz List.not_mem_nil) (by decide) (by decide) (hts (.classLink RL 23 "java/lang/IndexOutOfBoundsException") (by decide +kernel)) (va_Nw.use rfl (hT.1 (Cond.castable "java/lang/IndexOutOfBoundsException" "java/lang/IndexOutOfBoundsException") (tf_cast (539, "java/lang/IndexOutOfBoundsException") (by decide +kernel)))) hcell hv hcl ?_
  refine lv_astore_n (lv' := [(3, .ref q9), (0, .ref h0), (1, .int a1), (2, .ref o)]) hx hb dL_parPlay_12 rfl hl (by decide) rfl (fun ls hl => ?_)
  refine lv_iconst (v := 1) hx hb dL_parPlay_13 (by decide) ?_
  exact W.iret (v := 1) hx hb hr (fun t ht hW => ⟨⟨1, (), rfl, rfl, trivial⟩, hS.F ht⟩) hS.2.2 dL_parPlay_14
set_option maxHeartbeats 4000000 in
set_option maxRecDepth 100000 in
theorem c_L_together (l : Launch) (hlT : l.stackTraces = false) (D : va_G) (h0 : Nat) (r : Nat → Nat) (o : Nat) (sz : Nat) (a1 a2 : Int32) : Met l yL_together wsL_together ({ frames := 70, cells := 1, slots := 6, locals := 700 }) (va_Pc [.ref h0, .int a1, .int a2, .ref o] (PX6 D h0 r sz)) (va_Qi (fun (r9 : Int32) (_ : Unit) => r9 = 1) (fun _ _ => True) (rg0 sz)) 1 6 (rg0 sz) := by
  refine va_MetW (cc := cL_together) (maxL := 5) (ret := (some .int)) (hh := [(0, 10, 13, 23), (0, 10, 17, 13), (0, 10, 21, 54)]) (by decide +kernel) rfl ?_
  intro p e s m args below meth c s₁ B hml hv
  obtain ⟨rfl, hsz, hP, hK, hT⟩ := hv
  have hx := B.exec
  have hb := B.bytes
  have hr := B.returns
  have hts := atoms_spec (ws := wsL_together) B.pre
  have hown : s.vm.findClass RL = some m.cls := findClass_of_methodNamed B.named
  have hlocks := B.notSynchronized
  subst hsz
  have hA : ∀ q : Nat, s.heap.size ≤ q → rg0 s.heap.size q := fun _ h => h
  have hS : va_S (rg0 s.heap.size) s.heap s.heap [] := va_S.rf
  have htab := vx_table (x := yL_together) B (hts (.codeWith yL_together cL_together 5 (some .int) [(0, 10, 13, 23), (0, 10, 17, 13), (0, 10, 21, 54)]) (List.mem_of_getElem? (i := 0) rfl))
  have hl := lv_entry ([.ref h0, .int a1, .int a2, .ref o]) (n := 5) (Nat.le_of_ble_eq_true rfl)
  rw [lg_entry_eq]
  generalize (lg_sl ([.ref h0, .int a1, .int a2, .ref o]) ++ List.replicate (5 - (lg_sl ([.ref h0, .int a1, .int a2, .ref o])).length) Slot.unset).toArray = ls at hl ⊢
  have hl : lv_has ls 5 [(0, .ref h0), (1, .int a1), (2, .int a2), (3, .ref o)] := hl
  refine lv_aload_n hx hb dL_together_0 rfl (lv_at hl 3 rfl) ?_
  refine lv_iconst (v := 0) hx hb dL_together_1 (by decide) ?_
  refine lv_aload_n hx hb dL_together_2 rfl (lv_at hl 0 rfl) ?_
  refine lv_iload_n hx hb dL_together_3 rfl (lv_at hl 1 rfl) ?_
  refine lv_iload_n hx hb dL_together_4 rfl (lv_at hl 2 rfl) ?_
  refine vx_calli (vx_runV (As := [.int a1, .int a2]) (rest := [.int 0, .ref o]) ⟨hx, hb, hml, hown, hts⟩ (c_X6_together l hlT D h0 r s.heap.size a1 a2) (cwV 2 hts gL_together_X6_together rfl rfl rfl (by decide +kernel) ⟨Nat.le_of_ble_eq_true rfl, Nat.le_of_ble_eq_true rfl⟩) ⟨fun a U g mk q => ⟨q.1, PX6.blind q.2⟩, va_recv hK hP (ci := 12) (q0 := 0) rfl rfl, fun U hU hW => ⟨rfl, PX6.go hP hK hT hS hA hU hW⟩⟩ rfl rfl hl.1 rfl (lv_room (Nat.le_of_ble_eq_true rfl)) dL_together_5 ⟨Nat.le_of_ble_eq_true rfl, Nat.le_of_ble_eq_true rfl⟩) hS (fun q _ h => h) (fun q h => h) (fun q _ h => h) (fun E ce q9 u t H1 locs1 ht hvm hpx hB hz hk9 hS hcell hv hcl => ?_) (fun r9 u t H1 locs1 ht hvm hw hB hz1 hk1 hS => hw.elim)
  have hE : E = "java/lang/IndexOutOfBoundsException" := hB
  subst hE
  refine vx_catch (name := "java/lang/IndexOutOfBoundsException") hown [] ⟨0, 10, 13, 23⟩ [⟨0, 10, 17, 13⟩, ⟨0, 10, 21, 54⟩] (htab.trans rfl) (fun z hz => absurd hz List.not_mem_nil) (by decide) (by decide) (hts (.classLink RL 23 "java/lang/IndexOutOfBoundsException") (by decide +kernel)) (va_Nw.use rfl (hT.1 (Cond.castable "java/lang/IndexOutOfBoundsException" "java/lang/IndexOutOfBoundsException") (tf_cast (539, "java/lang/IndexOutOfBoundsException") (by decide +kernel)))) hcell hv hcl ?_
  refine lv_astore (lv' := [(4, .ref q9), (0, .ref h0), (1, .int a1), (2, .int a2), (3, .ref o)]) hx hb dL_together_13 hl (by decide) rfl (fun ls hl => ?_)
  refine lv_iconst (v := 1) hx hb dL_together_15 (by decide) ?_
  exact W.iret (v := 1) hx hb hr (fun t ht hW => ⟨⟨1, (), rfl, rfl, trivial⟩, hS.F ht⟩) hS.2.2 dL_together_16
set_option maxHeartbeats 4000000 in
set_option maxRecDepth 100000 in
theorem c_L_skins (l : Launch) (hlT : l.stackTraces = false) (D : va_G) (h0 : Nat) (r : Nat → Nat) (o : Nat) (sz : Nat) (a1 : Int32) : Met l yL_skins wsL_skins ({ frames := 70, cells := 1, slots := 6, locals := 700 }) (va_Pc [.ref h0, .int a1, .ref o] (PX6 D h0 r sz)) (va_Qi (fun (r9 : Int32) (_ : Unit) => r9 = 1) (fun _ _ => True) (rg0 sz)) 1 6 (rg0 sz) := by
  refine va_MetW (cc := cL_skins) (maxL := 4) (ret := (some .int)) (hh := [(0, 9, 12, 23), (0, 9, 15, 54)]) (by decide +kernel) rfl ?_
  intro p e s m args below meth c s₁ B hml hv
  obtain ⟨rfl, hsz, hP, hK, hT⟩ := hv
  have hx := B.exec
  have hb := B.bytes
  have hr := B.returns
  have hts := atoms_spec (ws := wsL_skins) B.pre
  have hown : s.vm.findClass RL = some m.cls := findClass_of_methodNamed B.named
  have hlocks := B.notSynchronized
  subst hsz
  have hA : ∀ q : Nat, s.heap.size ≤ q → rg0 s.heap.size q := fun _ h => h
  have hS : va_S (rg0 s.heap.size) s.heap s.heap [] := va_S.rf
  have htab := vx_table (x := yL_skins) B (hts (.codeWith yL_skins cL_skins 4 (some .int) [(0, 9, 12, 23), (0, 9, 15, 54)]) (List.mem_of_getElem? (i := 0) rfl))
  have hl := lv_entry ([.ref h0, .int a1, .ref o]) (n := 4) (Nat.le_of_ble_eq_true rfl)
  rw [lg_entry_eq]
  generalize (lg_sl ([.ref h0, .int a1, .ref o]) ++ List.replicate (4 - (lg_sl ([.ref h0, .int a1, .ref o])).length) Slot.unset).toArray = ls at hl ⊢
  have hl : lv_has ls 4 [(0, .ref h0), (1, .int a1), (2, .ref o)] := hl
  refine lv_aload_n hx hb dL_skins_0 rfl (lv_at hl 2 rfl) ?_
  refine lv_iconst (v := 0) hx hb dL_skins_1 (by decide) ?_
  refine lv_aload_n hx hb dL_skins_2 rfl (lv_at hl 0 rfl) ?_
  refine lv_iload_n hx hb dL_skins_3 rfl (lv_at hl 1 rfl) ?_
  refine vx_calli (vx_runV (As := [.int a1]) (rest := [.int 0, .ref o]) ⟨hx, hb, hml, hown, hts⟩ (c_X6_skins l hlT D h0 r s.heap.size a1) (cwV 1 hts gL_skins_X6_skins rfl rfl rfl (by decide +kernel) ⟨Nat.le_of_ble_eq_true rfl, Nat.le_of_ble_eq_true rfl⟩) ⟨fun a U g mk q => ⟨q.1, PX6.blind q.2⟩, va_recv hK hP (ci := 12) (q0 := 0) rfl rfl, fun U hU hW => ⟨rfl, PX6.go hP hK hT hS hA hU hW⟩⟩ rfl rfl hl.1 rfl (lv_room (Nat.le_of_ble_eq_true rfl)) dL_skins_4 ⟨Nat.le_of_ble_eq_true rfl, Nat.le_of_ble_eq_true rfl⟩) hS (fun q _ h => h) (fun q h => h) (fun q _ h => h) (fun E ce q9 u t H1 locs1 ht hvm hpx hB hz hk9 hS hcell hv hcl => ?_) (fun r9 u t H1 locs1 ht hvm hw hB hz1 hk1 hS => hw.elim)
  have hE : E = "java/lang/IndexOutOfBoundsException" := hB
  subst hE
  refine vx_catch (name := "java/lang/IndexOutOfBoundsException") hown [] ⟨0, 9, 12, 23⟩ [⟨0, 9, 15, 54⟩] (htab.trans rfl) (fun z hz => absurd hz List.not_mem_nil) (by decide) (by decide) (hts (.classLink RL 23 "java/lang/IndexOutOfBoundsException") (by decide +kernel)) (va_Nw.use rfl (hT.1 (Cond.castable "java/lang/IndexOutOfBoundsException" "java/lang/IndexOutOfBoundsException") (tf_cast (539, "java/lang/IndexOutOfBoundsException") (by decide +kernel)))) hcell hv hcl ?_
  refine lv_astore_n (lv' := [(3, .ref q9), (0, .ref h0), (1, .int a1), (2, .ref o)]) hx hb dL_skins_12 rfl hl (by decide) rfl (fun ls hl => ?_)
  refine lv_iconst (v := 1) hx hb dL_skins_13 (by decide) ?_
  exact W.iret (v := 1) hx hb hr (fun t ht hW => ⟨⟨1, (), rfl, rfl, trivial⟩, hS.F ht⟩) hS.2.2 dL_skins_14
set_option maxHeartbeats 4000000 in
set_option maxRecDepth 100000 in
theorem c_L_rank (l : Launch) (hlT : l.stackTraces = false) (D : va_G) (h0 : Nat) (r : Nat → Nat) (o : Nat) (sz : Nat) (a1 : Int32) : Met l yL_rank wsL_rank ({ frames := 70, cells := 1, slots := 6, locals := 700 }) (va_Pc [.ref h0, .int a1, .ref o] (PX6 D h0 r sz)) (va_Qi (fun (r9 : Int32) (_ : Unit) => r9 = 1) (fun _ _ => True) (rg0 sz)) 1 6 (rg0 sz) := by
  refine va_MetW (cc := cL_rank) (maxL := 4) (ret := (some .int)) (hh := [(0, 9, 12, 23), (0, 9, 15, 54)]) (by decide +kernel) rfl ?_
  intro p e s m args below meth c s₁ B hml hv
  obtain ⟨rfl, hsz, hP, hK, hT⟩ := hv
  have hx := B.exec
  have hb := B.bytes
  have hr := B.returns
  have hts := atoms_spec (ws := wsL_rank) B.pre
  have hown : s.vm.findClass RL = some m.cls := findClass_of_methodNamed B.named
  have hlocks := B.notSynchronized
  subst hsz
  have hA : ∀ q : Nat, s.heap.size ≤ q → rg0 s.heap.size q := fun _ h => h
  have hS : va_S (rg0 s.heap.size) s.heap s.heap [] := va_S.rf
  have htab := vx_table (x := yL_rank) B (hts (.codeWith yL_rank cL_rank 4 (some .int) [(0, 9, 12, 23), (0, 9, 15, 54)]) (List.mem_of_getElem? (i := 0) rfl))
  have hl := lv_entry ([.ref h0, .int a1, .ref o]) (n := 4) (Nat.le_of_ble_eq_true rfl)
  rw [lg_entry_eq]
  generalize (lg_sl ([.ref h0, .int a1, .ref o]) ++ List.replicate (4 - (lg_sl ([.ref h0, .int a1, .ref o])).length) Slot.unset).toArray = ls at hl ⊢
  have hl : lv_has ls 4 [(0, .ref h0), (1, .int a1), (2, .ref o)] := hl
  refine lv_aload_n hx hb dL_rank_0 rfl (lv_at hl 2 rfl) ?_
  refine lv_iconst (v := 0) hx hb dL_rank_1 (by decide) ?_
  refine lv_aload_n hx hb dL_rank_2 rfl (lv_at hl 0 rfl) ?_
  refine lv_iload_n hx hb dL_rank_3 rfl (lv_at hl 1 rfl) ?_
  refine vx_calli (vx_runV (As := [.int a1]) (rest := [.int 0, .ref o]) ⟨hx, hb, hml, hown, hts⟩ (c_X6_rank l hlT D h0 r s.heap.size a1) (cwV 1 hts gL_rank_X6_rank rfl rfl rfl (by decide +kernel) ⟨Nat.le_of_ble_eq_true rfl, Nat.le_of_ble_eq_true rfl⟩) ⟨fun a U g mk q => ⟨q.1, PX6.blind q.2⟩, va_recv hK hP (ci := 12) (q0 := 0) rfl rfl, fun U hU hW => ⟨rfl, PX6.go hP hK hT hS hA hU hW⟩⟩ rfl rfl hl.1 rfl (lv_room (Nat.le_of_ble_eq_true rfl)) dL_rank_4 ⟨Nat.le_of_ble_eq_true rfl, Nat.le_of_ble_eq_true rfl⟩) hS (fun q _ h => h) (fun q h => h) (fun q _ h => h) (fun E ce q9 u t H1 locs1 ht hvm hpx hB hz hk9 hS hcell hv hcl => ?_) (fun r9 u t H1 locs1 ht hvm hw hB hz1 hk1 hS => hw.elim)
  have hE : E = "java/lang/IndexOutOfBoundsException" := hB
  subst hE
  refine vx_catch (name := "java/lang/IndexOutOfBoundsException") hown [] ⟨0, 9, 12, 23⟩ [⟨0, 9, 15, 54⟩] (htab.trans rfl) (fun z hz => absurd hz List.not_mem_nil) (by decide) (by decide) (hts (.classLink RL 23 "java/lang/IndexOutOfBoundsException") (by decide +kernel)) (va_Nw.use rfl (hT.1 (Cond.castable "java/lang/IndexOutOfBoundsException" "java/lang/IndexOutOfBoundsException") (tf_cast (539, "java/lang/IndexOutOfBoundsException") (by decide +kernel)))) hcell hv hcl ?_
  refine lv_astore_n (lv' := [(3, .ref q9), (0, .ref h0), (1, .int a1), (2, .ref o)]) hx hb dL_rank_12 rfl hl (by decide) rfl (fun ls hl => ?_)
  refine lv_iconst (v := 1) hx hb dL_rank_13 (by decide) ?_
  exact W.iret (v := 1) hx hb hr (fun t ht hW => ⟨⟨1, (), rfl, rfl, trivial⟩, hS.F ht⟩) hS.2.2 dL_rank_14
set_option maxHeartbeats 4000000 in
set_option maxRecDepth 100000 in
theorem c_L_isAhead (l : Launch) (hlT : l.stackTraces = false) (D : va_G) (h0 : Nat) (r : Nat → Nat) (o : Nat) (sz : Nat) (a1 a2 : Int32) : Met l yL_isAhead wsL_isAhead ({ frames := 70, cells := 1, slots := 6, locals := 700 }) (va_Pc [.ref h0, .int a1, .int a2, .ref o] (PX6 D h0 r sz)) (va_Qi (fun (r9 : Int32) (_ : Unit) => r9 = 1) (fun _ _ => True) (rg0 sz)) 1 6 (rg0 sz) := by
  refine va_MetW (cc := cL_isAhead) (maxL := 5) (ret := (some .int)) (hh := [(0, 17, 20, 23), (0, 17, 24, 54)]) (by decide +kernel) rfl ?_
  intro p e s m args below meth c s₁ B hml hv
  obtain ⟨rfl, hsz, hP, hK, hT⟩ := hv
  have hx := B.exec
  have hb := B.bytes
  have hr := B.returns
  have hts := atoms_spec (ws := wsL_isAhead) B.pre
  have hown : s.vm.findClass RL = some m.cls := findClass_of_methodNamed B.named
  have hlocks := B.notSynchronized
  subst hsz
  have hA : ∀ q : Nat, s.heap.size ≤ q → rg0 s.heap.size q := fun _ h => h
  have hS : va_S (rg0 s.heap.size) s.heap s.heap [] := va_S.rf
  have htab := vx_table (x := yL_isAhead) B (hts (.codeWith yL_isAhead cL_isAhead 5 (some .int) [(0, 17, 20, 23), (0, 17, 24, 54)]) (List.mem_of_getElem? (i := 0) rfl))
  have hl := lv_entry ([.ref h0, .int a1, .int a2, .ref o]) (n := 5) (Nat.le_of_ble_eq_true rfl)
  rw [lg_entry_eq]
  generalize (lg_sl ([.ref h0, .int a1, .int a2, .ref o]) ++ List.replicate (5 - (lg_sl ([.ref h0, .int a1, .int a2, .ref o])).length) Slot.unset).toArray = ls at hl ⊢
  have hl : lv_has ls 5 [(0, .ref h0), (1, .int a1), (2, .int a2), (3, .ref o)] := hl
  refine lv_aload_n hx hb dL_isAhead_0 rfl (lv_at hl 3 rfl) ?_
  refine lv_iconst (v := 0) hx hb dL_isAhead_1 (by decide) ?_
  refine lv_aload_n hx hb dL_isAhead_2 rfl (lv_at hl 0 rfl) ?_
  refine lv_iload_n hx hb dL_isAhead_3 rfl (lv_at hl 1 rfl) ?_
  refine lv_iload_n hx hb dL_isAhead_4 rfl (lv_at hl 2 rfl) ?_
  refine vx_calli (vx_runV (As := [.int a1, .int a2]) (rest := [.int 0, .ref o]) ⟨hx, hb, hml, hown, hts⟩ (c_X6_isAhead l hlT D h0 r s.heap.size a1 a2) (cwV 2 hts gL_isAhead_X6_isAhead rfl rfl rfl (by decide +kernel) ⟨Nat.le_of_ble_eq_true rfl, Nat.le_of_ble_eq_true rfl⟩) ⟨fun a U g mk q => ⟨q.1, PX6.blind q.2⟩, va_recv hK hP (ci := 12) (q0 := 0) rfl rfl, fun U hU hW => ⟨rfl, PX6.go hP hK hT hS hA hU hW⟩⟩ rfl rfl hl.1 rfl (lv_room (Nat.le_of_ble_eq_true rfl)) dL_isAhead_5 ⟨Nat.le_of_ble_eq_true rfl, Nat.le_of_ble_eq_true rfl⟩) hS (fun q _ h => h) (fun q h => h) (fun q _ h => h) (fun E ce q9 u t H1 locs1 ht hvm hpx hB hz hk9 hS hcell hv hcl => ?_) (fun r9 u t H1 locs1 ht hvm hw hB hz1 hk1 hS => hw.elim)
  have hE : E = "java/lang/IndexOutOfBoundsException" := hB
  subst hE
  refine vx_catch (name := "java/lang/IndexOutOfBoundsException") hown [] ⟨0, 17, 20, 23⟩ [⟨0, 17, 24, 54⟩] (htab.trans rfl) (fun z hz => absurd hz List.not_mem_nil) (by decide) (by decide) (hts (.classLink RL 23 "java/lang/IndexOutOfBoundsException") (by decide +kernel)) (va_Nw.use rfl (hT.1 (Cond.castable "java/lang/IndexOutOfBoundsException" "java/lang/IndexOutOfBoundsException") (tf_cast (539, "java/lang/IndexOutOfBoundsException") (by decide +kernel)))) hcell hv hcl ?_
  refine lv_astore (lv' := [(4, .ref q9), (0, .ref h0), (1, .int a1), (2, .int a2), (3, .ref o)]) hx hb dL_isAhead_20 hl (by decide) rfl (fun ls hl => ?_)
  refine lv_iconst (v := 1) hx hb dL_isAhead_22 (by decide) ?_
  exact W.iret (v := 1) hx hb hr (fun t ht hW => ⟨⟨1, (), rfl, rfl, trivial⟩, hS.F ht⟩) hS.2.2 dL_isAhead_23
set_option maxHeartbeats 4000000 in
set_option maxRecDepth 100000 in
theorem c_L_post (l : Launch) (hlT : l.stackTraces = false) (D : va_G) (h0 : Nat) (r : Nat → Nat) (o : Nat) (sz : Nat) (a1 a2 a3 : Int32) : Met l yL_post wsL_post ({ frames := 70, cells := 1, slots := 6, locals := 700 }) (va_Pc [.ref h0, .int a1, .int a2, .int a3, .ref o] (PX6 D h0 r sz)) (va_Qi (fun (r9 : Int32) (_ : Unit) => r9 = 1) (fun _ _ => True) (rg0 sz)) 1 6 (rg0 sz) := by
  refine va_MetW (cc := cL_post) (maxL := 6) (ret := (some .int)) (hh := [(0, 12, 15, 23), (0, 12, 19, 13), (0, 12, 23, 17)]) (by decide +kernel) rfl ?_
  intro p e s m args below meth c s₁ B hml hv
  obtain ⟨rfl, hsz, hP, hK, hT⟩ := hv
  have hx := B.exec
  have hb := B.bytes
  have hr := B.returns
  have hts := atoms_spec (ws := wsL_post) B.pre
  have hown : s.vm.findClass RL = some m.cls := findClass_of_methodNamed B.named
  have hlocks := B.notSynchronized
  subst hsz
  have hA : ∀ q : Nat, s.heap.size ≤ q → rg0 s.heap.size q := fun _ h => h
  have hS : va_S (rg0 s.heap.size) s.heap s.heap [] := va_S.rf
  have htab := vx_table (x := yL_post) B (hts (.codeWith yL_post cL_post 6 (some .int) [(0, 12, 15, 23), (0, 12, 19, 13), (0, 12, 23, 17)]) (List.mem_of_getElem? (i := 0) rfl))
  have hl := lv_entry ([.ref h0, .int a1, .int a2, .int a3, .ref o]) (n := 6) (Nat.le_of_ble_eq_true rfl)
  rw [lg_entry_eq]
  generalize (lg_sl ([.ref h0, .int a1, .int a2, .int a3, .ref o]) ++ List.replicate (6 - (lg_sl ([.ref h0, .int a1, .int a2, .int a3, .ref o])).length) Slot.unset).toArray = ls at hl ⊢
  have hl : lv_has ls 6 [(0, .ref h0), (1, .int a1), (2, .int a2), (3, .int a3), (4, .ref o)] := hl
  refine lv_aload hx hb dL_post_0 (lv_at hl 4 rfl) ?_
  refine lv_iconst (v := 0) hx hb dL_post_2 (by decide) ?_
  refine lv_aload_n hx hb dL_post_3 rfl (lv_at hl 0 rfl) ?_
  refine lv_iload_n hx hb dL_post_4 rfl (lv_at hl 1 rfl) ?_
  refine lv_iload_n hx hb dL_post_5 rfl (lv_at hl 2 rfl) ?_
  refine lv_iload_n hx hb dL_post_6 rfl (lv_at hl 3 rfl) ?_
  refine vx_calli (vx_runV (As := [.int a1, .int a2, .int a3]) (rest := [.int 0, .ref o]) ⟨hx, hb, hml, hown, hts⟩ (c_X6_post l hlT D h0 r s.heap.size a1 a2 a3) (cwV 3 hts gL_post_X6_post rfl rfl rfl (by decide +kernel) ⟨Nat.le_of_ble_eq_true rfl, Nat.le_of_ble_eq_true rfl⟩) ⟨fun a U g mk q => ⟨q.1, PX6.blind q.2⟩, va_recv hK hP (ci := 12) (q0 := 0) rfl rfl, fun U hU hW => ⟨rfl, PX6.go hP hK hT hS hA hU hW⟩⟩ rfl rfl hl.1 rfl (lv_room (Nat.le_of_ble_eq_true rfl)) dL_post_7 ⟨Nat.le_of_ble_eq_true rfl, Nat.le_of_ble_eq_true rfl⟩) hS (fun q _ h => h) (fun q h => h) (fun q _ h => h) (fun E ce q9 u t H1 locs1 ht hvm hpx hB hz hk9 hS hcell hv hcl => ?_) (fun r9 u t H1 locs1 ht hvm hw hB hz1 hk1 hS => hw.elim)
  have hE : E = "java/lang/IndexOutOfBoundsException" := hB
  subst hE
  refine vx_catch (name := "java/lang/IndexOutOfBoundsException") hown [] ⟨0, 12, 15, 23⟩ [⟨0, 12, 19, 13⟩, ⟨0, 12, 23, 17⟩] (htab.trans rfl) (fun z hz => absurd hz List.not_mem_nil) (by decide) (by decide) (hts (.classLink RL 23 "java/lang/IndexOutOfBoundsException") (by decide +kernel)) (va_Nw.use rfl (hT.1 (Cond.castable "java/lang/IndexOutOfBoundsException" "java/lang/IndexOutOfBoundsException") (tf_cast (539, "java/lang/IndexOutOfBoundsException") (by decide +kernel)))) hcell hv hcl ?_
  refine lv_astore (lv' := [(5, .ref q9), (0, .ref h0), (1, .int a1), (2, .int a2), (3, .int a3), (4, .ref o)]) hx hb dL_post_15 hl (by decide) rfl (fun ls hl => ?_)
  refine lv_iconst (v := 1) hx hb dL_post_17 (by decide) ?_
  exact W.iret (v := 1) hx hb hr (fun t ht hW => ⟨⟨1, (), rfl, rfl, trivial⟩, hS.F ht⟩) hS.2.2 dL_post_18
set_option maxHeartbeats 4000000 in
set_option maxRecDepth 100000 in
theorem c_L_difference (l : Launch) (hlT : l.stackTraces = false) (D : va_G) (h0 : Nat) (r : Nat → Nat) (o : Nat) (sz : Nat) (a1 a2 : Int32) : Met l yL_difference wsL_difference ({ frames := 70, cells := 1, slots := 6, locals := 700 }) (va_Pc [.ref h0, .int a1, .int a2, .ref o] (PX6 D h0 r sz)) (va_Qi (fun (r9 : Int32) (_ : Unit) => r9 = 1) (fun _ _ => True) (rg0 sz)) 1 6 (rg0 sz) := by
  refine va_MetW (cc := cL_difference) (maxL := 5) (ret := (some .int)) (hh := [(0, 10, 13, 23)]) (by decide +kernel) rfl ?_
  intro p e s m args below meth c s₁ B hml hv
  obtain ⟨rfl, hsz, hP, hK, hT⟩ := hv
  have hx := B.exec
  have hb := B.bytes
  have hr := B.returns
  have hts := atoms_spec (ws := wsL_difference) B.pre
  have hown : s.vm.findClass RL = some m.cls := findClass_of_methodNamed B.named
  have hlocks := B.notSynchronized
  subst hsz
  have hA : ∀ q : Nat, s.heap.size ≤ q → rg0 s.heap.size q := fun _ h => h
  have hS : va_S (rg0 s.heap.size) s.heap s.heap [] := va_S.rf
  have htab := vx_table (x := yL_difference) B (hts (.codeWith yL_difference cL_difference 5 (some .int) [(0, 10, 13, 23)]) (List.mem_of_getElem? (i := 0) rfl))
  have hl := lv_entry ([.ref h0, .int a1, .int a2, .ref o]) (n := 5) (Nat.le_of_ble_eq_true rfl)
  rw [lg_entry_eq]
  generalize (lg_sl ([.ref h0, .int a1, .int a2, .ref o]) ++ List.replicate (5 - (lg_sl ([.ref h0, .int a1, .int a2, .ref o])).length) Slot.unset).toArray = ls at hl ⊢
  have hl : lv_has ls 5 [(0, .ref h0), (1, .int a1), (2, .int a2), (3, .ref o)] := hl
  refine lv_aload_n hx hb dL_difference_0 rfl (lv_at hl 3 rfl) ?_
  refine lv_iconst (v := 0) hx hb dL_difference_1 (by decide) ?_
  refine lv_aload_n hx hb dL_difference_2 rfl (lv_at hl 0 rfl) ?_
  refine lv_iload_n hx hb dL_difference_3 rfl (lv_at hl 1 rfl) ?_
  refine lv_iload_n hx hb dL_difference_4 rfl (lv_at hl 2 rfl) ?_
  refine vx_calli (vx_runV (As := [.int a1, .int a2]) (rest := [.int 0, .ref o]) ⟨hx, hb, hml, hown, hts⟩ (c_X6_difference l hlT D h0 r s.heap.size a1 a2) (cwV 2 hts gL_difference_X6_difference rfl rfl rfl (by decide +kernel) ⟨Nat.le_of_ble_eq_true rfl, Nat.le_of_ble_eq_true rfl⟩) ⟨fun a U g mk q => ⟨q.1, PX6.blind q.2⟩, va_recv hK hP (ci := 12) (q0 := 0) rfl rfl, fun U hU hW => ⟨rfl, PX6.go hP hK hT hS hA hU hW⟩⟩ rfl rfl hl.1 rfl (lv_room (Nat.le_of_ble_eq_true rfl)) dL_difference_5 ⟨Nat.le_of_ble_eq_true rfl, Nat.le_of_ble_eq_true rfl⟩) hS (fun q _ h => h) (fun q h => h) (fun q _ h => h) (fun E ce q9 u t H1 locs1 ht hvm hpx hB hz hk9 hS hcell hv hcl => ?_) (fun r9 u t H1 locs1 ht hvm hw hB hz1 hk1 hS => hw.elim)
  have hE : E = "java/lang/IndexOutOfBoundsException" := hB
  subst hE
  refine vx_catch (name := "java/lang/IndexOutOfBoundsException") hown [] ⟨0, 10, 13, 23⟩ [] (htab.trans rfl) (fun z hz => absurd hz List.not_mem_nil) (by decide) (by decide) (hts (.classLink RL 23 "java/lang/IndexOutOfBoundsException") (by decide +kernel)) (va_Nw.use rfl (hT.1 (Cond.castable "java/lang/IndexOutOfBoundsException" "java/lang/IndexOutOfBoundsException") (tf_cast (539, "java/lang/IndexOutOfBoundsException") (by decide +kernel)))) hcell hv hcl ?_
  refine lv_astore (lv' := [(4, .ref q9), (0, .ref h0), (1, .int a1), (2, .int a2), (3, .ref o)]) hx hb dL_difference_13 hl (by decide) rfl (fun ls hl => ?_)
  refine lv_iconst (v := 1) hx hb dL_difference_15 (by decide) ?_
  exact W.iret (v := 1) hx hb hr (fun t ht hW => ⟨⟨1, (), rfl, rfl, trivial⟩, hS.F ht⟩) hS.2.2 dL_difference_16
set_option maxHeartbeats 4000000 in
set_option maxRecDepth 100000 in
theorem c_L_index (l : Launch) (hlT : l.stackTraces = false) (D : va_G) (h0 : Nat) (r : Nat → Nat) (o : Nat) (sz : Nat) (a1 : Int32) : Met l yL_index wsL_index ({ frames := 70, cells := 1, slots := 6, locals := 700 }) (va_Pc [.ref h0, .int a1, .ref o] (PX6 D h0 r sz)) (va_Qi (fun (r9 : Int32) (_ : Unit) => r9 = 1) (fun _ _ => True) (rg0 sz)) 1 6 (rg0 sz) := by
  refine va_MetW (cc := cL_index) (maxL := 4) (ret := (some .int)) (hh := [(0, 9, 12, 23), (0, 9, 15, 54)]) (by decide +kernel) rfl ?_
  intro p e s m args below meth c s₁ B hml hv
  obtain ⟨rfl, hsz, hP, hK, hT⟩ := hv
  have hx := B.exec
  have hb := B.bytes
  have hr := B.returns
  have hts := atoms_spec (ws := wsL_index) B.pre
  have hown : s.vm.findClass RL = some m.cls := findClass_of_methodNamed B.named
  have hlocks := B.notSynchronized
  subst hsz
  have hA : ∀ q : Nat, s.heap.size ≤ q → rg0 s.heap.size q := fun _ h => h
  have hS : va_S (rg0 s.heap.size) s.heap s.heap [] := va_S.rf
  have htab := vx_table (x := yL_index) B (hts (.codeWith yL_index cL_index 4 (some .int) [(0, 9, 12, 23), (0, 9, 15, 54)]) (List.mem_of_getElem? (i := 0) rfl))
  have hl := lv_entry ([.ref h0, .int a1, .ref o]) (n := 4) (Nat.le_of_ble_eq_true rfl)
  rw [lg_entry_eq]
  generalize (lg_sl ([.ref h0, .int a1, .ref o]) ++ List.replicate (4 - (lg_sl ([.ref h0, .int a1, .ref o])).length) Slot.unset).toArray = ls at hl ⊢
  have hl : lv_has ls 4 [(0, .ref h0), (1, .int a1), (2, .ref o)] := hl
  refine lv_aload_n hx hb dL_index_0 rfl (lv_at hl 2 rfl) ?_
  refine lv_iconst (v := 0) hx hb dL_index_1 (by decide) ?_
  refine lv_aload_n hx hb dL_index_2 rfl (lv_at hl 0 rfl) ?_
  refine lv_iload_n hx hb dL_index_3 rfl (lv_at hl 1 rfl) ?_
  refine vx_calli (vx_runV (As := [.int a1]) (rest := [.int 0, .ref o]) ⟨hx, hb, hml, hown, hts⟩ (c_X6_index l hlT D h0 r s.heap.size a1) (cwV 1 hts gL_index_X6_index rfl rfl rfl (by decide +kernel) ⟨Nat.le_of_ble_eq_true rfl, Nat.le_of_ble_eq_true rfl⟩) ⟨fun a U g mk q => ⟨q.1, PX6.blind q.2⟩, va_recv hK hP (ci := 12) (q0 := 0) rfl rfl, fun U hU hW => ⟨rfl, PX6.go hP hK hT hS hA hU hW⟩⟩ rfl rfl hl.1 rfl (lv_room (Nat.le_of_ble_eq_true rfl)) dL_index_4 ⟨Nat.le_of_ble_eq_true rfl, Nat.le_of_ble_eq_true rfl⟩) hS (fun q _ h => h) (fun q h => h) (fun q _ h => h) (fun E ce q9 u t H1 locs1 ht hvm hpx hB hz hk9 hS hcell hv hcl => ?_) (fun r9 u t H1 locs1 ht hvm hw hB hz1 hk1 hS => hw.elim)
  have hE : E = "java/lang/IndexOutOfBoundsException" := hB
  subst hE
  refine vx_catch (name := "java/lang/IndexOutOfBoundsException") hown [] ⟨0, 9, 12, 23⟩ [⟨0, 9, 15, 54⟩] (htab.trans rfl) (fun z hz => absurd hz List.not_mem_nil) (by decide) (by decide) (hts (.classLink RL 23 "java/lang/IndexOutOfBoundsException") (by decide +kernel)) (va_Nw.use rfl (hT.1 (Cond.castable "java/lang/IndexOutOfBoundsException" "java/lang/IndexOutOfBoundsException") (tf_cast (539, "java/lang/IndexOutOfBoundsException") (by decide +kernel)))) hcell hv hcl ?_
  refine lv_astore_n (lv' := [(3, .ref q9), (0, .ref h0), (1, .int a1), (2, .ref o)]) hx hb dL_index_12 rfl hl (by decide) rfl (fun ls hl => ?_)
  refine lv_iconst (v := 1) hx hb dL_index_13 (by decide) ?_
  exact W.iret (v := 1) hx hb hr (fun t ht hW => ⟨⟨1, (), rfl, rfl, trivial⟩, hS.F ht⟩) hS.2.2 dL_index_14
set_option maxHeartbeats 4000000 in
set_option maxRecDepth 100000 in
theorem c_L_lowIndex (l : Launch) (hlT : l.stackTraces = false) (D : va_G) (h0 : Nat) (r : Nat → Nat) (o : Nat) (sz : Nat) (a1 : Int32) : Met l yL_lowIndex wsL_lowIndex ({ frames := 70, cells := 1, slots := 6, locals := 700 }) (va_Pc [.ref h0, .int a1, .ref o] (PX6 D h0 r sz)) (va_Qi (fun (r9 : Int32) (_ : Unit) => r9 = 1) (fun _ _ => True) (rg0 sz)) 1 6 (rg0 sz) := by
  refine va_MetW (cc := cL_lowIndex) (maxL := 4) (ret := (some .int)) (hh := [(0, 9, 12, 23), (0, 9, 15, 54)]) (by decide +kernel) rfl ?_
  intro p e s m args below meth c s₁ B hml hv
  obtain ⟨rfl, hsz, hP, hK, hT⟩ := hv
  have hx := B.exec
  have hb := B.bytes
  have hr := B.returns
  have hts := atoms_spec (ws := wsL_lowIndex) B.pre
  have hown : s.vm.findClass RL = some m.cls := findClass_of_methodNamed B.named
  have hlocks := B.notSynchronized
  subst hsz
  have hA : ∀ q : Nat, s.heap.size ≤ q → rg0 s.heap.size q := fun _ h => h
  have hS : va_S (rg0 s.heap.size) s.heap s.heap [] := va_S.rf
  have htab := vx_table (x := yL_lowIndex) B (hts (.codeWith yL_lowIndex cL_lowIndex 4 (some .int) [(0, 9, 12, 23), (0, 9, 15, 54)]) (List.mem_of_getElem? (i := 0) rfl))
  have hl := lv_entry ([.ref h0, .int a1, .ref o]) (n := 4) (Nat.le_of_ble_eq_true rfl)
  rw [lg_entry_eq]
  generalize (lg_sl ([.ref h0, .int a1, .ref o]) ++ List.replicate (4 - (lg_sl ([.ref h0, .int a1, .ref o])).length) Slot.unset).toArray = ls at hl ⊢
  have hl : lv_has ls 4 [(0, .ref h0), (1, .int a1), (2, .ref o)] := hl
  refine lv_aload_n hx hb dL_lowIndex_0 rfl (lv_at hl 2 rfl) ?_
  refine lv_iconst (v := 0) hx hb dL_lowIndex_1 (by decide) ?_
  refine lv_aload_n hx hb dL_lowIndex_2 rfl (lv_at hl 0 rfl) ?_
  refine lv_iload_n hx hb dL_lowIndex_3 rfl (lv_at hl 1 rfl) ?_
  refine vx_calli (vx_runV (As := [.int a1]) (rest := [.int 0, .ref o]) ⟨hx, hb, hml, hown, hts⟩ (c_X6_lowIndex l hlT D h0 r s.heap.size a1) (cwV 1 hts gL_lowIndex_X6_lowIndex rfl rfl rfl (by decide +kernel) ⟨Nat.le_of_ble_eq_true rfl, Nat.le_of_ble_eq_true rfl⟩) ⟨fun a U g mk q => ⟨q.1, PX6.blind q.2⟩, va_recv hK hP (ci := 12) (q0 := 0) rfl rfl, fun U hU hW => ⟨rfl, PX6.go hP hK hT hS hA hU hW⟩⟩ rfl rfl hl.1 rfl (lv_room (Nat.le_of_ble_eq_true rfl)) dL_lowIndex_4 ⟨Nat.le_of_ble_eq_true rfl, Nat.le_of_ble_eq_true rfl⟩) hS (fun q _ h => h) (fun q h => h) (fun q _ h => h) (fun E ce q9 u t H1 locs1 ht hvm hpx hB hz hk9 hS hcell hv hcl => ?_) (fun r9 u t H1 locs1 ht hvm hw hB hz1 hk1 hS => hw.elim)
  have hE : E = "java/lang/IndexOutOfBoundsException" := hB
  subst hE
  refine vx_catch (name := "java/lang/IndexOutOfBoundsException") hown [] ⟨0, 9, 12, 23⟩ [⟨0, 9, 15, 54⟩] (htab.trans rfl) (fun z hz => absurd hz List.not_mem_nil) (by decide) (by decide) (hts (.classLink RL 23 "java/lang/IndexOutOfBoundsException") (by decide +kernel)) (va_Nw.use rfl (hT.1 (Cond.castable "java/lang/IndexOutOfBoundsException" "java/lang/IndexOutOfBoundsException") (tf_cast (539, "java/lang/IndexOutOfBoundsException") (by decide +kernel)))) hcell hv hcl ?_
  refine lv_astore_n (lv' := [(3, .ref q9), (0, .ref h0), (1, .int a1), (2, .ref o)]) hx hb dL_lowIndex_12 rfl hl (by decide) rfl (fun ls hl => ?_)
  refine lv_iconst (v := 1) hx hb dL_lowIndex_13 (by decide) ?_
  exact W.iret (v := 1) hx hb hr (fun t ht hW => ⟨⟨1, (), rfl, rfl, trivial⟩, hS.F ht⟩) hS.2.2 dL_lowIndex_14
set_option maxHeartbeats 4000000 in
set_option maxRecDepth 100000 in
theorem c_L_penaltyShare (l : Launch) (hlT : l.stackTraces = false) (D : va_G) (h0 : Nat) (r : Nat → Nat) (o : Nat) (sz : Nat) (a1 : Int32) : Met l yL_penaltyShare wsL_penaltyShare ({ frames := 70, cells := 1, slots := 6, locals := 700 }) (va_Pc [.ref h0, .int a1, .ref o] (PX6 D h0 r sz)) (va_Qi (fun (r9 : Int32) (_ : Unit) => r9 = 1) (fun _ _ => True) (rg0 sz)) 1 6 (rg0 sz) := by
  refine va_MetW (cc := cL_penaltyShare) (maxL := 4) (ret := (some .int)) (hh := [(0, 9, 12, 23), (0, 9, 15, 195)]) (by decide +kernel) rfl ?_
  intro p e s m args below meth c s₁ B hml hv
  obtain ⟨rfl, hsz, hP, hK, hT⟩ := hv
  have hx := B.exec
  have hb := B.bytes
  have hr := B.returns
  have hts := atoms_spec (ws := wsL_penaltyShare) B.pre
  have hown : s.vm.findClass RL = some m.cls := findClass_of_methodNamed B.named
  have hlocks := B.notSynchronized
  subst hsz
  have hA : ∀ q : Nat, s.heap.size ≤ q → rg0 s.heap.size q := fun _ h => h
  have hS : va_S (rg0 s.heap.size) s.heap s.heap [] := va_S.rf
  have htab := vx_table (x := yL_penaltyShare) B (hts (.codeWith yL_penaltyShare cL_penaltyShare 4 (some .int) [(0, 9, 12, 23), (0, 9, 15, 195)]) (List.mem_of_getElem? (i := 0) rfl))
  have hl := lv_entry ([.ref h0, .int a1, .ref o]) (n := 4) (Nat.le_of_ble_eq_true rfl)
  rw [lg_entry_eq]
  generalize (lg_sl ([.ref h0, .int a1, .ref o]) ++ List.replicate (4 - (lg_sl ([.ref h0, .int a1, .ref o])).length) Slot.unset).toArray = ls at hl ⊢
  have hl : lv_has ls 4 [(0, .ref h0), (1, .int a1), (2, .ref o)] := hl
  refine lv_aload_n hx hb dL_penaltyShare_0 rfl (lv_at hl 2 rfl) ?_
  refine lv_iconst (v := 0) hx hb dL_penaltyShare_1 (by decide) ?_
  refine lv_aload_n hx hb dL_penaltyShare_2 rfl (lv_at hl 0 rfl) ?_
  refine lv_iload_n hx hb dL_penaltyShare_3 rfl (lv_at hl 1 rfl) ?_
  refine vx_callf (vx_runV (As := [.int a1]) (rest := [.int 0, .ref o]) ⟨hx, hb, hml, hown, hts⟩ (c_X6_penaltyShare l hlT D h0 r s.heap.size a1) (cwV 1 hts gL_penaltyShare_X6_penaltyShare rfl rfl rfl (by decide +kernel) ⟨Nat.le_of_ble_eq_true rfl, Nat.le_of_ble_eq_true rfl⟩) ⟨fun a U g mk q => ⟨q.1, PX6.blind q.2⟩, va_recv hK hP (ci := 12) (q0 := 0) rfl rfl, fun U hU hW => ⟨rfl, PX6.go hP hK hT hS hA hU hW⟩⟩ rfl rfl hl.1 rfl (lv_room (Nat.le_of_ble_eq_true rfl)) dL_penaltyShare_4 ⟨Nat.le_of_ble_eq_true rfl, Nat.le_of_ble_eq_true rfl⟩) hS (fun q _ h => h) (fun q h => h) (fun q _ h => h) (fun E ce q9 u t H1 locs1 ht hvm hpx hB hz hk9 hS hcell hv hcl => ?_) (fun r9 u t H1 locs1 ht hvm hw hB hz1 hk1 hS => hw.elim)
  have hE : E = "java/lang/IndexOutOfBoundsException" := hB
  subst hE
  refine vx_catch (name := "java/lang/IndexOutOfBoundsException") hown [] ⟨0, 9, 12, 23⟩ [⟨0, 9, 15, 195⟩] (htab.trans rfl) (fun z hz => absurd hz List.not_mem_nil) (by decide) (by decide) (hts (.classLink RL 23 "java/lang/IndexOutOfBoundsException") (by decide +kernel)) (va_Nw.use rfl (hT.1 (Cond.castable "java/lang/IndexOutOfBoundsException" "java/lang/IndexOutOfBoundsException") (tf_cast (539, "java/lang/IndexOutOfBoundsException") (by decide +kernel)))) hcell hv hcl ?_
  refine lv_astore_n (lv' := [(3, .ref q9), (0, .ref h0), (1, .int a1), (2, .ref o)]) hx hb dL_penaltyShare_12 rfl hl (by decide) rfl (fun ls hl => ?_)
  refine lv_iconst (v := 1) hx hb dL_penaltyShare_13 (by decide) ?_
  exact W.iret (v := 1) hx hb hr (fun t ht hW => ⟨⟨1, (), rfl, rfl, trivial⟩, hS.F ht⟩) hS.2.2 dL_penaltyShare_14
set_option maxHeartbeats 4000000 in
set_option maxRecDepth 100000 in
theorem c_L_meanScore (l : Launch) (hlT : l.stackTraces = false) (D : va_G) (h0 : Nat) (r : Nat → Nat) (o : Nat) (sz : Nat) (a1 : Int32) : Met l yL_meanScore wsL_meanScore ({ frames := 70, cells := 1, slots := 6, locals := 700 }) (va_Pc [.ref h0, .int a1, .ref o] (PX6 D h0 r sz)) (va_Qi (fun (r9 : Int32) (_ : Unit) => r9 = 1) (fun _ _ => True) (rg0 sz)) 1 6 (rg0 sz) := by
  refine va_MetW (cc := cL_meanScore) (maxL := 4) (ret := (some .int)) (hh := [(0, 8, 11, 23), (0, 8, 14, 195)]) (by decide +kernel) rfl ?_
  intro p e s m args below meth c s₁ B hml hv
  obtain ⟨rfl, hsz, hP, hK, hT⟩ := hv
  have hx := B.exec
  have hb := B.bytes
  have hr := B.returns
  have hts := atoms_spec (ws := wsL_meanScore) B.pre
  have hown : s.vm.findClass RL = some m.cls := findClass_of_methodNamed B.named
  have hlocks := B.notSynchronized
  subst hsz
  have hA : ∀ q : Nat, s.heap.size ≤ q → rg0 s.heap.size q := fun _ h => h
  have hS : va_S (rg0 s.heap.size) s.heap s.heap [] := va_S.rf
  have htab := vx_table (x := yL_meanScore) B (hts (.codeWith yL_meanScore cL_meanScore 4 (some .int) [(0, 8, 11, 23), (0, 8, 14, 195)]) (List.mem_of_getElem? (i := 0) rfl))
  have hl := lv_entry ([.ref h0, .int a1, .ref o]) (n := 4) (Nat.le_of_ble_eq_true rfl)
  rw [lg_entry_eq]
  generalize (lg_sl ([.ref h0, .int a1, .ref o]) ++ List.replicate (4 - (lg_sl ([.ref h0, .int a1, .ref o])).length) Slot.unset).toArray = ls at hl ⊢
  have hl : lv_has ls 4 [(0, .ref h0), (1, .int a1), (2, .ref o)] := hl
  refine lv_aload_n hx hb dL_meanScore_0 rfl (lv_at hl 2 rfl) ?_
  refine lv_iconst (v := 0) hx hb dL_meanScore_1 (by decide) ?_
  refine lv_aload_n hx hb dL_meanScore_2 rfl (lv_at hl 0 rfl) ?_
  refine lv_iload_n hx hb dL_meanScore_3 rfl (lv_at hl 1 rfl) ?_
  refine vx_calld (vx_runV (As := [.int a1]) (rest := [.int 0, .ref o]) ⟨hx, hb, hml, hown, hts⟩ (c_X6_meanScore l hlT D h0 r s.heap.size a1) (cwV 1 hts gL_meanScore_X6_meanScore rfl rfl rfl (by decide +kernel) ⟨Nat.le_of_ble_eq_true rfl, Nat.le_of_ble_eq_true rfl⟩) ⟨fun a U g mk q => ⟨q.1, PX6.blind q.2⟩, va_recv hK hP (ci := 12) (q0 := 0) rfl rfl, fun U hU hW => ⟨rfl, PX6.go hP hK hT hS hA hU hW⟩⟩ rfl rfl hl.1 rfl (lv_room (Nat.le_of_ble_eq_true rfl)) dL_meanScore_4 ⟨Nat.le_of_ble_eq_true rfl, Nat.le_of_ble_eq_true rfl⟩) hS (fun q _ h => h) (fun q h => h) (fun q _ h => h) (fun E ce q9 u t H1 locs1 ht hvm hpx hB hz hk9 hS hcell hv hcl => ?_) (fun r9 u t H1 locs1 ht hvm hw hB hz1 hk1 hS => hw.elim)
  have hE : E = "java/lang/IndexOutOfBoundsException" := hB
  subst hE
  refine vx_catch (name := "java/lang/IndexOutOfBoundsException") hown [] ⟨0, 8, 11, 23⟩ [⟨0, 8, 14, 195⟩] (htab.trans rfl) (fun z hz => absurd hz List.not_mem_nil) (by decide) (by decide) (hts (.classLink RL 23 "java/lang/IndexOutOfBoundsException") (by decide +kernel)) (va_Nw.use rfl (hT.1 (Cond.castable "java/lang/IndexOutOfBoundsException" "java/lang/IndexOutOfBoundsException") (tf_cast (539, "java/lang/IndexOutOfBoundsException") (by decide +kernel)))) hcell hv hcl ?_
  refine lv_astore_n (lv' := [(3, .ref q9), (0, .ref h0), (1, .int a1), (2, .ref o)]) hx hb dL_meanScore_11 rfl hl (by decide) rfl (fun ls hl => ?_)
  refine lv_iconst (v := 1) hx hb dL_meanScore_12 (by decide) ?_
  exact W.iret (v := 1) hx hb hr (fun t ht hW => ⟨⟨1, (), rfl, rfl, trivial⟩, hS.F ht⟩) hS.2.2 dL_meanScore_13
