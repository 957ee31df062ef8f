set_option maxRecDepth 20000 in
theorem ggX6_area_X6_needHole : GoodIn wsX6_area wsX6_needHole := goodIn_ca (goodIn_r _ [12, 13, 14, 15, 31, 32, 33, 34, 35, 36, 37, 38, 39, 40, 41, 42, 43, 44] (by decide +kernel) (by decide +kernel)) (goodIn_sub (fun _ h => List.mem_cons_of_mem _ (List.mem_append_left _ (List.mem_append_right _ h))) (by decide +kernel))
set_option maxRecDepth 20000 in
theorem gX6_area_X6_needHole : GoodIn wsX6_area (wsV RX6 95 RX6 yX6_needHole wsX6_needHole) := goodIn_app (goodIn_of _ (by decide +kernel)) ggX6_area_X6_needHole
theorem dX6_area_0 : decode cX6_area 0 = .ok (.aload_n 0, 1) := by decide +kernel
theorem dX6_area_1 : decode cX6_area 1 = .ok (.iload_n 1, 1) := by decide +kernel
theorem dX6_area_2 : decode cX6_area 2 = .ok (.invokevirtual 95, 3) := by decide +kernel
set_option maxRecDepth 20000 in
theorem ggX6_kindAt_X6_needHole : GoodIn wsX6_kindAt wsX6_needHole := goodIn_ca (goodIn_r _ [6, 7, 8, 9, 25, 26, 27, 28, 29, 30, 31, 32, 33, 34, 35, 36, 37, 38] (by decide +kernel) (by decide +kernel)) (goodIn_sub (fun _ h => List.mem_cons_of_mem _ (List.mem_append_left _ (List.mem_append_right _ h))) (by decide +kernel))
set_option maxRecDepth 20000 in
theorem gX6_kindAt_X6_needHole : GoodIn wsX6_kindAt (wsV RX6 95 RX6 yX6_needHole wsX6_needHole) := goodIn_app (goodIn_of _ (by decide +kernel)) ggX6_kindAt_X6_needHole
theorem dX6_kindAt_0 : decode cX6_kindAt 0 = .ok (.aload_n 0, 1) := by decide +kernel
theorem dX6_kindAt_1 : decode cX6_kindAt 1 = .ok (.iload_n 1, 1) := by decide +kernel
theorem dX6_kindAt_2 : decode cX6_kindAt 2 = .ok (.invokevirtual 95, 3) := by decide +kernel
set_option maxRecDepth 20000 in
theorem ggX6_setHandicap_X6_needPlayer : GoodIn wsX6_setHandicap wsX6_needPlayer := goodIn_ca (goodIn_r _ [12, 13, 14, 15, 16, 17, 18, 19, 20, 21, 22, 23, 24, 25, 26, 27, 28, 29] (by decide +kernel) (by decide +kernel)) (goodIn_sub (fun _ h => List.mem_cons_of_mem _ (List.mem_append_right _ h)) (by decide +kernel))
set_option maxRecDepth 20000 in
theorem gX6_setHandicap_X6_needPlayer : GoodIn wsX6_setHandicap (wsV RX6 127 RX6 yX6_needPlayer wsX6_needPlayer) := goodIn_app (goodIn_of _ (by decide +kernel)) ggX6_setHandicap_X6_needPlayer
theorem dX6_setHandicap_0 : decode cX6_setHandicap 0 = .ok (.aload_n 0, 1) := by decide +kernel
theorem dX6_setHandicap_1 : decode cX6_setHandicap 1 = .ok (.iload_n 1, 1) := by decide +kernel
theorem dX6_setHandicap_2 : decode cX6_setHandicap 2 = .ok (.invokevirtual 127, 3) := by decide +kernel
set_option maxRecDepth 20000 in
theorem ggX6_gets_X6_needPlayer : GoodIn wsX6_gets wsX6_needPlayer := goodIn_ca (goodIn_r _ [7, 8, 9, 10, 22, 23, 24, 25, 26, 27, 28, 29, 30, 31, 32, 33, 34, 35] (by decide +kernel) (by decide +kernel)) (goodIn_sub (fun _ h => List.mem_cons_of_mem _ (List.mem_append_left _ (List.mem_append_right _ h))) (by decide +kernel))
set_option maxRecDepth 20000 in
theorem gX6_gets_X6_needPlayer : GoodIn wsX6_gets (wsV RX6 127 RX6 yX6_needPlayer wsX6_needPlayer) := goodIn_app (goodIn_of _ (by decide +kernel)) ggX6_gets_X6_needPlayer
theorem dX6_gets_0 : decode cX6_gets 0 = .ok (.aload_n 0, 1) := by decide +kernel
theorem dX6_gets_1 : decode cX6_gets 1 = .ok (.iload_n 1, 1) := by decide +kernel
theorem dX6_gets_2 : decode cX6_gets 2 = .ok (.invokevirtual 127, 3) := by decide +kernel
set_option maxRecDepth 20000 in
theorem ggX6_holeOn_X6_needRound : GoodIn wsX6_holeOn wsX6_needRound := goodIn_ca (goodIn_r _ [6, 7, 8, 9, 10, 11, 12, 13, 14, 15, 16, 17, 18, 19, 20, 21, 22, 23] (by decide +kernel) (by decide +kernel)) (goodIn_sub (fun _ h => List.mem_cons_of_mem _ (List.mem_append_right _ h)) (by decide +kernel))
set_option maxRecDepth 20000 in
theorem gX6_holeOn_X6_needRound : GoodIn wsX6_holeOn (wsV RX6 167 RX6 yX6_needRound wsX6_needRound) := goodIn_app (goodIn_of _ (by decide +kernel)) ggX6_holeOn_X6_needRound
theorem dX6_holeOn_0 : decode cX6_holeOn 0 = .ok (.aload_n 0, 1) := by decide +kernel
theorem dX6_holeOn_1 : decode cX6_holeOn 1 = .ok (.invokevirtual 167, 3) := by decide +kernel
set_option maxRecDepth 20000 in
theorem ggX6_away_X6_needRound : GoodIn wsX6_away wsX6_needRound := goodIn_ca (goodIn_r _ [7, 8, 9, 10, 42, 43, 44, 45, 46, 47, 48, 49, 50, 51, 52, 53, 54, 55] (by decide +kernel) (by decide +kernel)) (goodIn_sub (fun _ h => List.mem_cons_of_mem _ (List.mem_append_left _ (List.mem_append_right _ h))) (by decide +kernel))
set_option maxRecDepth 20000 in
theorem gX6_away_X6_needRound : GoodIn wsX6_away (wsV RX6 167 RX6 yX6_needRound wsX6_needRound) := goodIn_app (goodIn_of _ (by decide +kernel)) ggX6_away_X6_needRound
theorem dX6_away_0 : decode cX6_away 0 = .ok (.aload_n 0, 1) := by decide +kernel
theorem dX6_away_1 : decode cX6_away 1 = .ok (.invokevirtual 167, 3) := by decide +kernel
set_option maxRecDepth 20000 in
theorem ggX6_stroke_X6_needPlayer : GoodIn wsX6_stroke wsX6_needPlayer := goodIn_ca (goodIn_r _ [16, 17, 18, 19, 147, 148, 149, 150, 151, 152, 153, 154, 155, 156, 157, 158, 159, 160] (by decide +kernel) (by decide +kernel)) (goodIn_sub (fun _ h => List.mem_cons_of_mem _ (List.mem_append_left _ (List.mem_append_left _ (List.mem_append_left _ (List.mem_append_left _ (List.mem_append_right _ h)))))) (by decide +kernel))
set_option maxRecDepth 20000 in
theorem gX6_stroke_X6_needPlayer : GoodIn wsX6_stroke (wsV RX6 127 RX6 yX6_needPlayer wsX6_needPlayer) := goodIn_app (goodIn_of _ (by decide +kernel)) ggX6_stroke_X6_needPlayer
theorem dX6_stroke_0 : decode cX6_stroke 0 = .ok (.aload_n 0, 1) := by decide +kernel
theorem dX6_stroke_1 : decode cX6_stroke 1 = .ok (.iload_n 1, 1) := by decide +kernel
theorem dX6_stroke_2 : decode cX6_stroke 2 = .ok (.invokevirtual 127, 3) := by decide +kernel
set_option maxRecDepth 20000 in
theorem ggX6_odds_X6_needPlayer : GoodIn wsX6_odds wsX6_needPlayer := goodIn_ca (goodIn_r _ [13, 14, 15, 16, 76, 77, 78, 79, 80, 81, 82, 83, 84, 85, 86, 87, 88, 89] (by decide +kernel) (by decide +kernel)) (goodIn_sub (fun _ h => List.mem_cons_of_mem _ (List.mem_append_left _ (List.mem_append_left _ (List.mem_append_left _ (List.mem_append_right _ h))))) (by decide +kernel))
set_option maxRecDepth 20000 in
theorem gX6_odds_X6_needPlayer : GoodIn wsX6_odds (wsV RX6 127 RX6 yX6_needPlayer wsX6_needPlayer) := goodIn_app (goodIn_of _ (by decide +kernel)) ggX6_odds_X6_needPlayer
theorem dX6_odds_0 : decode cX6_odds 0 = .ok (.aload_n 0, 1) := by decide +kernel
theorem dX6_odds_1 : decode cX6_odds 1 = .ok (.iload_n 1, 1) := by decide +kernel
theorem dX6_odds_2 : decode cX6_odds 2 = .ok (.invokevirtual 127, 3) := by decide +kernel
set_option maxRecDepth 20000 in
theorem ggX6_provisional_X6_needPlayer : GoodIn wsX6_provisional wsX6_needPlayer := goodIn_ca (goodIn_r _ [18, 19, 20, 21, 80, 81, 82, 83, 84, 85, 86, 87, 88, 89, 90, 91, 92, 93] (by decide +kernel) (by decide +kernel)) (goodIn_sub (fun _ h => List.mem_cons_of_mem _ (List.mem_append_left _ (List.mem_append_left _ (List.mem_append_left _ (List.mem_append_right _ h))))) (by decide +kernel))
set_option maxRecDepth 20000 in
theorem gX6_provisional_X6_needPlayer : GoodIn wsX6_provisional (wsV RX6 127 RX6 yX6_needPlayer wsX6_needPlayer) := goodIn_app (goodIn_of _ (by decide +kernel)) ggX6_provisional_X6_needPlayer
theorem dX6_provisional_0 : decode cX6_provisional 0 = .ok (.aload_n 0, 1) := by decide +kernel
theorem dX6_provisional_1 : decode cX6_provisional 1 = .ok (.iload_n 1, 1) := by decide +kernel
theorem dX6_provisional_2 : decode cX6_provisional 2 = .ok (.invokevirtual 127, 3) := by decide +kernel
set_option maxRecDepth 20000 in
theorem ggX6_search_X6_needPlayer : GoodIn wsX6_search wsX6_needPlayer := goodIn_ca (goodIn_r _ [15, 16, 17, 18, 54, 55, 56, 57, 58, 59, 60, 61, 62, 63, 64, 65, 66, 67] (by decide +kernel) (by decide +kernel)) (goodIn_sub (fun _ h => List.mem_cons_of_mem _ (List.mem_append_left _ (List.mem_append_left _ (List.mem_append_left _ (List.mem_append_right _ h))))) (by decide +kernel))
set_option maxRecDepth 20000 in
theorem gX6_search_X6_needPlayer : GoodIn wsX6_search (wsV RX6 127 RX6 yX6_needPlayer wsX6_needPlayer) := goodIn_app (goodIn_of _ (by decide +kernel)) ggX6_search_X6_needPlayer
theorem dX6_search_0 : decode cX6_search 0 = .ok (.aload_n 0, 1) := by decide +kernel
theorem dX6_search_1 : decode cX6_search 1 = .ok (.iload_n 1, 1) := by decide +kernel
theorem dX6_search_2 : decode cX6_search 2 = .ok (.invokevirtual 127, 3) := by decide +kernel
set_option maxRecDepth 20000 in
theorem ggX6_again_X6_needPlayer : GoodIn wsX6_again wsX6_needPlayer := goodIn_ca (goodIn_r _ [12, 13, 14, 15, 53, 54, 55, 56, 57, 58, 59, 60, 61, 62, 63, 64, 65, 66] (by decide +kernel) (by decide +kernel)) (goodIn_sub (fun _ h => List.mem_cons_of_mem _ (List.mem_append_left _ (List.mem_append_right _ h))) (by decide +kernel))
set_option maxRecDepth 20000 in
theorem gX6_again_X6_needPlayer : GoodIn wsX6_again (wsV RX6 127 RX6 yX6_needPlayer wsX6_needPlayer) := goodIn_app (goodIn_of _ (by decide +kernel)) ggX6_again_X6_needPlayer
theorem dX6_again_0 : decode cX6_again 0 = .ok (.aload_n 0, 1) := by decide +kernel
theorem dX6_again_1 : decode cX6_again 1 = .ok (.iload_n 1, 1) := by decide +kernel
theorem dX6_again_2 : decode cX6_again 2 = .ok (.invokevirtual 127, 3) := by decide +kernel
set_option maxRecDepth 20000 in
theorem ggX6_line_X6_needPlayer : GoodIn wsX6_line wsX6_needPlayer := goodIn_ca (goodIn_r _ [14, 15, 16, 17, 82, 83, 84, 85, 86, 87, 88, 89, 90, 91, 92, 93, 94, 95] (by decide +kernel) (by decide +kernel)) (goodIn_sub (fun _ h => List.mem_cons_of_mem _ (List.mem_append_left _ (List.mem_append_left _ (List.mem_append_left _ (List.mem_append_right _ h))))) (by decide +kernel))
set_option maxRecDepth 20000 in
theorem gX6_line_X6_needPlayer : GoodIn wsX6_line (wsV RX6 127 RX6 yX6_needPlayer wsX6_needPlayer) := goodIn_app (goodIn_of _ (by decide +kernel)) ggX6_line_X6_needPlayer
theorem dX6_line_0 : decode cX6_line 0 = .ok (.aload_n 0, 1) := by decide +kernel
theorem dX6_line_1 : decode cX6_line 1 = .ok (.iload_n 1, 1) := by decide +kernel
theorem dX6_line_2 : decode cX6_line 2 = .ok (.invokevirtual 127, 3) := by decide +kernel
set_option maxRecDepth 20000 in
theorem ggX6_aside_X6_needPlayer : GoodIn wsX6_aside wsX6_needPlayer := goodIn_ca (goodIn_r _ [12, 13, 14, 15, 89, 90, 91, 92, 93, 94, 95, 96, 97, 98, 99, 100, 101, 102] (by decide +kernel) (by decide +kernel)) (goodIn_sub (fun _ h => List.mem_cons_of_mem _ (List.mem_append_left _ (List.mem_append_left _ (List.mem_append_right _ h)))) (by decide +kernel))
set_option maxRecDepth 20000 in
theorem gX6_aside_X6_needPlayer : GoodIn wsX6_aside (wsV RX6 127 RX6 yX6_needPlayer wsX6_needPlayer) := goodIn_app (goodIn_of _ (by decide +kernel)) ggX6_aside_X6_needPlayer
theorem dX6_aside_0 : decode cX6_aside 0 = .ok (.aload_n 0, 1) := by decide +kernel
theorem dX6_aside_1 : decode cX6_aside 1 = .ok (.iload_n 1, 1) := by decide +kernel
theorem dX6_aside_2 : decode cX6_aside 2 = .ok (.invokevirtual 127, 3) := by decide +kernel
set_option maxRecDepth 20000 in
theorem ggX6_point_X6_needPlayer : GoodIn wsX6_point wsX6_needPlayer := goodIn_ca (goodIn_r _ [14, 15, 16, 17, 59, 60, 61, 62, 63, 64, 65, 66, 67, 68, 69, 70, 71, 72] (by decide +kernel) (by decide +kernel)) (goodIn_sub (fun _ h => List.mem_cons_of_mem _ (List.mem_append_left _ (List.mem_append_left _ (List.mem_append_right _ h)))) (by decide +kernel))
set_option maxRecDepth 20000 in
theorem gX6_point_X6_needPlayer : GoodIn wsX6_point (wsV RX6 127 RX6 yX6_needPlayer wsX6_needPlayer) := goodIn_app (goodIn_of _ (by decide +kernel)) ggX6_point_X6_needPlayer
theorem dX6_point_0 : decode cX6_point 0 = .ok (.aload_n 0, 1) := by decide +kernel
theorem dX6_point_1 : decode cX6_point 1 = .ok (.iload_n 1, 1) := by decide +kernel
theorem dX6_point_2 : decode cX6_point 2 = .ok (.invokevirtual 127, 3) := by decide +kernel
set_option maxRecDepth 20000 in
theorem ggX6_free_X6_needPlayer : GoodIn wsX6_free wsX6_needPlayer := goodIn_ca (goodIn_r _ [17, 18, 19, 20, 80, 81, 82, 83, 84, 85, 86, 87, 88, 89, 90, 91, 92, 93] (by decide +kernel) (by decide +kernel)) (goodIn_sub (fun _ h => List.mem_cons_of_mem _ (List.mem_append_left _ (List.mem_append_left _ (List.mem_append_right _ h)))) (by decide +kernel))
set_option maxRecDepth 20000 in
theorem gX6_free_X6_needPlayer : GoodIn wsX6_free (wsV RX6 127 RX6 yX6_needPlayer wsX6_needPlayer) := goodIn_app (goodIn_of _ (by decide +kernel)) ggX6_free_X6_needPlayer
theorem dX6_free_0 : decode cX6_free 0 = .ok (.aload_n 0, 1) := by decide +kernel
theorem dX6_free_1 : decode cX6_free 1 = .ok (.iload_n 1, 1) := by decide +kernel
theorem dX6_free_2 : decode cX6_free 2 = .ok (.invokevirtual 127, 3) := by decide +kernel
set_option maxRecDepth 20000 in
theorem ggX6_wrongPlace_X6_needPlayer : GoodIn wsX6_wrongPlace wsX6_needPlayer := goodIn_ca (goodIn_r _ [16, 17, 18, 19, 79, 80, 81, 82, 83, 84, 85, 86, 87, 88, 89, 90, 91, 92] (by decide +kernel) (by decide +kernel)) (goodIn_sub (fun _ h => List.mem_cons_of_mem _ (List.mem_append_left _ (List.mem_append_left _ (List.mem_append_right _ h)))) (by decide +kernel))
set_option maxRecDepth 20000 in
theorem gX6_wrongPlace_X6_needPlayer : GoodIn wsX6_wrongPlace (wsV RX6 127 RX6 yX6_needPlayer wsX6_needPlayer) := goodIn_app (goodIn_of _ (by decide +kernel)) ggX6_wrongPlace_X6_needPlayer
theorem dX6_wrongPlace_0 : decode cX6_wrongPlace 0 = .ok (.aload_n 0, 1) := by decide +kernel
theorem dX6_wrongPlace_1 : decode cX6_wrongPlace 1 = .ok (.iload_n 1, 1) := by decide +kernel
theorem dX6_wrongPlace_2 : decode cX6_wrongPlace 2 = .ok (.invokevirtual 127, 3) := by decide +kernel
set_option maxRecDepth 20000 in
theorem ggX6_correct_X6_needPlayer : GoodIn wsX6_correct wsX6_needPlayer := goodIn_ca (goodIn_r _ [10, 11, 12, 13, 45, 46, 47, 48, 49, 50, 51, 52, 53, 54, 55, 56, 57, 58] (by decide +kernel) (by decide +kernel)) (goodIn_sub (fun _ h => List.mem_cons_of_mem _ (List.mem_append_left _ (List.mem_append_right _ h))) (by decide +kernel))
set_option maxRecDepth 20000 in
theorem gX6_correct_X6_needPlayer : GoodIn wsX6_correct (wsV RX6 127 RX6 yX6_needPlayer wsX6_needPlayer) := goodIn_app (goodIn_of _ (by decide +kernel)) ggX6_correct_X6_needPlayer
theorem dX6_correct_0 : decode cX6_correct 0 = .ok (.aload_n 0, 1) := by decide +kernel
theorem dX6_correct_1 : decode cX6_correct 1 = .ok (.iload_n 1, 1) := by decide +kernel
theorem dX6_correct_2 : decode cX6_correct 2 = .ok (.invokevirtual 127, 3) := by decide +kernel
set_option maxRecDepth 20000 in
theorem ggX6_move_X6_needPlayer : GoodIn wsX6_move wsX6_needPlayer := goodIn_ca (goodIn_r _ [18, 19, 20, 21, 68, 69, 70, 71, 72, 73, 74, 75, 76, 77, 78, 79, 80, 81] (by decide +kernel) (by decide +kernel)) (goodIn_sub (fun _ h => List.mem_cons_of_mem _ (List.mem_append_left _ (List.mem_append_left _ (List.mem_append_right _ h)))) (by decide +kernel))
set_option maxRecDepth 20000 in
theorem gX6_move_X6_needPlayer : GoodIn wsX6_move (wsV RX6 127 RX6 yX6_needPlayer wsX6_needPlayer) := goodIn_app (goodIn_of _ (by decide +kernel)) ggX6_move_X6_needPlayer
theorem dX6_move_0 : decode cX6_move 0 = .ok (.aload_n 0, 1) := by decide +kernel
theorem dX6_move_1 : decode cX6_move 1 = .ok (.iload_n 1, 1) := by decide +kernel
theorem dX6_move_2 : decode cX6_move 2 = .ok (.invokevirtual 127, 3) := by decide +kernel
set_option maxRecDepth 20000 in
theorem ggX6_wrongBall_X6_needPlayer : GoodIn wsX6_wrongBall wsX6_needPlayer := goodIn_ca (goodIn_r _ [13, 14, 15, 16, 43, 44, 45, 46, 47, 48, 49, 50, 51, 52, 53, 54, 55, 56] (by decide +kernel) (by decide +kernel)) (goodIn_sub (fun _ h => List.mem_cons_of_mem _ (List.mem_append_left _ (List.mem_append_right _ h))) (by decide +kernel))
set_option maxRecDepth 20000 in
theorem gX6_wrongBall_X6_needPlayer : GoodIn wsX6_wrongBall (wsV RX6 127 RX6 yX6_needPlayer wsX6_needPlayer) := goodIn_app (goodIn_of _ (by decide +kernel)) ggX6_wrongBall_X6_needPlayer
theorem dX6_wrongBall_0 : decode cX6_wrongBall 0 = .ok (.aload_n 0, 1) := by decide +kernel
theorem dX6_wrongBall_1 : decode cX6_wrongBall 1 = .ok (.iload_n 1, 1) := by decide +kernel
theorem dX6_wrongBall_2 : decode cX6_wrongBall 2 = .ok (.invokevirtual 127, 3) := by decide +kernel
set_option maxRecDepth 20000 in
theorem ggX6_pickUp_X6_needPlayer : GoodIn wsX6_pickUp wsX6_needPlayer := goodIn_ca (goodIn_r _ [12, 13, 14, 15, 33, 34, 35, 36, 37, 38, 39, 40, 41, 42, 43, 44, 45, 46] (by decide +kernel) (by decide +kernel)) (goodIn_sub (fun _ h => List.mem_cons_of_mem _ (List.mem_append_left _ (List.mem_append_right _ h))) (by decide +kernel))
set_option maxRecDepth 20000 in
theorem gX6_pickUp_X6_needPlayer : GoodIn wsX6_pickUp (wsV RX6 127 RX6 yX6_needPlayer wsX6_needPlayer) := goodIn_app (goodIn_of _ (by decide +kernel)) ggX6_pickUp_X6_needPlayer
theorem dX6_pickUp_0 : decode cX6_pickUp 0 = .ok (.aload_n 0, 1) := by decide +kernel
theorem dX6_pickUp_1 : decode cX6_pickUp 1 = .ok (.iload_n 1, 1) := by decide +kernel
theorem dX6_pickUp_2 : decode cX6_pickUp 2 = .ok (.invokevirtual 127, 3) := by decide +kernel
set_option maxRecDepth 20000 in
theorem ggX6_suspend_X6_needRound : GoodIn wsX6_suspend wsX6_needRound := goodIn_ca (goodIn_r _ [6, 7, 8, 9, 10, 11, 12, 13, 14, 15, 16, 17, 18, 19, 20, 21, 22, 23] (by decide +kernel) (by decide +kernel)) (goodIn_sub (fun _ h => List.mem_cons_of_mem _ (List.mem_append_right _ h)) (by decide +kernel))
set_option maxRecDepth 20000 in
theorem gX6_suspend_X6_needRound : GoodIn wsX6_suspend (wsV RX6 167 RX6 yX6_needRound wsX6_needRound) := goodIn_app (goodIn_of _ (by decide +kernel)) ggX6_suspend_X6_needRound
theorem dX6_suspend_0 : decode cX6_suspend 0 = .ok (.aload_n 0, 1) := by decide +kernel
theorem dX6_suspend_1 : decode cX6_suspend 1 = .ok (.invokevirtual 167, 3) := by decide +kernel
set_option maxRecDepth 20000 in
theorem ggX6_cancel_X6_needPlayer : GoodIn wsX6_cancel wsX6_needPlayer := goodIn_ca (goodIn_r _ [13, 14, 15, 16, 50, 51, 52, 53, 54, 55, 56, 57, 58, 59, 60, 61, 62, 63] (by decide +kernel) (by decide +kernel)) (goodIn_sub (fun _ h => List.mem_cons_of_mem _ (List.mem_append_left _ (List.mem_append_right _ h))) (by decide +kernel))
set_option maxRecDepth 20000 in
theorem gX6_cancel_X6_needPlayer : GoodIn wsX6_cancel (wsV RX6 127 RX6 yX6_needPlayer wsX6_needPlayer) := goodIn_app (goodIn_of _ (by decide +kernel)) ggX6_cancel_X6_needPlayer
theorem dX6_cancel_0 : decode cX6_cancel 0 = .ok (.aload_n 0, 1) := by decide +kernel
theorem dX6_cancel_1 : decode cX6_cancel 1 = .ok (.iload_n 1, 1) := by decide +kernel
theorem dX6_cancel_2 : decode cX6_cancel 2 = .ok (.invokevirtual 127, 3) := by decide +kernel
set_option maxRecDepth 20000 in
theorem ggX6_concede_X6_needPlayer : GoodIn wsX6_concede wsX6_needPlayer := goodIn_ca (goodIn_r _ [16, 17, 18, 19, 59, 60, 61, 62, 63, 64, 65, 66, 67, 68, 69, 70, 71, 72] (by decide +kernel) (by decide +kernel)) (goodIn_sub (fun _ h => List.mem_cons_of_mem _ (List.mem_append_left _ (List.mem_append_right _ h))) (by decide +kernel))
set_option maxRecDepth 20000 in
theorem gX6_concede_X6_needPlayer : GoodIn wsX6_concede (wsV RX6 127 RX6 yX6_needPlayer wsX6_needPlayer) := goodIn_app (goodIn_of _ (by decide +kernel)) ggX6_concede_X6_needPlayer
theorem dX6_concede_0 : decode cX6_concede 0 = .ok (.aload_n 0, 1) := by decide +kernel
theorem dX6_concede_1 : decode cX6_concede 1 = .ok (.iload_n 1, 1) := by decide +kernel
theorem dX6_concede_2 : decode cX6_concede 2 = .ok (.invokevirtual 127, 3) := by decide +kernel
set_option maxRecDepth 20000 in
theorem ggX6_nextHole_X6_needRound : GoodIn wsX6_nextHole wsX6_needRound := goodIn_ca (goodIn_r _ [15, 16, 17, 10, 112, 113, 114, 115, 116, 117, 118, 119, 120, 121, 122, 123, 124, 125] (by decide +kernel) (by decide +kernel)) (goodIn_sub (fun _ h => List.mem_cons_of_mem _ (List.mem_append_left _ (List.mem_append_left _ (List.mem_append_right _ h)))) (by decide +kernel))
set_option maxRecDepth 20000 in
theorem gX6_nextHole_X6_needRound : GoodIn wsX6_nextHole (wsV RX6 167 RX6 yX6_needRound wsX6_needRound) := goodIn_app (goodIn_of _ (by decide +kernel)) ggX6_nextHole_X6_needRound
theorem dX6_nextHole_0 : decode cX6_nextHole 0 = .ok (.aload_n 0, 1) := by decide +kernel
theorem dX6_nextHole_1 : decode cX6_nextHole 1 = .ok (.invokevirtual 167, 3) := by decide +kernel
set_option maxRecDepth 20000 in
theorem ggX6_state_X6_needPlayer : GoodIn wsX6_state wsX6_needPlayer := goodIn_ca (goodIn_r _ [8, 9, 10, 11, 19, 20, 21, 22, 23, 24, 25, 26, 27, 28, 29, 30, 31, 32] (by decide +kernel) (by decide +kernel)) (goodIn_sub (fun _ h => List.mem_cons_of_mem _ (List.mem_append_left _ (List.mem_append_right _ h))) (by decide +kernel))
set_option maxRecDepth 20000 in
theorem gX6_state_X6_needPlayer : GoodIn wsX6_state (wsV RX6 127 RX6 yX6_needPlayer wsX6_needPlayer) := goodIn_app (goodIn_of _ (by decide +kernel)) ggX6_state_X6_needPlayer
theorem dX6_state_0 : decode cX6_state 0 = .ok (.aload_n 0, 1) := by decide +kernel
theorem dX6_state_1 : decode cX6_state 1 = .ok (.iload_n 1, 1) := by decide +kernel
theorem dX6_state_2 : decode cX6_state 2 = .ok (.invokevirtual 127, 3) := by decide +kernel
set_option maxRecDepth 20000 in
theorem ggX6_lie_X6_needPlayer : GoodIn wsX6_lie wsX6_needPlayer := goodIn_ca (goodIn_r _ [10, 11, 12, 13, 27, 28, 29, 30, 31, 32, 33, 34, 35, 36, 37, 38, 39, 40] (by decide +kernel) (by decide +kernel)) (goodIn_sub (fun _ h => List.mem_cons_of_mem _ (List.mem_append_left _ (List.mem_append_right _ h))) (by decide +kernel))
set_option maxRecDepth 20000 in
theorem gX6_lie_X6_needPlayer : GoodIn wsX6_lie (wsV RX6 127 RX6 yX6_needPlayer wsX6_needPlayer) := goodIn_app (goodIn_of _ (by decide +kernel)) ggX6_lie_X6_needPlayer
theorem dX6_lie_0 : decode cX6_lie 0 = .ok (.aload_n 0, 1) := by decide +kernel
theorem dX6_lie_1 : decode cX6_lie 1 = .ok (.iload_n 1, 1) := by decide +kernel
theorem dX6_lie_2 : decode cX6_lie 2 = .ok (.invokevirtual 127, 3) := by decide +kernel
set_option maxRecDepth 20000 in
theorem ggX6_strokes_X6_needPlayer : GoodIn wsX6_strokes wsX6_needPlayer := goodIn_ca (goodIn_r _ [8, 9, 10, 11, 19, 20, 21, 22, 23, 24, 25, 26, 27, 28, 29, 30, 31, 32] (by decide +kernel) (by decide +kernel)) (goodIn_sub (fun _ h => List.mem_cons_of_mem _ (List.mem_append_left _ (List.mem_append_right _ h))) (by decide +kernel))
set_option maxRecDepth 20000 in
theorem gX6_strokes_X6_needPlayer : GoodIn wsX6_strokes (wsV RX6 127 RX6 yX6_needPlayer wsX6_needPlayer) := goodIn_app (goodIn_of _ (by decide +kernel)) ggX6_strokes_X6_needPlayer
theorem dX6_strokes_0 : decode cX6_strokes 0 = .ok (.aload_n 0, 1) := by decide +kernel
theorem dX6_strokes_1 : decode cX6_strokes 1 = .ok (.iload_n 1, 1) := by decide +kernel
theorem dX6_strokes_2 : decode cX6_strokes 2 = .ok (.invokevirtual 127, 3) := by decide +kernel
set_option maxRecDepth 20000 in
theorem ggX6_penalties_X6_needPlayer : GoodIn wsX6_penalties wsX6_needPlayer := goodIn_ca (goodIn_r _ [8, 9, 10, 11, 19, 20, 21, 22, 23, 24, 25, 26, 27, 28, 29, 30, 31, 32] (by decide +kernel) (by decide +kernel)) (goodIn_sub (fun _ h => List.mem_cons_of_mem _ (List.mem_append_left _ (List.mem_append_right _ h))) (by decide +kernel))
set_option maxRecDepth 20000 in
theorem gX6_penalties_X6_needPlayer : GoodIn wsX6_penalties (wsV RX6 127 RX6 yX6_needPlayer wsX6_needPlayer) := goodIn_app (goodIn_of _ (by decide +kernel)) ggX6_penalties_X6_needPlayer
theorem dX6_penalties_0 : decode cX6_penalties 0 = .ok (.aload_n 0, 1) := by decide +kernel
theorem dX6_penalties_1 : decode cX6_penalties 1 = .ok (.iload_n 1, 1) := by decide +kernel
theorem dX6_penalties_2 : decode cX6_penalties 2 = .ok (.invokevirtual 127, 3) := by decide +kernel
set_option maxRecDepth 20000 in
theorem ggX6_isOut_X6_needPlayer : GoodIn wsX6_isOut wsX6_needPlayer := goodIn_ca (goodIn_r _ [8, 9, 10, 11, 12, 13, 14, 15, 16, 17, 18, 19, 20, 21, 22, 23, 24, 25] (by decide +kernel) (by decide +kernel)) (goodIn_sub (fun _ h => List.mem_cons_of_mem _ (List.mem_append_right _ h)) (by decide +kernel))
set_option maxRecDepth 20000 in
theorem gX6_isOut_X6_needPlayer : GoodIn wsX6_isOut (wsV RX6 127 RX6 yX6_needPlayer wsX6_needPlayer) := goodIn_app (goodIn_of _ (by decide +kernel)) ggX6_isOut_X6_needPlayer
theorem dX6_isOut_0 : decode cX6_isOut 0 = .ok (.aload_n 0, 1) := by decide +kernel
theorem dX6_isOut_1 : decode cX6_isOut 1 = .ok (.iload_n 1, 1) := by decide +kernel
theorem dX6_isOut_2 : decode cX6_isOut 2 = .ok (.invokevirtual 127, 3) := by decide +kernel
set_option maxRecDepth 20000 in
theorem ggX6_score_X6_needPlayer : GoodIn wsX6_score wsX6_needPlayer := goodIn_ca (goodIn_r _ [9, 10, 11, 12, 24, 25, 26, 27, 28, 29, 30, 31, 32, 33, 34, 35, 36, 37] (by decide +kernel) (by decide +kernel)) (goodIn_sub (fun _ h => List.mem_cons_of_mem _ (List.mem_append_left _ (List.mem_append_right _ h))) (by decide +kernel))
set_option maxRecDepth 20000 in
theorem gX6_score_X6_needPlayer : GoodIn wsX6_score (wsV RX6 127 RX6 yX6_needPlayer wsX6_needPlayer) := goodIn_app (goodIn_of _ (by decide +kernel)) ggX6_score_X6_needPlayer
theorem dX6_score_0 : decode cX6_score 0 = .ok (.aload_n 0, 1) := by decide +kernel
theorem dX6_score_1 : decode cX6_score 1 = .ok (.iload_n 1, 1) := by decide +kernel
theorem dX6_score_2 : decode cX6_score 2 = .ok (.invokevirtual 127, 3) := by decide +kernel
set_option maxRecDepth 20000 in
theorem ggX6_write_X6_needPlayer : GoodIn wsX6_write wsX6_needPlayer := goodIn_ca (goodIn_r _ [13, 14, 15, 16, 28, 29, 30, 31, 32, 33, 34, 35, 36, 37, 38, 39, 40, 41] (by decide +kernel) (by decide +kernel)) (goodIn_sub (fun _ h => List.mem_cons_of_mem _ (List.mem_append_right _ h)) (by decide +kernel))
set_option maxRecDepth 20000 in
theorem gX6_write_X6_needPlayer : GoodIn wsX6_write (wsV RX6 127 RX6 yX6_needPlayer wsX6_needPlayer) := goodIn_app (goodIn_of _ (by decide +kernel)) ggX6_write_X6_needPlayer
theorem dX6_write_0 : decode cX6_write 0 = .ok (.aload_n 0, 1) := by decide +kernel
theorem dX6_write_1 : decode cX6_write 1 = .ok (.iload_n 1, 1) := by decide +kernel
theorem dX6_write_2 : decode cX6_write 2 = .ok (.invokevirtual 127, 3) := by decide +kernel
set_option maxRecDepth 20000 in
theorem ggX6_sign_X6_needPlayer : GoodIn wsX6_sign wsX6_needPlayer := goodIn_ca (goodIn_r _ [14, 15, 16, 17, 43, 44, 45, 46, 47, 48, 49, 50, 51, 52, 53, 54, 55, 56] (by decide +kernel) (by decide +kernel)) (goodIn_sub (fun _ h => List.mem_cons_of_mem _ (List.mem_append_left _ (List.mem_append_right _ h))) (by decide +kernel))
set_option maxRecDepth 20000 in
theorem gX6_sign_X6_needPlayer : GoodIn wsX6_sign (wsV RX6 127 RX6 yX6_needPlayer wsX6_needPlayer) := goodIn_app (goodIn_of _ (by decide +kernel)) ggX6_sign_X6_needPlayer
theorem dX6_sign_0 : decode cX6_sign 0 = .ok (.aload_n 0, 1) := by decide +kernel
theorem dX6_sign_1 : decode cX6_sign 1 = .ok (.iload_n 1, 1) := by decide +kernel
theorem dX6_sign_2 : decode cX6_sign 2 = .ok (.invokevirtual 127, 3) := by decide +kernel
set_option maxRecDepth 20000 in
theorem ggX6_total_X6_needPlayer : GoodIn wsX6_total wsX6_needPlayer := goodIn_ca (goodIn_r _ [10, 11, 12, 13, 28, 29, 30, 31, 32, 33, 34, 35, 36, 37, 38, 39, 40, 41] (by decide +kernel) (by decide +kernel)) (goodIn_sub (fun _ h => List.mem_cons_of_mem _ (List.mem_append_left _ (List.mem_append_right _ h))) (by decide +kernel))
set_option maxRecDepth 20000 in
theorem gX6_total_X6_needPlayer : GoodIn wsX6_total (wsV RX6 127 RX6 yX6_needPlayer wsX6_needPlayer) := goodIn_app (goodIn_of _ (by decide +kernel)) ggX6_total_X6_needPlayer
theorem dX6_total_0 : decode cX6_total 0 = .ok (.aload_n 0, 1) := by decide +kernel
theorem dX6_total_1 : decode cX6_total 1 = .ok (.iload_n 1, 1) := by decide +kernel
theorem dX6_total_2 : decode cX6_total 2 = .ok (.invokevirtual 127, 3) := by decide +kernel
set_option maxRecDepth 20000 in
theorem ggX6_stableford_X6_needPlayer : GoodIn wsX6_stableford wsX6_needPlayer := goodIn_ca (goodIn_r _ [14, 15, 16, 17, 34, 35, 36, 37, 38, 39, 40, 41, 42, 43, 44, 45, 46, 47] (by decide +kernel) (by decide +kernel)) (goodIn_sub (fun _ h => List.mem_cons_of_mem _ (List.mem_append_left _ (List.mem_append_left _ (List.mem_append_right _ h)))) (by decide +kernel))
set_option maxRecDepth 20000 in
theorem gX6_stableford_X6_needPlayer : GoodIn wsX6_stableford (wsV RX6 127 RX6 yX6_needPlayer wsX6_needPlayer) := goodIn_app (goodIn_of _ (by decide +kernel)) ggX6_stableford_X6_needPlayer
theorem dX6_stableford_0 : decode cX6_stableford 0 = .ok (.aload_n 0, 1) := by decide +kernel
theorem dX6_stableford_1 : decode cX6_stableford 1 = .ok (.iload_n 1, 1) := by decide +kernel
theorem dX6_stableford_2 : decode cX6_stableford 2 = .ok (.invokevirtual 127, 3) := by decide +kernel
set_option maxRecDepth 20000 in
theorem ggX6_parPlay_X6_needPlayer : GoodIn wsX6_parPlay wsX6_needPlayer := goodIn_ca (goodIn_r _ [10, 11, 12, 13, 46, 47, 48, 49, 50, 51, 52, 53, 54, 55, 56, 57, 58, 59] (by decide +kernel) (by decide +kernel)) (goodIn_sub (fun _ h => List.mem_cons_of_mem _ (List.mem_append_left _ (List.mem_append_left _ (List.mem_append_left _ (List.mem_append_right _ h))))) (by decide +kernel))
set_option maxRecDepth 20000 in
theorem gX6_parPlay_X6_needPlayer : GoodIn wsX6_parPlay (wsV RX6 127 RX6 yX6_needPlayer wsX6_needPlayer) := goodIn_app (goodIn_of _ (by decide +kernel)) ggX6_parPlay_X6_needPlayer
theorem dX6_parPlay_0 : decode cX6_parPlay 0 = .ok (.aload_n 0, 1) := by decide +kernel
theorem dX6_parPlay_1 : decode cX6_parPlay 1 = .ok (.iload_n 1, 1) := by decide +kernel
theorem dX6_parPlay_2 : decode cX6_parPlay 2 = .ok (.invokevirtual 127, 3) := by decide +kernel
set_option maxRecDepth 20000 in
theorem ggX6_together_X6_needPlayer : GoodIn wsX6_together wsX6_needPlayer := goodIn_ca (goodIn_r _ [16, 17, 18, 19, 37, 38, 39, 40, 41, 42, 43, 44, 45, 46, 47, 48, 49, 50] (by decide +kernel) (by decide +kernel)) (goodIn_sub (fun _ h => List.mem_cons_of_mem _ (List.mem_append_left _ (List.mem_append_left _ (List.mem_append_right _ h)))) (by decide +kernel))
set_option maxRecDepth 20000 in
theorem gX6_together_X6_needPlayer : GoodIn wsX6_together (wsV RX6 127 RX6 yX6_needPlayer wsX6_needPlayer) := goodIn_app (goodIn_of _ (by decide +kernel)) ggX6_together_X6_needPlayer
theorem dX6_together_0 : decode cX6_together 0 = .ok (.aload_n 0, 1) := by decide +kernel
theorem dX6_together_1 : decode cX6_together 1 = .ok (.iload_n 1, 1) := by decide +kernel
theorem dX6_together_2 : decode cX6_together 2 = .ok (.invokevirtual 127, 3) := by decide +kernel
set_option maxRecDepth 20000 in
theorem ggX6_skins_X6_needPlayer : GoodIn wsX6_skins wsX6_needPlayer := goodIn_ca (goodIn_r _ [5, 6, 7, 8, 49, 50, 51, 52, 53, 54, 55, 56, 57, 58, 59, 60, 61, 62] (by decide +kernel) (by decide +kernel)) (goodIn_sub (fun _ h => List.mem_cons_of_mem _ (List.mem_append_left _ (List.mem_append_left _ (List.mem_append_left _ (List.mem_append_right _ h))))) (by decide +kernel))
set_option maxRecDepth 20000 in
theorem gX6_skins_X6_needPlayer : GoodIn wsX6_skins (wsV RX6 127 RX6 yX6_needPlayer wsX6_needPlayer) := goodIn_app (goodIn_of _ (by decide +kernel)) ggX6_skins_X6_needPlayer
theorem dX6_skins_0 : decode cX6_skins 0 = .ok (.aload_n 0, 1) := by decide +kernel
theorem dX6_skins_1 : decode cX6_skins 1 = .ok (.iload_n 1, 1) := by decide +kernel
theorem dX6_skins_2 : decode cX6_skins 2 = .ok (.invokevirtual 127, 3) := by decide +kernel
set_option maxRecDepth 20000 in
theorem ggX6_rank_X6_needPlayer : GoodIn wsX6_rank wsX6_needPlayer := goodIn_ca (goodIn_r _ [5, 6, 7, 8, 46, 47, 48, 49, 50, 51, 52, 53, 54, 55, 56, 57, 58, 59] (by decide +kernel) (by decide +kernel)) (goodIn_sub (fun _ h => List.mem_cons_of_mem _ (List.mem_append_left _ (List.mem_append_left _ (List.mem_append_right _ h)))) (by decide +kernel))
set_option maxRecDepth 20000 in
theorem gX6_rank_X6_needPlayer : GoodIn wsX6_rank (wsV RX6 127 RX6 yX6_needPlayer wsX6_needPlayer) := goodIn_app (goodIn_of _ (by decide +kernel)) ggX6_rank_X6_needPlayer
theorem dX6_rank_0 : decode cX6_rank 0 = .ok (.aload_n 0, 1) := by decide +kernel
theorem dX6_rank_1 : decode cX6_rank 1 = .ok (.iload_n 1, 1) := by decide +kernel
theorem dX6_rank_2 : decode cX6_rank 2 = .ok (.invokevirtual 127, 3) := by decide +kernel
set_option maxRecDepth 20000 in
theorem ggX6_isAhead_X6_needPlayer : GoodIn wsX6_isAhead wsX6_needPlayer := goodIn_ca (goodIn_r _ [6, 7, 8, 9, 42, 43, 44, 45, 46, 47, 48, 49, 50, 51, 52, 53, 54, 55] (by decide +kernel) (by decide +kernel)) (goodIn_sub (fun _ h => List.mem_cons_of_mem _ (List.mem_append_left _ (List.mem_append_left _ (List.mem_append_right _ h)))) (by decide +kernel))
set_option maxRecDepth 20000 in
theorem gX6_isAhead_X6_needPlayer : GoodIn wsX6_isAhead (wsV RX6 127 RX6 yX6_needPlayer wsX6_needPlayer) := goodIn_app (goodIn_of _ (by decide +kernel)) ggX6_isAhead_X6_needPlayer
theorem dX6_isAhead_0 : decode cX6_isAhead 0 = .ok (.aload_n 0, 1) := by decide +kernel
theorem dX6_isAhead_1 : decode cX6_isAhead 1 = .ok (.iload_n 1, 1) := by decide +kernel
theorem dX6_isAhead_2 : decode cX6_isAhead 2 = .ok (.invokevirtual 127, 3) := by decide +kernel
set_option maxRecDepth 20000 in
theorem ggX6_post_X6_needPlayer : GoodIn wsX6_post wsX6_needPlayer := goodIn_ca (goodIn_r _ [22, 23, 24, 25, 94, 95, 96, 97, 98, 99, 100, 101, 102, 103, 104, 105, 106, 107] (by decide +kernel) (by decide +kernel)) (goodIn_sub (fun _ h => List.mem_cons_of_mem _ (List.mem_append_left _ (List.mem_append_left _ (List.mem_append_right _ h)))) (by decide +kernel))
set_option maxRecDepth 20000 in
theorem gX6_post_X6_needPlayer : GoodIn wsX6_post (wsV RX6 127 RX6 yX6_needPlayer wsX6_needPlayer) := goodIn_app (goodIn_of _ (by decide +kernel)) ggX6_post_X6_needPlayer
theorem dX6_post_0 : decode cX6_post 0 = .ok (.aload_n 0, 1) := by decide +kernel
theorem dX6_post_1 : decode cX6_post 1 = .ok (.iload_n 1, 1) := by decide +kernel
theorem dX6_post_2 : decode cX6_post 2 = .ok (.invokevirtual 127, 3) := by decide +kernel
set_option maxRecDepth 20000 in
theorem ggX6_difference_X6_needPlayer : GoodIn wsX6_difference wsX6_needPlayer := goodIn_ca (goodIn_r _ [10, 1, 2, 11, 18, 19, 20, 21, 22, 23, 24, 25, 26, 27, 28, 29, 30, 31] (by decide +kernel) (by decide +kernel)) (goodIn_sub (fun _ h => List.mem_cons_of_mem _ (List.mem_append_left _ (List.mem_append_right _ h))) (by decide +kernel))
set_option maxRecDepth 20000 in
theorem gX6_difference_X6_needPlayer : GoodIn wsX6_difference (wsV RX6 127 RX6 yX6_needPlayer wsX6_needPlayer) := goodIn_app (goodIn_of _ (by decide +kernel)) ggX6_difference_X6_needPlayer
theorem dX6_difference_0 : decode cX6_difference 0 = .ok (.aload_n 0, 1) := by decide +kernel
theorem dX6_difference_1 : decode cX6_difference 1 = .ok (.iload_n 1, 1) := by decide +kernel
theorem dX6_difference_2 : decode cX6_difference 2 = .ok (.invokevirtual 127, 3) := by decide +kernel
set_option maxRecDepth 20000 in
theorem ggX6_index_X6_needPlayer : GoodIn wsX6_index wsX6_needPlayer := goodIn_ca (goodIn_r _ [8, 9, 10, 11, 19, 20, 21, 22, 23, 24, 25, 26, 27, 28, 29, 30, 31, 32] (by decide +kernel) (by decide +kernel)) (goodIn_sub (fun _ h => List.mem_cons_of_mem _ (List.mem_append_left _ (List.mem_append_right _ h))) (by decide +kernel))
set_option maxRecDepth 20000 in
theorem gX6_index_X6_needPlayer : GoodIn wsX6_index (wsV RX6 127 RX6 yX6_needPlayer wsX6_needPlayer) := goodIn_app (goodIn_of _ (by decide +kernel)) ggX6_index_X6_needPlayer
theorem dX6_index_0 : decode cX6_index 0 = .ok (.aload_n 0, 1) := by decide +kernel
theorem dX6_index_1 : decode cX6_index 1 = .ok (.iload_n 1, 1) := by decide +kernel
theorem dX6_index_2 : decode cX6_index 2 = .ok (.invokevirtual 127, 3) := by decide +kernel
set_option maxRecDepth 20000 in
theorem ggX6_lowIndex_X6_needPlayer : GoodIn wsX6_lowIndex wsX6_needPlayer := goodIn_ca (goodIn_r _ [8, 9, 10, 11, 19, 20, 21, 22, 23, 24, 25, 26, 27, 28, 29, 30, 31, 32] (by decide +kernel) (by decide +kernel)) (goodIn_sub (fun _ h => List.mem_cons_of_mem _ (List.mem_append_left _ (List.mem_append_right _ h))) (by decide +kernel))
set_option maxRecDepth 20000 in
theorem gX6_lowIndex_X6_needPlayer : GoodIn wsX6_lowIndex (wsV RX6 127 RX6 yX6_needPlayer wsX6_needPlayer) := goodIn_app (goodIn_of _ (by decide +kernel)) ggX6_lowIndex_X6_needPlayer
theorem dX6_lowIndex_0 : decode cX6_lowIndex 0 = .ok (.aload_n 0, 1) := by decide +kernel
theorem dX6_lowIndex_1 : decode cX6_lowIndex 1 = .ok (.iload_n 1, 1) := by decide +kernel
theorem dX6_lowIndex_2 : decode cX6_lowIndex 2 = .ok (.invokevirtual 127, 3) := by decide +kernel
set_option maxRecDepth 20000 in
theorem ggX6_penaltyShare_X6_needPlayer : GoodIn wsX6_penaltyShare wsX6_needPlayer := goodIn_ca (goodIn_r _ [12, 13, 14, 15, 16, 17, 18, 19, 20, 21, 22, 23, 24, 25, 26, 27, 28, 29] (by decide +kernel) (by decide +kernel)) (goodIn_sub (fun _ h => List.mem_cons_of_mem _ (List.mem_append_right _ h)) (by decide +kernel))
set_option maxRecDepth 20000 in
theorem gX6_penaltyShare_X6_needPlayer : GoodIn wsX6_penaltyShare (wsV RX6 127 RX6 yX6_needPlayer wsX6_needPlayer) := goodIn_app (goodIn_of _ (by decide +kernel)) ggX6_penaltyShare_X6_needPlayer
theorem dX6_penaltyShare_0 : decode cX6_penaltyShare 0 = .ok (.aload_n 0, 1) := by decide +kernel
theorem dX6_penaltyShare_1 : decode cX6_penaltyShare 1 = .ok (.iload_n 1, 1) := by decide +kernel
theorem dX6_penaltyShare_2 : decode cX6_penaltyShare 2 = .ok (.invokevirtual 127, 3) := by decide +kernel
set_option maxRecDepth 20000 in
theorem ggX6_meanScore_X6_needHole : GoodIn wsX6_meanScore wsX6_needHole := goodIn_ca (goodIn_r _ [10, 11, 12, 13, 20, 21, 22, 23, 24, 25, 26, 27, 28, 29, 30, 31, 32, 33] (by decide +kernel) (by decide +kernel)) (goodIn_sub (fun _ h => List.mem_cons_of_mem _ (List.mem_append_left _ (List.mem_append_right _ h))) (by decide +kernel))
set_option maxRecDepth 20000 in
theorem gX6_meanScore_X6_needHole : GoodIn wsX6_meanScore (wsV RX6 95 RX6 yX6_needHole wsX6_needHole) := goodIn_app (goodIn_of _ (by decide +kernel)) ggX6_meanScore_X6_needHole
theorem dX6_meanScore_0 : decode cX6_meanScore 0 = .ok (.aload_n 0, 1) := by decide +kernel
theorem dX6_meanScore_1 : decode cX6_meanScore 1 = .ok (.iload_n 1, 1) := by decide +kernel
theorem dX6_meanScore_2 : decode cX6_meanScore 2 = .ok (.invokevirtual 95, 3) := by decide +kernel
theorem dX6_needPlayer_0 : decode cX6_needPlayer 0 = .ok (.iload_n 1, 1) := by decide +kernel
theorem dX6_needPlayer_1 : decode cX6_needPlayer 1 = .ok (.ifCond .lt 11, 3) := by decide +kernel
theorem dX6_needPlayer_4 : decode cX6_needPlayer 4 = .ok (.iload_n 1, 1) := by decide +kernel
theorem dX6_needPlayer_5 : decode cX6_needPlayer 5 = .ok (.aload_n 0, 1) := by decide +kernel
theorem dX6_needPlayer_6 : decode cX6_needPlayer 6 = .ok (.getfield 122, 3) := by decide +kernel
theorem dX6_needPlayer_9 : decode cX6_needPlayer 9 = .ok (.if_icmp .lt 14, 3) := by decide +kernel
theorem dX6_needPlayer_12 : decode cX6_needPlayer 12 = .ok (.new 535, 3) := by decide +kernel
theorem dX6_needPlayer_15 : decode cX6_needPlayer 15 = .ok (.dup, 1) := by decide +kernel
theorem dX6_needPlayer_16 : decode cX6_needPlayer 16 = .ok (.ldc_w 568, 3) := by decide +kernel
theorem dX6_needPlayer_19 : decode cX6_needPlayer 19 = .ok (.invokespecial 539, 3) := by decide +kernel
theorem dX6_needPlayer_22 : decode cX6_needPlayer 22 = .ok (.athrow, 1) := by decide +kernel
theorem dX6_needHole_0 : decode cX6_needHole 0 = .ok (.iload_n 1, 1) := by decide +kernel
theorem dX6_needHole_1 : decode cX6_needHole 1 = .ok (.ifCond .lt 11, 3) := by decide +kernel
theorem dX6_needHole_4 : decode cX6_needHole 4 = .ok (.iload_n 1, 1) := by decide +kernel
theorem dX6_needHole_5 : decode cX6_needHole 5 = .ok (.aload_n 0, 1) := by decide +kernel
theorem dX6_needHole_6 : decode cX6_needHole 6 = .ok (.getfield 62, 3) := by decide +kernel
theorem dX6_needHole_9 : decode cX6_needHole 9 = .ok (.if_icmp .lt 14, 3) := by decide +kernel
theorem dX6_needHole_12 : decode cX6_needHole 12 = .ok (.new 535, 3) := by decide +kernel
theorem dX6_needHole_15 : decode cX6_needHole 15 = .ok (.dup, 1) := by decide +kernel
theorem dX6_needHole_16 : decode cX6_needHole 16 = .ok (.ldc_w 570, 3) := by decide +kernel
theorem dX6_needHole_19 : decode cX6_needHole 19 = .ok (.invokespecial 539, 3) := by decide +kernel
theorem dX6_needHole_22 : decode cX6_needHole 22 = .ok (.athrow, 1) := by decide +kernel
theorem dX6_needRound_0 : decode cX6_needRound 0 = .ok (.aload_n 0, 1) := by decide +kernel
theorem dX6_needRound_1 : decode cX6_needRound 1 = .ok (.getfield 132, 3) := by decide +kernel
theorem dX6_needRound_4 : decode cX6_needRound 4 = .ok (.ifCond .ne 14, 3) := by decide +kernel
theorem dX6_needRound_7 : decode cX6_needRound 7 = .ok (.new 65, 3) := by decide +kernel
theorem dX6_needRound_10 : decode cX6_needRound 10 = .ok (.dup, 1) := by decide +kernel
theorem dX6_needRound_11 : decode cX6_needRound 11 = .ok (.ldc_w 574, 3) := by decide +kernel
theorem dX6_needRound_14 : decode cX6_needRound 14 = .ok (.invokespecial 69, 3) := by decide +kernel
theorem dX6_needRound_17 : decode cX6_needRound 17 = .ok (.athrow, 1) := by decide +kernel
set_option maxHeartbeats 4000000 in
set_option maxRecDepth 100000 in
theorem c_X6_needPlayer (l : Launch) (hlT : l.stackTraces = false) (D : va_G) (h0 : Nat) (r : Nat → Nat) (sz : Nat) (a1 : Int32) : vx_Met l yX6_needPlayer wsX6_needPlayer ({ frames := 20, cells := 1, slots := 6, locals := 200 }) (va_Pc [.ref h0, .int a1] (PX6 D h0 r sz)) (va_Qv (fun _ : Unit => False) (fun _ _ => True) (rg0 sz)) (tX (fun E => E = "java/lang/IndexOutOfBoundsException") (rg0 sz)) 1 6 (rg0 sz) := by
  refine vx_ofW (cc := cX6_needPlayer) (maxL := 2) (ret := none) (by decide +kernel) rfl ?_
  intro p e s m args below meth c s₁ B hml hne hv
  obtain ⟨rfl, hsz, hP, hK, hT⟩ := hv
  have hx := B.exec
  have hb := B.bytes
  have hr := B.returns
  have hts := atoms_spec (ws := wsX6_needPlayer) B.pre
  have hown : s.vm.findClass RX6 = some m.cls := findClass_of_methodNamed B.named
  have hlocks := B.notSynchronized
  subst hsz
  have hA : ∀ q : Nat, s.heap.size ≤ q → rg0 s.heap.size q := fun _ h => h
  have hS : va_S (rg0 s.heap.size) s.heap s.heap [] := va_S.rf
  have hl := lv_entry ([.ref h0, .int a1]) (n := 2) (Nat.le_of_ble_eq_true rfl)
  rw [lg_entry_eq]
  generalize (lg_sl ([.ref h0, .int a1]) ++ List.replicate (2 - (lg_sl ([.ref h0, .int a1])).length) Slot.unset).toArray = ls at hl ⊢
  have hl : lv_has ls 2 [(0, .ref h0), (1, .int a1)] := hl
  refine lv_iload_n hx hb dX6_needPlayer_0 rfl (lv_at hl 1 rfl) ?_
  refine lv_if_lt (tgt := 12) hx hb dX6_needPlayer_1 (by decide) (fun c_1 => ?_) (fun c_1 => ?_)
  · skip
    exact tx_throwW (cls := "java/lang/IndexOutOfBoundsException") (text := "no such player") rfl hx hb hlT hown (by decide +kernel) (by decide +kernel) (hts (.classLink RX6 535 "java/lang/IndexOutOfBoundsException") (by decide +kernel)) (hts (.initialized "java/lang/IndexOutOfBoundsException") (by decide +kernel)) (fun w hw => hts w (List.mem_cons_of_mem _ (List.mem_append_right _ hw))) hT hS (fun q h => h) (by rw [hml]; exact hl.1) dX6_needPlayer_12 dX6_needPlayer_15 dX6_needPlayer_16 dX6_needPlayer_19 dX6_needPlayer_22 hne (Nat.le_of_ble_eq_true rfl) (Nat.le_of_ble_eq_true rfl) (Nat.le_of_ble_eq_true rfl) (Nat.le_of_ble_eq_true rfl) hlocks (by decide) (by decide)
  · skip
    refine lv_iload_n hx hb dX6_needPlayer_4 rfl (lv_at hl 1 rfl) ?_
    refine lv_aload_n hx hb dX6_needPlayer_5 rfl (lv_at hl 0 rfl) ?_
    refine va_get (D := D) (ci := 12) (v := .int 0) (C := RX6) (T := TX6) (N := 14) hx hb hts (by decide +kernel) hown hK hP 0 rfl rfl 5 (by decide) (hts (.fieldLink RX6 122 "FairwayChancery" "playerCount" "I") (by decide +kernel)) (fun _ h9 => h9) rfl dX6_needPlayer_6 ?_
    refine lv_icmp_lt (tgt := 23) hx hb dX6_needPlayer_9 (by decide) (fun c => by first | exact absurd c_1 c | exact absurd c c_1) (fun _ => ?_)
    exact tx_throwW (cls := "java/lang/IndexOutOfBoundsException") (text := "no such player") rfl hx hb hlT hown (by decide +kernel) (by decide +kernel) (hts (.classLink RX6 535 "java/lang/IndexOutOfBoundsException") (by decide +kernel)) (hts (.initialized "java/lang/IndexOutOfBoundsException") (by decide +kernel)) (fun w hw => hts w (List.mem_cons_of_mem _ (List.mem_append_right _ hw))) hT hS (fun q h => h) (by rw [hml]; exact hl.1) dX6_needPlayer_12 dX6_needPlayer_15 dX6_needPlayer_16 dX6_needPlayer_19 dX6_needPlayer_22 hne (Nat.le_of_ble_eq_true rfl) (Nat.le_of_ble_eq_true rfl) (Nat.le_of_ble_eq_true rfl) (Nat.le_of_ble_eq_true rfl) hlocks (by decide) (by decide)
set_option maxHeartbeats 4000000 in
set_option maxRecDepth 100000 in
theorem c_X6_needHole (l : Launch) (hlT : l.stackTraces = false) (D : va_G) (h0 : Nat) (r : Nat → Nat) (sz : Nat) (a1 : Int32) : vx_Met l yX6_needHole wsX6_needHole ({ frames := 20, cells := 1, slots := 6, locals := 200 }) (va_Pc [.ref h0, .int a1] (PX6 D h0 r sz)) (va_Qv (fun _ : Unit => False) (fun _ _ => True) (rg0 sz)) (tX (fun E => E = "java/lang/IndexOutOfBoundsException") (rg0 sz)) 1 6 (rg0 sz) := by
  refine vx_ofW (cc := cX6_needHole) (maxL := 2) (ret := none) (by decide +kernel) rfl ?_
  intro p e s m args below meth c s₁ B hml hne hv
  obtain ⟨rfl, hsz, hP, hK, hT⟩ := hv
  have hx := B.exec
  have hb := B.bytes
  have hr := B.returns
  have hts := atoms_spec (ws := wsX6_needHole) B.pre
  have hown : s.vm.findClass RX6 = some m.cls := findClass_of_methodNamed B.named
  have hlocks := B.notSynchronized
  subst hsz
  have hA : ∀ q : Nat, s.heap.size ≤ q → rg0 s.heap.size q := fun _ h => h
  have hS : va_S (rg0 s.heap.size) s.heap s.heap [] := va_S.rf
  have hl := lv_entry ([.ref h0, .int a1]) (n := 2) (Nat.le_of_ble_eq_true rfl)
  rw [lg_entry_eq]
  generalize (lg_sl ([.ref h0, .int a1]) ++ List.replicate (2 - (lg_sl ([.ref h0, .int a1])).length) Slot.unset).toArray = ls at hl ⊢
  have hl : lv_has ls 2 [(0, .ref h0), (1, .int a1)] := hl
  refine lv_iload_n hx hb dX6_needHole_0 rfl (lv_at hl 1 rfl) ?_
  refine lv_if_lt (tgt := 12) hx hb dX6_needHole_1 (by decide) (fun c_1 => ?_) (fun c_1 => ?_)
  · skip
    exact tx_throwW (cls := "java/lang/IndexOutOfBoundsException") (text := "no such hole") rfl hx hb hlT hown (by decide +kernel) (by decide +kernel) (hts (.classLink RX6 535 "java/lang/IndexOutOfBoundsException") (by decide +kernel)) (hts (.initialized "java/lang/IndexOutOfBoundsException") (by decide +kernel)) (fun w hw => hts w (List.mem_cons_of_mem _ (List.mem_append_right _ hw))) hT hS (fun q h => h) (by rw [hml]; exact hl.1) dX6_needHole_12 dX6_needHole_15 dX6_needHole_16 dX6_needHole_19 dX6_needHole_22 hne (Nat.le_of_ble_eq_true rfl) (Nat.le_of_ble_eq_true rfl) (Nat.le_of_ble_eq_true rfl) (Nat.le_of_ble_eq_true rfl) hlocks (by decide) (by decide)
  · skip
    refine lv_iload_n hx hb dX6_needHole_4 rfl (lv_at hl 1 rfl) ?_
    refine lv_aload_n hx hb dX6_needHole_5 rfl (lv_at hl 0 rfl) ?_
    refine va_get (D := D) (ci := 12) (v := .int 0) (C := RX6) (T := TX6) (N := 14) hx hb hts (by decide +kernel) hown hK hP 0 rfl rfl 4 (by decide) (hts (.fieldLink RX6 62 "FairwayChancery" "holeCount" "I") (by decide +kernel)) (fun _ h9 => h9) rfl dX6_needHole_6 ?_
    refine lv_icmp_lt (tgt := 23) hx hb dX6_needHole_9 (by decide) (fun c => by first | exact absurd c_1 c | exact absurd c c_1) (fun _ => ?_)
    exact tx_throwW (cls := "java/lang/IndexOutOfBoundsException") (text := "no such hole") rfl hx hb hlT hown (by decide +kernel) (by decide +kernel) (hts (.classLink RX6 535 "java/lang/IndexOutOfBoundsException") (by decide +kernel)) (hts (.initialized "java/lang/IndexOutOfBoundsException") (by decide +kernel)) (fun w hw => hts w (List.mem_cons_of_mem _ (List.mem_append_right _ hw))) hT hS (fun q h => h) (by rw [hml]; exact hl.1) dX6_needHole_12 dX6_needHole_15 dX6_needHole_16 dX6_needHole_19 dX6_needHole_22 hne (Nat.le_of_ble_eq_true rfl) (Nat.le_of_ble_eq_true rfl) (Nat.le_of_ble_eq_true rfl) (Nat.le_of_ble_eq_true rfl) hlocks (by decide) (by decide)
set_option maxHeartbeats 4000000 in
set_option maxRecDepth 100000 in
theorem c_X6_needRound (l : Launch) (hlT : l.stackTraces = false) (D : va_G) (h0 : Nat) (r : Nat → Nat) (sz : Nat) : vx_Met l yX6_needRound wsX6_needRound ({ frames := 20, cells := 1, slots := 6, locals := 200 }) (va_Pc [.ref h0] (PX6 D h0 r sz)) (va_Qv (fun _ : Unit => False) (fun _ _ => True) (rg0 sz)) (tX (fun E => E = "java/lang/IllegalStateException") (rg0 sz)) 1 6 (rg0 sz) := by
  refine vx_ofW (cc := cX6_needRound) (maxL := 1) (ret := none) (by decide +kernel) rfl ?_
  intro p e s m args below meth c s₁ B hml hne hv
  obtain ⟨rfl, hsz, hP, hK, hT⟩ := hv
  have hx := B.exec
  have hb := B.bytes
  have hr := B.returns
  have hts := atoms_spec (ws := wsX6_needRound) B.pre
  have hown : s.vm.findClass RX6 = some m.cls := findClass_of_methodNamed B.named
  have hlocks := B.notSynchronized
  subst hsz
  have hA : ∀ q : Nat, s.heap.size ≤ q → rg0 s.heap.size q := fun _ h => h
  have hS : va_S (rg0 s.heap.size) s.heap s.heap [] := va_S.rf
  have hl := lv_entry ([.ref h0]) (n := 1) (Nat.le_of_ble_eq_true rfl)
  rw [lg_entry_eq]
  generalize (lg_sl ([.ref h0]) ++ List.replicate (1 - (lg_sl ([.ref h0])).length) Slot.unset).toArray = ls at hl ⊢
  have hl : lv_has ls 1 [(0, .ref h0)] := hl
  refine lv_aload_n hx hb dX6_needRound_0 rfl (lv_at hl 0 rfl) ?_
  refine va_get (D := D) (ci := 12) (v := .int 0) (C := RX6) (T := TX6) (N := 14) hx hb hts (by decide +kernel) hown hK hP 0 rfl rfl 11 (by decide) (hts (.fieldLink RX6 132 "FairwayChancery" "isOn" "Z") (by decide +kernel)) (fun _ h9 => h9) rfl dX6_needRound_1 ?_
  refine lv_if_ne (tgt := 18) hx hb dX6_needRound_4 (by decide) (fun c => absurd c (by decide)) (fun _ => ?_)
  exact tx_throwW (cls := "java/lang/IllegalStateException") (text := "no round is on") rfl hx hb hlT hown (by decide +kernel) (by decide +kernel) (hts (.classLink RX6 65 "java/lang/IllegalStateException") (by decide +kernel)) (hts (.initialized "java/lang/IllegalStateException") (by decide +kernel)) (fun w hw => hts w (List.mem_cons_of_mem _ (List.mem_append_right _ hw))) hT hS (fun q h => h) (by rw [hml]; exact hl.1) dX6_needRound_7 dX6_needRound_10 dX6_needRound_11 dX6_needRound_14 dX6_needRound_17 hne (Nat.le_of_ble_eq_true rfl) (Nat.le_of_ble_eq_true rfl) (Nat.le_of_ble_eq_true rfl) (Nat.le_of_ble_eq_true rfl) hlocks (by decide) (by decide)
set_option maxHeartbeats 4000000 in
set_option maxRecDepth 100000 in
theorem c_X6_area (l : Launch) (hlT : l.stackTraces = false) (D : va_G) (h0 : Nat) (r : Nat → Nat) (sz : Nat) (a1 a2 a3 a4 a5 a6 : Int32) : vx_Met l yX6_area wsX6_area ({ frames := 40, cells := 1, slots := 6, locals := 400 }) (va_Pc [.ref h0, .int a1, .int a2, .int a3, .int a4, .int a5, .int a6] (PX6 D h0 r sz)) (va_Qi (fun (_ : Int32) (_ : Unit) => False) (fun _ _ => True) (rg0 sz)) (tX (fun E => E = "java/lang/IndexOutOfBoundsException") (rg0 sz)) 1 6 (rg0 sz) := by
  refine vx_ofW (cc := cX6_area) (maxL := 7) (ret := (some .int)) (by decide +kernel) rfl ?_
  intro p e s m args below meth c s₁ B hml hne hv
  obtain ⟨rfl, hsz, hP, hK, hT⟩ := hv
  have hx := B.exec
  have hb := B.bytes
  have hr := B.returns
  have hts := atoms_spec (ws := wsX6_area) B.pre
  have hown : s.vm.findClass RX6 = some m.cls := findClass_of_methodNamed B.named
  have hlocks := B.notSynchronized
  subst hsz
  have hA : ∀ q : Nat, s.heap.size ≤ q → rg0 s.heap.size q := fun _ h => h
  have hS : va_S (rg0 s.heap.size) s.heap s.heap [] := va_S.rf
  have hl := lv_entry ([.ref h0, .int a1, .int a2, .int a3, .int a4, .int a5, .int a6]) (n := 7) (Nat.le_of_ble_eq_true rfl)
  rw [lg_entry_eq]
  generalize (lg_sl ([.ref h0, .int a1, .int a2, .int a3, .int a4, .int a5, .int a6]) ++ List.replicate (7 - (lg_sl ([.ref h0, .int a1, .int a2, .int a3, .int a4, .int a5, .int a6])).length) Slot.unset).toArray = ls at hl ⊢
  have hl : lv_has ls 7 [(0, .ref h0), (1, .int a1), (2, .int a2), (3, .int a3), (4, .int a4), (5, .int a5), (6, .int a6)] := hl
  refine lv_aload_n hx hb dX6_area_0 rfl (lv_at hl 0 rfl) ?_
  refine lv_iload_n hx hb dX6_area_1 rfl (lv_at hl 1 rfl) ?_
  refine vx_callv (vx_runV (As := [.int a1]) (rest := []) ⟨hx, hb, hml, hown, hts⟩ (c_X6_needHole l hlT D h0 r s.heap.size a1) (cwV 1 hts gX6_area_X6_needHole rfl rfl rfl (by decide +kernel) ⟨Nat.le_of_ble_eq_true rfl, Nat.le_of_ble_eq_true rfl⟩) ⟨fun a U g mk q => ⟨q.1, PX6.blind q.2⟩, va_recv hK hP (ci := 12) (q0 := 0) rfl rfl, fun U hU hW => ⟨rfl, PX6.go hP hK hT hS hA hU hW⟩⟩ rfl rfl hl.1 rfl (lv_room (Nat.le_of_ble_eq_true rfl)) dX6_area_2 ⟨Nat.le_of_ble_eq_true rfl, Nat.le_of_ble_eq_true rfl⟩) hS (fun q _ h => h) (fun q h => h) (fun q _ h => h) (fun E ce q9 u t H1 locs1 ht hvm hpx hB hz hk9 hS hcell hv hcl => ?_) (fun u t H1 locs1 ht hvm hw hB hz1 hk1 hS => hw.elim)
  have hE : E = "java/lang/IndexOutOfBoundsException" := hB
  subst hE
  exact vx_out (fun x h => (hne x h).elim) hlocks hcell hv hcl (fun t ht hvm => ⟨(), trivial, rfl, hS.F ht⟩) hS.2.2 (by decide) (by decide)
set_option maxHeartbeats 4000000 in
set_option maxRecDepth 100000 in
theorem c_X6_kindAt (l : Launch) (hlT : l.stackTraces = false) (D : va_G) (h0 : Nat) (r : Nat → Nat) (sz : Nat) (a1 a2 a3 : Int32) : vx_Met l yX6_kindAt wsX6_kindAt ({ frames := 40, cells := 1, slots := 6, locals := 400 }) (va_Pc [.ref h0, .int a1, .int a2, .int a3] (PX6 D h0 r sz)) (va_Qi (fun (_ : Int32) (_ : Unit) => False) (fun _ _ => True) (rg0 sz)) (tX (fun E => E = "java/lang/IndexOutOfBoundsException") (rg0 sz)) 1 6 (rg0 sz) := by
  refine vx_ofW (cc := cX6_kindAt) (maxL := 4) (ret := (some .char)) (by decide +kernel) rfl ?_
  intro p e s m args below meth c s₁ B hml hne hv
  obtain ⟨rfl, hsz, hP, hK, hT⟩ := hv
  have hx := B.exec
  have hb := B.bytes
  have hr := B.returns
  have hts := atoms_spec (ws := wsX6_kindAt) B.pre
  have hown : s.vm.findClass RX6 = some m.cls := findClass_of_methodNamed B.named
  have hlocks := B.notSynchronized
  subst hsz
  have hA : ∀ q : Nat, s.heap.size ≤ q → rg0 s.heap.size q := fun _ h => h
  have hS : va_S (rg0 s.heap.size) s.heap s.heap [] := va_S.rf
  have hl := lv_entry ([.ref h0, .int a1, .int a2, .int a3]) (n := 4) (Nat.le_of_ble_eq_true rfl)
  rw [lg_entry_eq]
  generalize (lg_sl ([.ref h0, .int a1, .int a2, .int a3]) ++ List.replicate (4 - (lg_sl ([.ref h0, .int a1, .int a2, .int a3])).length) Slot.unset).toArray = ls at hl ⊢
  have hl : lv_has ls 4 [(0, .ref h0), (1, .int a1), (2, .int a2), (3, .int a3)] := hl
  refine lv_aload_n hx hb dX6_kindAt_0 rfl (lv_at hl 0 rfl) ?_
  refine lv_iload_n hx hb dX6_kindAt_1 rfl (lv_at hl 1 rfl) ?_
  refine vx_callv (vx_runV (As := [.int a1]) (rest := []) ⟨hx, hb, hml, hown, hts⟩ (c_X6_needHole l hlT D h0 r s.heap.size a1) (cwV 1 hts gX6_kindAt_X6_needHole rfl rfl rfl (by decide +kernel) ⟨Nat.le_of_ble_eq_true rfl, Nat.le_of_ble_eq_true rfl⟩) ⟨fun a U g mk q => ⟨q.1, PX6.blind q.2⟩, va_recv hK hP (ci := 12) (q0 := 0) rfl rfl, fun U hU hW => ⟨rfl, PX6.go hP hK hT hS hA hU hW⟩⟩ rfl rfl hl.1 rfl (lv_room (Nat.le_of_ble_eq_true rfl)) dX6_kindAt_2 ⟨Nat.le_of_ble_eq_true rfl, Nat.le_of_ble_eq_true rfl⟩) hS (fun q _ h => h) (fun q h => h) (fun q _ h => h) (fun E ce q9 u t H1 locs1 ht hvm hpx hB hz hk9 hS hcell hv hcl => ?_) (fun u t H1 locs1 ht hvm hw hB hz1 hk1 hS => hw.elim)
  have hE : E = "java/lang/IndexOutOfBoundsException" := hB
  subst hE
  exact vx_out (fun x h => (hne x h).elim) hlocks hcell hv hcl (fun t ht hvm => ⟨(), trivial, rfl, hS.F ht⟩) hS.2.2 (by decide) (by decide)
set_option maxHeartbeats 4000000 in
set_option maxRecDepth 100000 in
theorem c_X6_setHandicap (l : Launch) (hlT : l.stackTraces = false) (D : va_G) (h0 : Nat) (r : Nat → Nat) (sz : Nat) (a1 a2 : Int32) : vx_Met l yX6_setHandicap wsX6_setHandicap ({ frames := 40, cells := 1, slots := 6, locals := 400 }) (va_Pc [.ref h0, .int a1, .int a2] (PX6 D h0 r sz)) (va_Qi (fun (_ : Int32) (_ : Unit) => False) (fun _ _ => True) (rg0 sz)) (tX (fun E => E = "java/lang/IndexOutOfBoundsException") (rg0 sz)) 1 6 (rg0 sz) := by
  refine vx_ofW (cc := cX6_setHandicap) (maxL := 4) (ret := (some .int)) (by decide +kernel) rfl ?_
  intro p e s m args below meth c s₁ B hml hne hv
  obtain ⟨rfl, hsz, hP, hK, hT⟩ := hv
  have hx := B.exec
  have hb := B.bytes
  have hr := B.returns
  have hts := atoms_spec (ws := wsX6_setHandicap) B.pre
  have hown : s.vm.findClass RX6 = some m.cls := findClass_of_methodNamed B.named
  have hlocks := B.notSynchronized
  subst hsz
  have hA : ∀ q : Nat, s.heap.size ≤ q → rg0 s.heap.size q := fun _ h => h
  have hS : va_S (rg0 s.heap.size) s.heap s.heap [] := va_S.rf
  have hl := lv_entry ([.ref h0, .int a1, .int a2]) (n := 4) (Nat.le_of_ble_eq_true rfl)
  rw [lg_entry_eq]
  generalize (lg_sl ([.ref h0, .int a1, .int a2]) ++ List.replicate (4 - (lg_sl ([.ref h0, .int a1, .int a2])).length) Slot.unset).toArray = ls at hl ⊢
  have hl : lv_has ls 4 [(0, .ref h0), (1, .int a1), (2, .int a2)] := hl
  refine lv_aload_n hx hb dX6_setHandicap_0 rfl (lv_at hl 0 rfl) ?_
  refine lv_iload_n hx hb dX6_setHandicap_1 rfl (lv_at hl 1 rfl) ?_
  refine vx_callv (vx_runV (As := [.int a1]) (rest := []) ⟨hx, hb, hml, hown, hts⟩ (c_X6_needPlayer l hlT D h0 r s.heap.size a1) (cwV 1 hts gX6_setHandicap_X6_needPlayer rfl rfl rfl (by decide +kernel) ⟨Nat.le_of_ble_eq_true rfl, Nat.le_of_ble_eq_true rfl⟩) ⟨fun a U g mk q => ⟨q.1, PX6.blind q.2⟩, va_recv hK hP (ci := 12) (q0 := 0) rfl rfl, fun U hU hW => ⟨rfl, PX6.go hP hK hT hS hA hU hW⟩⟩ rfl rfl hl.1 rfl (lv_room (Nat.le_of_ble_eq_true rfl)) dX6_setHandicap_2 ⟨Nat.le_of_ble_eq_true rfl, Nat.le_of_ble_eq_true rfl⟩) hS (fun q _ h => h) (fun q h => h) (fun q _ h => h) (fun E ce q9 u t H1 locs1 ht hvm hpx hB hz hk9 hS hcell hv hcl => ?_) (fun u t H1 locs1 ht hvm hw hB hz1 hk1 hS => hw.elim)
  have hE : E = "java/lang/IndexOutOfBoundsException" := hB
  subst hE
  exact vx_out (fun x h => (hne x h).elim) hlocks hcell hv hcl (fun t ht hvm => ⟨(), trivial, rfl, hS.F ht⟩) hS.2.2 (by decide) (by decide)
set_option maxHeartbeats 4000000 in
set_option maxRecDepth 100000 in
theorem c_X6_gets (l : Launch) (hlT : l.stackTraces = false) (D : va_G) (h0 : Nat) (r : Nat → Nat) (sz : Nat) (a1 a2 : Int32) : vx_Met l yX6_gets wsX6_gets ({ frames := 40, cells := 1, slots := 6, locals := 400 }) (va_Pc [.ref h0, .int a1, .int a2] (PX6 D h0 r sz)) (va_Qi (fun (_ : Int32) (_ : Unit) => False) (fun _ _ => True) (rg0 sz)) (tX (fun E => E = "java/lang/IndexOutOfBoundsException") (rg0 sz)) 1 6 (rg0 sz) := by
  refine vx_ofW (cc := cX6_gets) (maxL := 3) (ret := (some .int)) (by decide +kernel) rfl ?_
  intro p e s m args below meth c s₁ B hml hne hv
  obtain ⟨rfl, hsz, hP, hK, hT⟩ := hv
  have hx := B.exec
  have hb := B.bytes
  have hr := B.returns
  have hts := atoms_spec (ws := wsX6_gets) B.pre
  have hown : s.vm.findClass RX6 = some m.cls := findClass_of_methodNamed B.named
  have hlocks := B.notSynchronized
  subst hsz
  have hA : ∀ q : Nat, s.heap.size ≤ q → rg0 s.heap.size q := fun _ h => h
  have hS : va_S (rg0 s.heap.size) s.heap s.heap [] := va_S.rf
  have hl := lv_entry ([.ref h0, .int a1, .int a2]) (n := 3) (Nat.le_of_ble_eq_true rfl)
  rw [lg_entry_eq]
  generalize (lg_sl ([.ref h0, .int a1, .int a2]) ++ List.replicate (3 - (lg_sl ([.ref h0, .int a1, .int a2])).length) Slot.unset).toArray = ls at hl ⊢
  have hl : lv_has ls 3 [(0, .ref h0), (1, .int a1), (2, .int a2)] := hl
  refine lv_aload_n hx hb dX6_gets_0 rfl (lv_at hl 0 rfl) ?_
  refine lv_iload_n hx hb dX6_gets_1 rfl (lv_at hl 1 rfl) ?_
  refine vx_callv (vx_runV (As := [.int a1]) (rest := []) ⟨hx, hb, hml, hown, hts⟩ (c_X6_needPlayer l hlT D h0 r s.heap.size a1) (cwV 1 hts gX6_gets_X6_needPlayer rfl rfl rfl (by decide +kernel) ⟨Nat.le_of_ble_eq_true rfl, Nat.le_of_ble_eq_true rfl⟩) ⟨fun a U g mk q => ⟨q.1, PX6.blind q.2⟩, va_recv hK hP (ci := 12) (q0 := 0) rfl rfl, fun U hU hW => ⟨rfl, PX6.go hP hK hT hS hA hU hW⟩⟩ rfl rfl hl.1 rfl (lv_room (Nat.le_of_ble_eq_true rfl)) dX6_gets_2 ⟨Nat.le_of_ble_eq_true rfl, Nat.le_of_ble_eq_true rfl⟩) hS (fun q _ h => h) (fun q h => h) (fun q _ h => h) (fun E ce q9 u t H1 locs1 ht hvm hpx hB hz hk9 hS hcell hv hcl => ?_) (fun u t H1 locs1 ht hvm hw hB hz1 hk1 hS => hw.elim)
  have hE : E = "java/lang/IndexOutOfBoundsException" := hB
  subst hE
  exact vx_out (fun x h => (hne x h).elim) hlocks hcell hv hcl (fun t ht hvm => ⟨(), trivial, rfl, hS.F ht⟩) hS.2.2 (by decide) (by decide)
set_option maxHeartbeats 4000000 in
set_option maxRecDepth 100000 in
theorem c_X6_holeOn (l : Launch) (hlT : l.stackTraces = false) (D : va_G) (h0 : Nat) (r : Nat → Nat) (sz : Nat) : vx_Met l yX6_holeOn wsX6_holeOn ({ frames := 40, cells := 1, slots := 6, locals := 400 }) (va_Pc [.ref h0] (PX6 D h0 r sz)) (va_Qi (fun (_ : Int32) (_ : Unit) => False) (fun _ _ => True) (rg0 sz)) (tX (fun E => E = "java/lang/IllegalStateException") (rg0 sz)) 1 6 (rg0 sz) := by
  refine vx_ofW (cc := cX6_holeOn) (maxL := 1) (ret := (some .int)) (by decide +kernel) rfl ?_
  intro p e s m args below meth c s₁ B hml hne hv
  obtain ⟨rfl, hsz, hP, hK, hT⟩ := hv
  have hx := B.exec
  have hb := B.bytes
  have hr := B.returns
  have hts := atoms_spec (ws := wsX6_holeOn) B.pre
  have hown : s.vm.findClass RX6 = some m.cls := findClass_of_methodNamed B.named
  have hlocks := B.notSynchronized
  subst hsz
  have hA : ∀ q : Nat, s.heap.size ≤ q → rg0 s.heap.size q := fun _ h => h
  have hS : va_S (rg0 s.heap.size) s.heap s.heap [] := va_S.rf
  have hl := lv_entry ([.ref h0]) (n := 1) (Nat.le_of_ble_eq_true rfl)
  rw [lg_entry_eq]
  generalize (lg_sl ([.ref h0]) ++ List.replicate (1 - (lg_sl ([.ref h0])).length) Slot.unset).toArray = ls at hl ⊢
  have hl : lv_has ls 1 [(0, .ref h0)] := hl
  refine lv_aload_n hx hb dX6_holeOn_0 rfl (lv_at hl 0 rfl) ?_
  refine vx_callv (vx_runV (As := []) (rest := []) ⟨hx, hb, hml, hown, hts⟩ (c_X6_needRound l hlT D h0 r s.heap.size) (cwV 0 hts gX6_holeOn_X6_needRound rfl rfl rfl (by decide +kernel) ⟨Nat.le_of_ble_eq_true rfl, Nat.le_of_ble_eq_true rfl⟩) ⟨fun a U g mk q => ⟨q.1, PX6.blind q.2⟩, va_recv hK hP (ci := 12) (q0 := 0) rfl rfl, fun U hU hW => ⟨rfl, PX6.go hP hK hT hS hA hU hW⟩⟩ rfl rfl hl.1 rfl (lv_room (Nat.le_of_ble_eq_true rfl)) dX6_holeOn_1 ⟨Nat.le_of_ble_eq_true rfl, Nat.le_of_ble_eq_true rfl⟩) hS (fun q _ h => h) (fun q h => h) (fun q _ h => h) (fun E ce q9 u t H1 locs1 ht hvm hpx hB hz hk9 hS hcell hv hcl => ?_) (fun u t H1 locs1 ht hvm hw hB hz1 hk1 hS => hw.elim)
  have hE : E = "java/lang/IllegalStateException" := hB
  subst hE
  exact vx_out (fun x h => (hne x h).elim) hlocks hcell hv hcl (fun t ht hvm => ⟨(), trivial, rfl, hS.F ht⟩) hS.2.2 (by decide) (by decide)
set_option maxHeartbeats 4000000 in
set_option maxRecDepth 100000 in
theorem c_X6_away (l : Launch) (hlT : l.stackTraces = false) (D : va_G) (h0 : Nat) (r : Nat → Nat) (sz : Nat) : vx_Met l yX6_away wsX6_away ({ frames := 40, cells := 1, slots := 6, locals := 400 }) (va_Pc [.ref h0] (PX6 D h0 r sz)) (va_Qi (fun (_ : Int32) (_ : Unit) => False) (fun _ _ => True) (rg0 sz)) (tX (fun E => E = "java/lang/IllegalStateException") (rg0 sz)) 1 6 (rg0 sz) := by
  refine vx_ofW (cc := cX6_away) (maxL := 2) (ret := (some .int)) (by decide +kernel) rfl ?_
  intro p e s m args below meth c s₁ B hml hne hv
  obtain ⟨rfl, hsz, hP, hK, hT⟩ := hv
  have hx := B.exec
  have hb := B.bytes
  have hr := B.returns
  have hts := atoms_spec (ws := wsX6_away) B.pre
  have hown : s.vm.findClass RX6 = some m.cls := findClass_of_methodNamed B.named
  have hlocks := B.notSynchronized
  subst hsz
  have hA : ∀ q : Nat, s.heap.size ≤ q → rg0 s.heap.size q := fun _ h => h
  have hS : va_S (rg0 s.heap.size) s.heap s.heap [] := va_S.rf
  have hl := lv_entry ([.ref h0]) (n := 2) (Nat.le_of_ble_eq_true rfl)
  rw [lg_entry_eq]
  generalize (lg_sl ([.ref h0]) ++ List.replicate (2 - (lg_sl ([.ref h0])).length) Slot.unset).toArray = ls at hl ⊢
  have hl : lv_has ls 2 [(0, .ref h0)] := hl
  refine lv_aload_n hx hb dX6_away_0 rfl (lv_at hl 0 rfl) ?_
  refine vx_callv (vx_runV (As := []) (rest := []) ⟨hx, hb, hml, hown, hts⟩ (c_X6_needRound l hlT D h0 r s.heap.size) (cwV 0 hts gX6_away_X6_needRound rfl rfl rfl (by decide +kernel) ⟨Nat.le_of_ble_eq_true rfl, Nat.le_of_ble_eq_true rfl⟩) ⟨fun a U g mk q => ⟨q.1, PX6.blind q.2⟩, va_recv hK hP (ci := 12) (q0 := 0) rfl rfl, fun U hU hW => ⟨rfl, PX6.go hP hK hT hS hA hU hW⟩⟩ rfl rfl hl.1 rfl (lv_room (Nat.le_of_ble_eq_true rfl)) dX6_away_1 ⟨Nat.le_of_ble_eq_true rfl, Nat.le_of_ble_eq_true rfl⟩) hS (fun q _ h => h) (fun q h => h) (fun q _ h => h) (fun E ce q9 u t H1 locs1 ht hvm hpx hB hz hk9 hS hcell hv hcl => ?_) (fun u t H1 locs1 ht hvm hw hB hz1 hk1 hS => hw.elim)
  have hE : E = "java/lang/IllegalStateException" := hB
  subst hE
  exact vx_out (fun x h => (hne x h).elim) hlocks hcell hv hcl (fun t ht hvm => ⟨(), trivial, rfl, hS.F ht⟩) hS.2.2 (by decide) (by decide)
set_option maxHeartbeats 4000000 in
set_option maxRecDepth 100000 in
theorem c_X6_stroke (l : Launch) (hlT : l.stackTraces = false) (D : va_G) (h0 : Nat) (r : Nat → Nat) (sz : Nat) (a1 a2 a3 : Int32) : vx_Met l yX6_stroke wsX6_stroke ({ frames := 40, cells := 1, slots := 6, locals := 400 }) (va_Pc [.ref h0, .int a1, .int a2, .int a3] (PX6 D h0 r sz)) (va_Qi (fun (_ : Int32) (_ : Unit) => False) (fun _ _ => True) (rg0 sz)) (tX (fun E => E = "java/lang/IndexOutOfBoundsException") (rg0 sz)) 1 6 (rg0 sz) := by
  refine vx_ofW (cc := cX6_stroke) (maxL := 8) (ret := (some .char)) (by decide +kernel) rfl ?_
  intro p e s m args below meth c s₁ B hml hne hv
  obtain ⟨rfl, hsz, hP, hK, hT⟩ := hv
  have hx := B.exec
  have hb := B.bytes
  have hr := B.returns
  have hts := atoms_spec (ws := wsX6_stroke) B.pre
  have hown : s.vm.findClass RX6 = some m.cls := findClass_of_methodNamed B.named
  have hlocks := B.notSynchronized
  subst hsz
  have hA : ∀ q : Nat, s.heap.size ≤ q → rg0 s.heap.size q := fun _ h => h
  have hS : va_S (rg0 s.heap.size) s.heap s.heap [] := va_S.rf
  have hl := lv_entry ([.ref h0, .int a1, .int a2, .int a3]) (n := 8) (Nat.le_of_ble_eq_true rfl)
  rw [lg_entry_eq]
  generalize (lg_sl ([.ref h0, .int a1, .int a2, .int a3]) ++ List.replicate (8 - (lg_sl ([.ref h0, .int a1, .int a2, .int a3])).length) Slot.unset).toArray = ls at hl ⊢
  have hl : lv_has ls 8 [(0, .ref h0), (1, .int a1), (2, .int a2), (3, .int a3)] := hl
  refine lv_aload_n hx hb dX6_stroke_0 rfl (lv_at hl 0 rfl) ?_
  refine lv_iload_n hx hb dX6_stroke_1 rfl (lv_at hl 1 rfl) ?_
  refine vx_callv (vx_runV (As := [.int a1]) (rest := []) ⟨hx, hb, hml, hown, hts⟩ (c_X6_needPlayer l hlT D h0 r s.heap.size a1) (cwV 1 hts gX6_stroke_X6_needPlayer rfl rfl rfl (by decide +kernel) ⟨Nat.le_of_ble_eq_true rfl, Nat.le_of_ble_eq_true rfl⟩) ⟨fun a U g mk q => ⟨q.1, PX6.blind q.2⟩, va_recv hK hP (ci := 12) (q0 := 0) rfl rfl, fun U hU hW => ⟨rfl, PX6.go hP hK hT hS hA hU hW⟩⟩ rfl rfl hl.1 rfl (lv_room (Nat.le_of_ble_eq_true rfl)) dX6_stroke_2 ⟨Nat.le_of_ble_eq_true rfl, Nat.le_of_ble_eq_true rfl⟩) hS (fun q _ h => h) (fun q h => h) (fun q _ h => h) (fun E ce q9 u t H1 locs1 ht hvm hpx hB hz hk9 hS hcell hv hcl => ?_) (fun u t H1 locs1 ht hvm hw hB hz1 hk1 hS => hw.elim)
  have hE : E = "java/lang/IndexOutOfBoundsException" := hB
  subst hE
  exact vx_out (fun x h => (hne x h).elim) hlocks hcell hv hcl (fun t ht hvm => ⟨(), trivial, rfl, hS.F ht⟩) hS.2.2 (by decide) (by decide)
set_option maxHeartbeats 4000000 in
set_option maxRecDepth 100000 in
theorem c_X6_odds (l : Launch) (hlT : l.stackTraces = false) (D : va_G) (h0 : Nat) (r : Nat → Nat) (sz : Nat) (a1 a2 a3 a4 : Int32) : vx_Met l yX6_odds wsX6_odds ({ frames := 40, cells := 1, slots := 6, locals := 400 }) (va_Pc [.ref h0, .int a1, .int a2, .int a3, .int a4] (PX6 D h0 r sz)) (va_Qi (fun (_ : Int32) (_ : Unit) => False) (fun _ _ => True) (rg0 sz)) (tX (fun E => E = "java/lang/IndexOutOfBoundsException") (rg0 sz)) 1 6 (rg0 sz) := by
  refine vx_ofW (cc := cX6_odds) (maxL := 11) (ret := (some .int)) (by decide +kernel) rfl ?_
  intro p e s m args below meth c s₁ B hml hne hv
  obtain ⟨rfl, hsz, hP, hK, hT⟩ := hv
  have hx := B.exec
  have hb := B.bytes
  have hr := B.returns
  have hts := atoms_spec (ws := wsX6_odds) B.pre
  have hown : s.vm.findClass RX6 = some m.cls := findClass_of_methodNamed B.named
  have hlocks := B.notSynchronized
  subst hsz
  have hA : ∀ q : Nat, s.heap.size ≤ q → rg0 s.heap.size q := fun _ h => h
  have hS : va_S (rg0 s.heap.size) s.heap s.heap [] := va_S.rf
  have hl := lv_entry ([.ref h0, .int a1, .int a2, .int a3, .int a4]) (n := 11) (Nat.le_of_ble_eq_true rfl)
  rw [lg_entry_eq]
  generalize (lg_sl ([.ref h0, .int a1, .int a2, .int a3, .int a4]) ++ List.replicate (11 - (lg_sl ([.ref h0, .int a1, .int a2, .int a3, .int a4])).length) Slot.unset).toArray = ls at hl ⊢
  have hl : lv_has ls 11 [(0, .ref h0), (1, .int a1), (2, .int a2), (3, .int a3), (4, .int a4)] := hl
  refine lv_aload_n hx hb dX6_odds_0 rfl (lv_at hl 0 rfl) ?_
  refine lv_iload_n hx hb dX6_odds_1 rfl (lv_at hl 1 rfl) ?_
  refine vx_callv (vx_runV (As := [.int a1]) (rest := []) ⟨hx, hb, hml, hown, hts⟩ (c_X6_needPlayer l hlT D h0 r s.heap.size a1) (cwV 1 hts gX6_odds_X6_needPlayer rfl rfl rfl (by decide +kernel) ⟨Nat.le_of_ble_eq_true rfl, Nat.le_of_ble_eq_true rfl⟩) ⟨fun a U g mk q => ⟨q.1, PX6.blind q.2⟩, va_recv hK hP (ci := 12) (q0 := 0) rfl rfl, fun U hU hW => ⟨rfl, PX6.go hP hK hT hS hA hU hW⟩⟩ rfl rfl hl.1 rfl (lv_room (Nat.le_of_ble_eq_true rfl)) dX6_odds_2 ⟨Nat.le_of_ble_eq_true rfl, Nat.le_of_ble_eq_true rfl⟩) hS (fun q _ h => h) (fun q h => h) (fun q _ h => h) (fun E ce q9 u t H1 locs1 ht hvm hpx hB hz hk9 hS hcell hv hcl => ?_) (fun u t H1 locs1 ht hvm hw hB hz1 hk1 hS => hw.elim)
  have hE : E = "java/lang/IndexOutOfBoundsException" := hB
  subst hE
  exact vx_out (fun x h => (hne x h).elim) hlocks hcell hv hcl (fun t ht hvm => ⟨(), trivial, rfl, hS.F ht⟩) hS.2.2 (by decide) (by decide)
set_option maxHeartbeats 4000000 in
set_option maxRecDepth 100000 in
theorem c_X6_provisional (l : Launch) (hlT : l.stackTraces = false) (D : va_G) (h0 : Nat) (r : Nat → Nat) (sz : Nat) (a1 a2 a3 : Int32) : vx_Met l yX6_provisional wsX6_provisional ({ frames := 40, cells := 1, slots := 6, locals := 400 }) (va_Pc [.ref h0, .int a1, .int a2, .int a3] (PX6 D h0 r sz)) (va_Qi (fun (_ : Int32) (_ : Unit) => False) (fun _ _ => True) (rg0 sz)) (tX (fun E => E = "java/lang/IndexOutOfBoundsException") (rg0 sz)) 1 6 (rg0 sz) := by
  refine vx_ofW (cc := cX6_provisional) (maxL := 8) (ret := (some .char)) (by decide +kernel) rfl ?_
  intro p e s m args below meth c s₁ B hml hne hv
  obtain ⟨rfl, hsz, hP, hK, hT⟩ := hv
  have hx := B.exec
  have hb := B.bytes
  have hr := B.returns
  have hts := atoms_spec (ws := wsX6_provisional) B.pre
  have hown : s.vm.findClass RX6 = some m.cls := findClass_of_methodNamed B.named
  have hlocks := B.notSynchronized
  subst hsz
  have hA : ∀ q : Nat, s.heap.size ≤ q → rg0 s.heap.size q := fun _ h => h
  have hS : va_S (rg0 s.heap.size) s.heap s.heap [] := va_S.rf
  have hl := lv_entry ([.ref h0, .int a1, .int a2, .int a3]) (n := 8) (Nat.le_of_ble_eq_true rfl)
  rw [lg_entry_eq]
  generalize (lg_sl ([.ref h0, .int a1, .int a2, .int a3]) ++ List.replicate (8 - (lg_sl ([.ref h0, .int a1, .int a2, .int a3])).length) Slot.unset).toArray = ls at hl ⊢
  have hl : lv_has ls 8 [(0, .ref h0), (1, .int a1), (2, .int a2), (3, .int a3)] := hl
  refine lv_aload_n hx hb dX6_provisional_0 rfl (lv_at hl 0 rfl) ?_
  refine lv_iload_n hx hb dX6_provisional_1 rfl (lv_at hl 1 rfl) ?_
  refine vx_callv (vx_runV (As := [.int a1]) (rest := []) ⟨hx, hb, hml, hown, hts⟩ (c_X6_needPlayer l hlT D h0 r s.heap.size a1) (cwV 1 hts gX6_provisional_X6_needPlayer rfl rfl rfl (by decide +kernel) ⟨Nat.le_of_ble_eq_true rfl, Nat.le_of_ble_eq_true rfl⟩) ⟨fun a U g mk q => ⟨q.1, PX6.blind q.2⟩, va_recv hK hP (ci := 12) (q0 := 0) rfl rfl, fun U hU hW => ⟨rfl, PX6.go hP hK hT hS hA hU hW⟩⟩ rfl rfl hl.1 rfl (lv_room (Nat.le_of_ble_eq_true rfl)) dX6_provisional_2 ⟨Nat.le_of_ble_eq_true rfl, Nat.le_of_ble_eq_true rfl⟩) hS (fun q _ h => h) (fun q h => h) (fun q _ h => h) (fun E ce q9 u t H1 locs1 ht hvm hpx hB hz hk9 hS hcell hv hcl => ?_) (fun u t H1 locs1 ht hvm hw hB hz1 hk1 hS => hw.elim)
  have hE : E = "java/lang/IndexOutOfBoundsException" := hB
  subst hE
  exact vx_out (fun x h => (hne x h).elim) hlocks hcell hv hcl (fun t ht hvm => ⟨(), trivial, rfl, hS.F ht⟩) hS.2.2 (by decide) (by decide)
set_option maxHeartbeats 4000000 in
set_option maxRecDepth 100000 in
theorem c_X6_search (l : Launch) (hlT : l.stackTraces = false) (D : va_G) (h0 : Nat) (r : Nat → Nat) (sz : Nat) (a1 : Int32) : vx_Met l yX6_search wsX6_search ({ frames := 40, cells := 1, slots := 6, locals := 400 }) (va_Pc [.ref h0, .int a1] (PX6 D h0 r sz)) (va_Qi (fun (_ : Int32) (_ : Unit) => False) (fun _ _ => True) (rg0 sz)) (tX (fun E => E = "java/lang/IndexOutOfBoundsException") (rg0 sz)) 1 6 (rg0 sz) := by
  refine vx_ofW (cc := cX6_search) (maxL := 3) (ret := (some .char)) (by decide +kernel) rfl ?_
  intro p e s m args below meth c s₁ B hml hne hv
  obtain ⟨rfl, hsz, hP, hK, hT⟩ := hv
  have hx := B.exec
  have hb := B.bytes
  have hr := B.returns
  have hts := atoms_spec (ws := wsX6_search) B.pre
  have hown : s.vm.findClass RX6 = some m.cls := findClass_of_methodNamed B.named
  have hlocks := B.notSynchronized
  subst hsz
  have hA : ∀ q : Nat, s.heap.size ≤ q → rg0 s.heap.size q := fun _ h => h
  have hS : va_S (rg0 s.heap.size) s.heap s.heap [] := va_S.rf
  have hl := lv_entry ([.ref h0, .int a1]) (n := 3) (Nat.le_of_ble_eq_true rfl)
  rw [lg_entry_eq]
  generalize (lg_sl ([.ref h0, .int a1]) ++ List.replicate (3 - (lg_sl ([.ref h0, .int a1])).length) Slot.unset).toArray = ls at hl ⊢
  have hl : lv_has ls 3 [(0, .ref h0), (1, .int a1)] := hl
  refine lv_aload_n hx hb dX6_search_0 rfl (lv_at hl 0 rfl) ?_
  refine lv_iload_n hx hb dX6_search_1 rfl (lv_at hl 1 rfl) ?_
  refine vx_callv (vx_runV (As := [.int a1]) (rest := []) ⟨hx, hb, hml, hown, hts⟩ (c_X6_needPlayer l hlT D h0 r s.heap.size a1) (cwV 1 hts gX6_search_X6_needPlayer rfl rfl rfl (by decide +kernel) ⟨Nat.le_of_ble_eq_true rfl, Nat.le_of_ble_eq_true rfl⟩) ⟨fun a U g mk q => ⟨q.1, PX6.blind q.2⟩, va_recv hK hP (ci := 12) (q0 := 0) rfl rfl, fun U hU hW => ⟨rfl, PX6.go hP hK hT hS hA hU hW⟩⟩ rfl rfl hl.1 rfl (lv_room (Nat.le_of_ble_eq_true rfl)) dX6_search_2 ⟨Nat.le_of_ble_eq_true rfl, Nat.le_of_ble_eq_true rfl⟩) hS (fun q _ h => h) (fun q h => h) (fun q _ h => h) (fun E ce q9 u t H1 locs1 ht hvm hpx hB hz hk9 hS hcell hv hcl => ?_) (fun u t H1 locs1 ht hvm hw hB hz1 hk1 hS => hw.elim)
  have hE : E = "java/lang/IndexOutOfBoundsException" := hB
  subst hE
  exact vx_out (fun x h => (hne x h).elim) hlocks hcell hv hcl (fun t ht hvm => ⟨(), trivial, rfl, hS.F ht⟩) hS.2.2 (by decide) (by decide)
set_option maxHeartbeats 4000000 in
set_option maxRecDepth 100000 in
theorem c_X6_again (l : Launch) (hlT : l.stackTraces = false) (D : va_G) (h0 : Nat) (r : Nat → Nat) (sz : Nat) (a1 : Int32) : vx_Met l yX6_again wsX6_again ({ frames := 40, cells := 1, slots := 6, locals := 400 }) (va_Pc [.ref h0, .int a1] (PX6 D h0 r sz)) (va_Qi (fun (_ : Int32) (_ : Unit) => False) (fun _ _ => True) (rg0 sz)) (tX (fun E => E = "java/lang/IndexOutOfBoundsException") (rg0 sz)) 1 6 (rg0 sz) := by
  refine vx_ofW (cc := cX6_again) (maxL := 3) (ret := (some .int)) (by decide +kernel) rfl ?_
  intro p e s m args below meth c s₁ B hml hne hv
  obtain ⟨rfl, hsz, hP, hK, hT⟩ := hv
  have hx := B.exec
  have hb := B.bytes
  have hr := B.returns
  have hts := atoms_spec (ws := wsX6_again) B.pre
  have hown : s.vm.findClass RX6 = some m.cls := findClass_of_methodNamed B.named
  have hlocks := B.notSynchronized
  subst hsz
  have hA : ∀ q : Nat, s.heap.size ≤ q → rg0 s.heap.size q := fun _ h => h
  have hS : va_S (rg0 s.heap.size) s.heap s.heap [] := va_S.rf
  have hl := lv_entry ([.ref h0, .int a1]) (n := 3) (Nat.le_of_ble_eq_true rfl)
  rw [lg_entry_eq]
  generalize (lg_sl ([.ref h0, .int a1]) ++ List.replicate (3 - (lg_sl ([.ref h0, .int a1])).length) Slot.unset).toArray = ls at hl ⊢
  have hl : lv_has ls 3 [(0, .ref h0), (1, .int a1)] := hl
  refine lv_aload_n hx hb dX6_again_0 rfl (lv_at hl 0 rfl) ?_
  refine lv_iload_n hx hb dX6_again_1 rfl (lv_at hl 1 rfl) ?_
  refine vx_callv (vx_runV (As := [.int a1]) (rest := []) ⟨hx, hb, hml, hown, hts⟩ (c_X6_needPlayer l hlT D h0 r s.heap.size a1) (cwV 1 hts gX6_again_X6_needPlayer rfl rfl rfl (by decide +kernel) ⟨Nat.le_of_ble_eq_true rfl, Nat.le_of_ble_eq_true rfl⟩) ⟨fun a U g mk q => ⟨q.1, PX6.blind q.2⟩, va_recv hK hP (ci := 12) (q0 := 0) rfl rfl, fun U hU hW => ⟨rfl, PX6.go hP hK hT hS hA hU hW⟩⟩ rfl rfl hl.1 rfl (lv_room (Nat.le_of_ble_eq_true rfl)) dX6_again_2 ⟨Nat.le_of_ble_eq_true rfl, Nat.le_of_ble_eq_true rfl⟩) hS (fun q _ h => h) (fun q h => h) (fun q _ h => h) (fun E ce q9 u t H1 locs1 ht hvm hpx hB hz hk9 hS hcell hv hcl => ?_) (fun u t H1 locs1 ht hvm hw hB hz1 hk1 hS => hw.elim)
  have hE : E = "java/lang/IndexOutOfBoundsException" := hB
  subst hE
  exact vx_out (fun x h => (hne x h).elim) hlocks hcell hv hcl (fun t ht hvm => ⟨(), trivial, rfl, hS.F ht⟩) hS.2.2 (by decide) (by decide)
set_option maxHeartbeats 4000000 in
set_option maxRecDepth 100000 in
theorem c_X6_line (l : Launch) (hlT : l.stackTraces = false) (D : va_G) (h0 : Nat) (r : Nat → Nat) (sz : Nat) (a1 a2 : Int32) : vx_Met l yX6_line wsX6_line ({ frames := 40, cells := 1, slots := 6, locals := 400 }) (va_Pc [.ref h0, .int a1, .int a2] (PX6 D h0 r sz)) (va_Qi (fun (_ : Int32) (_ : Unit) => False) (fun _ _ => True) (rg0 sz)) (tX (fun E => E = "java/lang/IndexOutOfBoundsException") (rg0 sz)) 1 6 (rg0 sz) := by
  refine vx_ofW (cc := cX6_line) (maxL := 6) (ret := (some .int)) (by decide +kernel) rfl ?_
  intro p e s m args below meth c s₁ B hml hne hv
  obtain ⟨rfl, hsz, hP, hK, hT⟩ := hv
  have hx := B.exec
  have hb := B.bytes
  have hr := B.returns
  have hts := atoms_spec (ws := wsX6_line) B.pre
  have hown : s.vm.findClass RX6 = some m.cls := findClass_of_methodNamed B.named
  have hlocks := B.notSynchronized
  subst hsz
  have hA : ∀ q : Nat, s.heap.size ≤ q → rg0 s.heap.size q := fun _ h => h
  have hS : va_S (rg0 s.heap.size) s.heap s.heap [] := va_S.rf
  have hl := lv_entry ([.ref h0, .int a1, .int a2]) (n := 6) (Nat.le_of_ble_eq_true rfl)
  rw [lg_entry_eq]
  generalize (lg_sl ([.ref h0, .int a1, .int a2]) ++ List.replicate (6 - (lg_sl ([.ref h0, .int a1, .int a2])).length) Slot.unset).toArray = ls at hl ⊢
  have hl : lv_has ls 6 [(0, .ref h0), (1, .int a1), (2, .int a2)] := hl
  refine lv_aload_n hx hb dX6_line_0 rfl (lv_at hl 0 rfl) ?_
  refine lv_iload_n hx hb dX6_line_1 rfl (lv_at hl 1 rfl) ?_
  refine vx_callv (vx_runV (As := [.int a1]) (rest := []) ⟨hx, hb, hml, hown, hts⟩ (c_X6_needPlayer l hlT D h0 r s.heap.size a1) (cwV 1 hts gX6_line_X6_needPlayer rfl rfl rfl (by decide +kernel) ⟨Nat.le_of_ble_eq_true rfl, Nat.le_of_ble_eq_true rfl⟩) ⟨fun a U g mk q => ⟨q.1, PX6.blind q.2⟩, va_recv hK hP (ci := 12) (q0 := 0) rfl rfl, fun U hU hW => ⟨rfl, PX6.go hP hK hT hS hA hU hW⟩⟩ rfl rfl hl.1 rfl (lv_room (Nat.le_of_ble_eq_true rfl)) dX6_line_2 ⟨Nat.le_of_ble_eq_true rfl, Nat.le_of_ble_eq_true rfl⟩) hS (fun q _ h => h) (fun q h => h) (fun q _ h => h) (fun E ce q9 u t H1 locs1 ht hvm hpx hB hz hk9 hS hcell hv hcl => ?_) (fun u t H1 locs1 ht hvm hw hB hz1 hk1 hS => hw.elim)
  have hE : E = "java/lang/IndexOutOfBoundsException" := hB
  subst hE
  exact vx_out (fun x h => (hne x h).elim) hlocks hcell hv hcl (fun t ht hvm => ⟨(), trivial, rfl, hS.F ht⟩) hS.2.2 (by decide) (by decide)
set_option maxHeartbeats 4000000 in
set_option maxRecDepth 100000 in
theorem c_X6_aside (l : Launch) (hlT : l.stackTraces = false) (D : va_G) (h0 : Nat) (r : Nat → Nat) (sz : Nat) (a1 a2 a3 : Int32) : vx_Met l yX6_aside wsX6_aside ({ frames := 40, cells := 1, slots := 6, locals := 400 }) (va_Pc [.ref h0, .int a1, .int a2, .int a3] (PX6 D h0 r sz)) (va_Qi (fun (_ : Int32) (_ : Unit) => False) (fun _ _ => True) (rg0 sz)) (tX (fun E => E = "java/lang/IndexOutOfBoundsException") (rg0 sz)) 1 6 (rg0 sz) := by
  refine vx_ofW (cc := cX6_aside) (maxL := 5) (ret := (some .int)) (by decide +kernel) rfl ?_
  intro p e s m args below meth c s₁ B hml hne hv
  obtain ⟨rfl, hsz, hP, hK, hT⟩ := hv
  have hx := B.exec
  have hb := B.bytes
  have hr := B.returns
  have hts := atoms_spec (ws := wsX6_aside) B.pre
  have hown : s.vm.findClass RX6 = some m.cls := findClass_of_methodNamed B.named
  have hlocks := B.notSynchronized
  subst hsz
  have hA : ∀ q : Nat, s.heap.size ≤ q → rg0 s.heap.size q := fun _ h => h
  have hS : va_S (rg0 s.heap.size) s.heap s.heap [] := va_S.rf
  have hl := lv_entry ([.ref h0, .int a1, .int a2, .int a3]) (n := 5) (Nat.le_of_ble_eq_true rfl)
  rw [lg_entry_eq]
  generalize (lg_sl ([.ref h0, .int a1, .int a2, .int a3]) ++ List.replicate (5 - (lg_sl ([.ref h0, .int a1, .int a2, .int a3])).length) Slot.unset).toArray = ls at hl ⊢
  have hl : lv_has ls 5 [(0, .ref h0), (1, .int a1), (2, .int a2), (3, .int a3)] := hl
  refine lv_aload_n hx hb dX6_aside_0 rfl (lv_at hl 0 rfl) ?_
  refine lv_iload_n hx hb dX6_aside_1 rfl (lv_at hl 1 rfl) ?_
  refine vx_callv (vx_runV (As := [.int a1]) (rest := []) ⟨hx, hb, hml, hown, hts⟩ (c_X6_needPlayer l hlT D h0 r s.heap.size a1) (cwV 1 hts gX6_aside_X6_needPlayer rfl rfl rfl (by decide +kernel) ⟨Nat.le_of_ble_eq_true rfl, Nat.le_of_ble_eq_true rfl⟩) ⟨fun a U g mk q => ⟨q.1, PX6.blind q.2⟩, va_recv hK hP (ci := 12) (q0 := 0) rfl rfl, fun U hU hW => ⟨rfl, PX6.go hP hK hT hS hA hU hW⟩⟩ rfl rfl hl.1 rfl (lv_room (Nat.le_of_ble_eq_true rfl)) dX6_aside_2 ⟨Nat.le_of_ble_eq_true rfl, Nat.le_of_ble_eq_true rfl⟩) hS (fun q _ h => h) (fun q h => h) (fun q _ h => h) (fun E ce q9 u t H1 locs1 ht hvm hpx hB hz hk9 hS hcell hv hcl => ?_) (fun u t H1 locs1 ht hvm hw hB hz1 hk1 hS => hw.elim)
  have hE : E = "java/lang/IndexOutOfBoundsException" := hB
  subst hE
  exact vx_out (fun x h => (hne x h).elim) hlocks hcell hv hcl (fun t ht hvm => ⟨(), trivial, rfl, hS.F ht⟩) hS.2.2 (by decide) (by decide)
set_option maxHeartbeats 4000000 in
set_option maxRecDepth 100000 in
theorem c_X6_point (l : Launch) (hlT : l.stackTraces = false) (D : va_G) (h0 : Nat) (r : Nat → Nat) (sz : Nat) (a1 a2 : Int32) : vx_Met l yX6_point wsX6_point ({ frames := 40, cells := 1, slots := 6, locals := 400 }) (va_Pc [.ref h0, .int a1, .int a2] (PX6 D h0 r sz)) (va_Qi (fun (_ : Int32) (_ : Unit) => False) (fun _ _ => True) (rg0 sz)) (tX (fun E => E = "java/lang/IndexOutOfBoundsException") (rg0 sz)) 1 6 (rg0 sz) := by
  refine vx_ofW (cc := cX6_point) (maxL := 5) (ret := (some .int)) (by decide +kernel) rfl ?_
  intro p e s m args below meth c s₁ B hml hne hv
  obtain ⟨rfl, hsz, hP, hK, hT⟩ := hv
  have hx := B.exec
  have hb := B.bytes
  have hr := B.returns
  have hts := atoms_spec (ws := wsX6_point) B.pre
  have hown : s.vm.findClass RX6 = some m.cls := findClass_of_methodNamed B.named
  have hlocks := B.notSynchronized
  subst hsz
  have hA : ∀ q : Nat, s.heap.size ≤ q → rg0 s.heap.size q := fun _ h => h
  have hS : va_S (rg0 s.heap.size) s.heap s.heap [] := va_S.rf
  have hl := lv_entry ([.ref h0, .int a1, .int a2]) (n := 5) (Nat.le_of_ble_eq_true rfl)
  rw [lg_entry_eq]
  generalize (lg_sl ([.ref h0, .int a1, .int a2]) ++ List.replicate (5 - (lg_sl ([.ref h0, .int a1, .int a2])).length) Slot.unset).toArray = ls at hl ⊢
  have hl : lv_has ls 5 [(0, .ref h0), (1, .int a1), (2, .int a2)] := hl
  refine lv_aload_n hx hb dX6_point_0 rfl (lv_at hl 0 rfl) ?_
  refine lv_iload_n hx hb dX6_point_1 rfl (lv_at hl 1 rfl) ?_
  refine vx_callv (vx_runV (As := [.int a1]) (rest := []) ⟨hx, hb, hml, hown, hts⟩ (c_X6_needPlayer l hlT D h0 r s.heap.size a1) (cwV 1 hts gX6_point_X6_needPlayer rfl rfl rfl (by decide +kernel) ⟨Nat.le_of_ble_eq_true rfl, Nat.le_of_ble_eq_true rfl⟩) ⟨fun a U g mk q => ⟨q.1, PX6.blind q.2⟩, va_recv hK hP (ci := 12) (q0 := 0) rfl rfl, fun U hU hW => ⟨rfl, PX6.go hP hK hT hS hA hU hW⟩⟩ rfl rfl hl.1 rfl (lv_room (Nat.le_of_ble_eq_true rfl)) dX6_point_2 ⟨Nat.le_of_ble_eq_true rfl, Nat.le_of_ble_eq_true rfl⟩) hS (fun q _ h => h) (fun q h => h) (fun q _ h => h) (fun E ce q9 u t H1 locs1 ht hvm hpx hB hz hk9 hS hcell hv hcl => ?_) (fun u t H1 locs1 ht hvm hw hB hz1 hk1 hS => hw.elim)
  have hE : E = "java/lang/IndexOutOfBoundsException" := hB
  subst hE
  exact vx_out (fun x h => (hne x h).elim) hlocks hcell hv hcl (fun t ht hvm => ⟨(), trivial, rfl, hS.F ht⟩) hS.2.2 (by decide) (by decide)
set_option maxHeartbeats 4000000 in
set_option maxRecDepth 100000 in
theorem c_X6_free (l : Launch) (hlT : l.stackTraces = false) (D : va_G) (h0 : Nat) (r : Nat → Nat) (sz : Nat) (a1 a2 a3 : Int32) : vx_Met l yX6_free wsX6_free ({ frames := 40, cells := 1, slots := 6, locals := 400 }) (va_Pc [.ref h0, .int a1, .int a2, .int a3] (PX6 D h0 r sz)) (va_Qi (fun (_ : Int32) (_ : Unit) => False) (fun _ _ => True) (rg0 sz)) (tX (fun E => E = "java/lang/IndexOutOfBoundsException") (rg0 sz)) 1 6 (rg0 sz) := by
  refine vx_ofW (cc := cX6_free) (maxL := 9) (ret := (some .char)) (by decide +kernel) rfl ?_
  intro p e s m args below meth c s₁ B hml hne hv
  obtain ⟨rfl, hsz, hP, hK, hT⟩ := hv
  have hx := B.exec
  have hb := B.bytes
  have hr := B.returns
  have hts := atoms_spec (ws := wsX6_free) B.pre
  have hown : s.vm.findClass RX6 = some m.cls := findClass_of_methodNamed B.named
  have hlocks := B.notSynchronized
  subst hsz
  have hA : ∀ q : Nat, s.heap.size ≤ q → rg0 s.heap.size q := fun _ h => h
  have hS : va_S (rg0 s.heap.size) s.heap s.heap [] := va_S.rf
  have hl := lv_entry ([.ref h0, .int a1, .int a2, .int a3]) (n := 9) (Nat.le_of_ble_eq_true rfl)
  rw [lg_entry_eq]
  generalize (lg_sl ([.ref h0, .int a1, .int a2, .int a3]) ++ List.replicate (9 - (lg_sl ([.ref h0, .int a1, .int a2, .int a3])).length) Slot.unset).toArray = ls at hl ⊢
  have hl : lv_has ls 9 [(0, .ref h0), (1, .int a1), (2, .int a2), (3, .int a3)] := hl
  refine lv_aload_n hx hb dX6_free_0 rfl (lv_at hl 0 rfl) ?_
  refine lv_iload_n hx hb dX6_free_1 rfl (lv_at hl 1 rfl) ?_
  refine vx_callv (vx_runV (As := [.int a1]) (rest := []) ⟨hx, hb, hml, hown, hts⟩ (c_X6_needPlayer l hlT D h0 r s.heap.size a1) (cwV 1 hts gX6_free_X6_needPlayer rfl rfl rfl (by decide +kernel) ⟨Nat.le_of_ble_eq_true rfl, Nat.le_of_ble_eq_true rfl⟩) ⟨fun a U g mk q => ⟨q.1, PX6.blind q.2⟩, va_recv hK hP (ci := 12) (q0 := 0) rfl rfl, fun U hU hW => ⟨rfl, PX6.go hP hK hT hS hA hU hW⟩⟩ rfl rfl hl.1 rfl (lv_room (Nat.le_of_ble_eq_true rfl)) dX6_free_2 ⟨Nat.le_of_ble_eq_true rfl, Nat.le_of_ble_eq_true rfl⟩) hS (fun q _ h => h) (fun q h => h) (fun q _ h => h) (fun E ce q9 u t H1 locs1 ht hvm hpx hB hz hk9 hS hcell hv hcl => ?_) (fun u t H1 locs1 ht hvm hw hB hz1 hk1 hS => hw.elim)
  have hE : E = "java/lang/IndexOutOfBoundsException" := hB
  subst hE
  exact vx_out (fun x h => (hne x h).elim) hlocks hcell hv hcl (fun t ht hvm => ⟨(), trivial, rfl, hS.F ht⟩) hS.2.2 (by decide) (by decide)
set_option maxHeartbeats 4000000 in
set_option maxRecDepth 100000 in
theorem c_X6_wrongPlace (l : Launch) (hlT : l.stackTraces = false) (D : va_G) (h0 : Nat) (r : Nat → Nat) (sz : Nat) (a1 a2 a3 : Int32) : vx_Met l yX6_wrongPlace wsX6_wrongPlace ({ frames := 40, cells := 1, slots := 6, locals := 400 }) (va_Pc [.ref h0, .int a1, .int a2, .int a3] (PX6 D h0 r sz)) (va_Qi (fun (_ : Int32) (_ : Unit) => False) (fun _ _ => True) (rg0 sz)) (tX (fun E => E = "java/lang/IndexOutOfBoundsException") (rg0 sz)) 1 6 (rg0 sz) := by
  refine vx_ofW (cc := cX6_wrongPlace) (maxL := 7) (ret := (some .boolean)) (by decide +kernel) rfl ?_
  intro p e s m args below meth c s₁ B hml hne hv
  obtain ⟨rfl, hsz, hP, hK, hT⟩ := hv
  have hx := B.exec
  have hb := B.bytes
  have hr := B.returns
  have hts := atoms_spec (ws := wsX6_wrongPlace) B.pre
  have hown : s.vm.findClass RX6 = some m.cls := findClass_of_methodNamed B.named
  have hlocks := B.notSynchronized
  subst hsz
  have hA : ∀ q : Nat, s.heap.size ≤ q → rg0 s.heap.size q := fun _ h => h
  have hS : va_S (rg0 s.heap.size) s.heap s.heap [] := va_S.rf
  have hl := lv_entry ([.ref h0, .int a1, .int a2, .int a3]) (n := 7) (Nat.le_of_ble_eq_true rfl)
  rw [lg_entry_eq]
  generalize (lg_sl ([.ref h0, .int a1, .int a2, .int a3]) ++ List.replicate (7 - (lg_sl ([.ref h0, .int a1, .int a2, .int a3])).length) Slot.unset).toArray = ls at hl ⊢
  have hl : lv_has ls 7 [(0, .ref h0), (1, .int a1), (2, .int a2), (3, .int a3)] := hl
  refine lv_aload_n hx hb dX6_wrongPlace_0 rfl (lv_at hl 0 rfl) ?_
  refine lv_iload_n hx hb dX6_wrongPlace_1 rfl (lv_at hl 1 rfl) ?_
  refine vx_callv (vx_runV (As := [.int a1]) (rest := []) ⟨hx, hb, hml, hown, hts⟩ (c_X6_needPlayer l hlT D h0 r s.heap.size a1) (cwV 1 hts gX6_wrongPlace_X6_needPlayer rfl rfl rfl (by decide +kernel) ⟨Nat.le_of_ble_eq_true rfl, Nat.le_of_ble_eq_true rfl⟩) ⟨fun a U g mk q => ⟨q.1, PX6.blind q.2⟩, va_recv hK hP (ci := 12) (q0 := 0) rfl rfl, fun U hU hW => ⟨rfl, PX6.go hP hK hT hS hA hU hW⟩⟩ rfl rfl hl.1 rfl (lv_room (Nat.le_of_ble_eq_true rfl)) dX6_wrongPlace_2 ⟨Nat.le_of_ble_eq_true rfl, Nat.le_of_ble_eq_true rfl⟩) hS (fun q _ h => h) (fun q h => h) (fun q _ h => h) (fun E ce q9 u t H1 locs1 ht hvm hpx hB hz hk9 hS hcell hv hcl => ?_) (fun u t H1 locs1 ht hvm hw hB hz1 hk1 hS => hw.elim)
  have hE : E = "java/lang/IndexOutOfBoundsException" := hB
  subst hE
  exact vx_out (fun x h => (hne x h).elim) hlocks hcell hv hcl (fun t ht hvm => ⟨(), trivial, rfl, hS.F ht⟩) hS.2.2 (by decide) (by decide)
set_option maxHeartbeats 4000000 in
set_option maxRecDepth 100000 in
theorem c_X6_correct (l : Launch) (hlT : l.stackTraces = false) (D : va_G) (h0 : Nat) (r : Nat → Nat) (sz : Nat) (a1 : Int32) : vx_Met l yX6_correct wsX6_correct ({ frames := 40, cells := 1, slots := 6, locals := 400 }) (va_Pc [.ref h0, .int a1] (PX6 D h0 r sz)) (va_Qi (fun (_ : Int32) (_ : Unit) => False) (fun _ _ => True) (rg0 sz)) (tX (fun E => E = "java/lang/IndexOutOfBoundsException") (rg0 sz)) 1 6 (rg0 sz) := by
  refine vx_ofW (cc := cX6_correct) (maxL := 3) (ret := (some .int)) (by decide +kernel) rfl ?_
  intro p e s m args below meth c s₁ B hml hne hv
  obtain ⟨rfl, hsz, hP, hK, hT⟩ := hv
  have hx := B.exec
  have hb := B.bytes
  have hr := B.returns
  have hts := atoms_spec (ws := wsX6_correct) B.pre
  have hown : s.vm.findClass RX6 = some m.cls := findClass_of_methodNamed B.named
  have hlocks := B.notSynchronized
  subst hsz
  have hA : ∀ q : Nat, s.heap.size ≤ q → rg0 s.heap.size q := fun _ h => h
  have hS : va_S (rg0 s.heap.size) s.heap s.heap [] := va_S.rf
  have hl := lv_entry ([.ref h0, .int a1]) (n := 3) (Nat.le_of_ble_eq_true rfl)
  rw [lg_entry_eq]
  generalize (lg_sl ([.ref h0, .int a1]) ++ List.replicate (3 - (lg_sl ([.ref h0, .int a1])).length) Slot.unset).toArray = ls at hl ⊢
  have hl : lv_has ls 3 [(0, .ref h0), (1, .int a1)] := hl
  refine lv_aload_n hx hb dX6_correct_0 rfl (lv_at hl 0 rfl) ?_
  refine lv_iload_n hx hb dX6_correct_1 rfl (lv_at hl 1 rfl) ?_
  refine vx_callv (vx_runV (As := [.int a1]) (rest := []) ⟨hx, hb, hml, hown, hts⟩ (c_X6_needPlayer l hlT D h0 r s.heap.size a1) (cwV 1 hts gX6_correct_X6_needPlayer rfl rfl rfl (by decide +kernel) ⟨Nat.le_of_ble_eq_true rfl, Nat.le_of_ble_eq_true rfl⟩) ⟨fun a U g mk q => ⟨q.1, PX6.blind q.2⟩, va_recv hK hP (ci := 12) (q0 := 0) rfl rfl, fun U hU hW => ⟨rfl, PX6.go hP hK hT hS hA hU hW⟩⟩ rfl rfl hl.1 rfl (lv_room (Nat.le_of_ble_eq_true rfl)) dX6_correct_2 ⟨Nat.le_of_ble_eq_true rfl, Nat.le_of_ble_eq_true rfl⟩) hS (fun q _ h => h) (fun q h => h) (fun q _ h => h) (fun E ce q9 u t H1 locs1 ht hvm hpx hB hz hk9 hS hcell hv hcl => ?_) (fun u t H1 locs1 ht hvm hw hB hz1 hk1 hS => hw.elim)
  have hE : E = "java/lang/IndexOutOfBoundsException" := hB
  subst hE
  exact vx_out (fun x h => (hne x h).elim) hlocks hcell hv hcl (fun t ht hvm => ⟨(), trivial, rfl, hS.F ht⟩) hS.2.2 (by decide) (by decide)
set_option maxHeartbeats 4000000 in
set_option maxRecDepth 100000 in
theorem c_X6_move (l : Launch) (hlT : l.stackTraces = false) (D : va_G) (h0 : Nat) (r : Nat → Nat) (sz : Nat) (a1 a2 a3 a4 : Int32) : vx_Met l yX6_move wsX6_move ({ frames := 40, cells := 1, slots := 6, locals := 400 }) (va_Pc [.ref h0, .int a1, .int a2, .int a3, .int a4] (PX6 D h0 r sz)) (va_Qi (fun (_ : Int32) (_ : Unit) => False) (fun _ _ => True) (rg0 sz)) (tX (fun E => E = "java/lang/IndexOutOfBoundsException") (rg0 sz)) 1 6 (rg0 sz) := by
  refine vx_ofW (cc := cX6_move) (maxL := 8) (ret := (some .int)) (by decide +kernel) rfl ?_
  intro p e s m args below meth c s₁ B hml hne hv
  obtain ⟨rfl, hsz, hP, hK, hT⟩ := hv
  have hx := B.exec
  have hb := B.bytes
  have hr := B.returns
  have hts := atoms_spec (ws := wsX6_move) B.pre
  have hown : s.vm.findClass RX6 = some m.cls := findClass_of_methodNamed B.named
  have hlocks := B.notSynchronized
  subst hsz
  have hA : ∀ q : Nat, s.heap.size ≤ q → rg0 s.heap.size q := fun _ h => h
  have hS : va_S (rg0 s.heap.size) s.heap s.heap [] := va_S.rf
  have hl := lv_entry ([.ref h0, .int a1, .int a2, .int a3, .int a4]) (n := 8) (Nat.le_of_ble_eq_true rfl)
  rw [lg_entry_eq]
  generalize (lg_sl ([.ref h0, .int a1, .int a2, .int a3, .int a4]) ++ List.replicate (8 - (lg_sl ([.ref h0, .int a1, .int a2, .int a3, .int a4])).length) Slot.unset).toArray = ls at hl ⊢
  have hl : lv_has ls 8 [(0, .ref h0), (1, .int a1), (2, .int a2), (3, .int a3), (4, .int a4)] := hl
  refine lv_aload_n hx hb dX6_move_0 rfl (lv_at hl 0 rfl) ?_
  refine lv_iload_n hx hb dX6_move_1 rfl (lv_at hl 1 rfl) ?_
  refine vx_callv (vx_runV (As := [.int a1]) (rest := []) ⟨hx, hb, hml, hown, hts⟩ (c_X6_needPlayer l hlT D h0 r s.heap.size a1) (cwV 1 hts gX6_move_X6_needPlayer rfl rfl rfl (by decide +kernel) ⟨Nat.le_of_ble_eq_true rfl, Nat.le_of_ble_eq_true rfl⟩) ⟨fun a U g mk q => ⟨q.1, PX6.blind q.2⟩, va_recv hK hP (ci := 12) (q0 := 0) rfl rfl, fun U hU hW => ⟨rfl, PX6.go hP hK hT hS hA hU hW⟩⟩ rfl rfl hl.1 rfl (lv_room (Nat.le_of_ble_eq_true rfl)) dX6_move_2 ⟨Nat.le_of_ble_eq_true rfl, Nat.le_of_ble_eq_true rfl⟩) hS (fun q _ h => h) (fun q h => h) (fun q _ h => h) (fun E ce q9 u t H1 locs1 ht hvm hpx hB hz hk9 hS hcell hv hcl => ?_) (fun u t H1 locs1 ht hvm hw hB hz1 hk1 hS => hw.elim)
  have hE : E = "java/lang/IndexOutOfBoundsException" := hB
  subst hE
  exact vx_out (fun x h => (hne x h).elim) hlocks hcell hv hcl (fun t ht hvm => ⟨(), trivial, rfl, hS.F ht⟩) hS.2.2 (by decide) (by decide)
set_option maxHeartbeats 4000000 in
set_option maxRecDepth 100000 in
theorem c_X6_wrongBall (l : Launch) (hlT : l.stackTraces = false) (D : va_G) (h0 : Nat) (r : Nat → Nat) (sz : Nat) (a1 a2 : Int32) : vx_Met l yX6_wrongBall wsX6_wrongBall ({ frames := 40, cells := 1, slots := 6, locals := 400 }) (va_Pc [.ref h0, .int a1, .int a2] (PX6 D h0 r sz)) (va_Qi (fun (_ : Int32) (_ : Unit) => False) (fun _ _ => True) (rg0 sz)) (tX (fun E => E = "java/lang/IndexOutOfBoundsException") (rg0 sz)) 1 6 (rg0 sz) := by
  refine vx_ofW (cc := cX6_wrongBall) (maxL := 4) (ret := (some .int)) (by decide +kernel) rfl ?_
  intro p e s m args below meth c s₁ B hml hne hv
  obtain ⟨rfl, hsz, hP, hK, hT⟩ := hv
  have hx := B.exec
  have hb := B.bytes
  have hr := B.returns
  have hts := atoms_spec (ws := wsX6_wrongBall) B.pre
  have hown : s.vm.findClass RX6 = some m.cls := findClass_of_methodNamed B.named
  have hlocks := B.notSynchronized
  subst hsz
  have hA : ∀ q : Nat, s.heap.size ≤ q → rg0 s.heap.size q := fun _ h => h
  have hS : va_S (rg0 s.heap.size) s.heap s.heap [] := va_S.rf
  have hl := lv_entry ([.ref h0, .int a1, .int a2]) (n := 4) (Nat.le_of_ble_eq_true rfl)
  rw [lg_entry_eq]
  generalize (lg_sl ([.ref h0, .int a1, .int a2]) ++ List.replicate (4 - (lg_sl ([.ref h0, .int a1, .int a2])).length) Slot.unset).toArray = ls at hl ⊢
  have hl : lv_has ls 4 [(0, .ref h0), (1, .int a1), (2, .int a2)] := hl
  refine lv_aload_n hx hb dX6_wrongBall_0 rfl (lv_at hl 0 rfl) ?_
  refine lv_iload_n hx hb dX6_wrongBall_1 rfl (lv_at hl 1 rfl) ?_
  refine vx_callv (vx_runV (As := [.int a1]) (rest := []) ⟨hx, hb, hml, hown, hts⟩ (c_X6_needPlayer l hlT D h0 r s.heap.size a1) (cwV 1 hts gX6_wrongBall_X6_needPlayer rfl rfl rfl (by decide +kernel) ⟨Nat.le_of_ble_eq_true rfl, Nat.le_of_ble_eq_true rfl⟩) ⟨fun a U g mk q => ⟨q.1, PX6.blind q.2⟩, va_recv hK hP (ci := 12) (q0 := 0) rfl rfl, fun U hU hW => ⟨rfl, PX6.go hP hK hT hS hA hU hW⟩⟩ rfl rfl hl.1 rfl (lv_room (Nat.le_of_ble_eq_true rfl)) dX6_wrongBall_2 ⟨Nat.le_of_ble_eq_true rfl, Nat.le_of_ble_eq_true rfl⟩) hS (fun q _ h => h) (fun q h => h) (fun q _ h => h) (fun E ce q9 u t H1 locs1 ht hvm hpx hB hz hk9 hS hcell hv hcl => ?_) (fun u t H1 locs1 ht hvm hw hB hz1 hk1 hS => hw.elim)
  have hE : E = "java/lang/IndexOutOfBoundsException" := hB
  subst hE
  exact vx_out (fun x h => (hne x h).elim) hlocks hcell hv hcl (fun t ht hvm => ⟨(), trivial, rfl, hS.F ht⟩) hS.2.2 (by decide) (by decide)
set_option maxHeartbeats 4000000 in
set_option maxRecDepth 100000 in
theorem c_X6_pickUp (l : Launch) (hlT : l.stackTraces = false) (D : va_G) (h0 : Nat) (r : Nat → Nat) (sz : Nat) (a1 : Int32) : vx_Met l yX6_pickUp wsX6_pickUp ({ frames := 40, cells := 1, slots := 6, locals := 400 }) (va_Pc [.ref h0, .int a1] (PX6 D h0 r sz)) (va_Qi (fun (_ : Int32) (_ : Unit) => False) (fun _ _ => True) (rg0 sz)) (tX (fun E => E = "java/lang/IndexOutOfBoundsException") (rg0 sz)) 1 6 (rg0 sz) := by
  refine vx_ofW (cc := cX6_pickUp) (maxL := 3) (ret := (some .int)) (by decide +kernel) rfl ?_
  intro p e s m args below meth c s₁ B hml hne hv
  obtain ⟨rfl, hsz, hP, hK, hT⟩ := hv
  have hx := B.exec
  have hb := B.bytes
  have hr := B.returns
  have hts := atoms_spec (ws := wsX6_pickUp) B.pre
  have hown : s.vm.findClass RX6 = some m.cls := findClass_of_methodNamed B.named
  have hlocks := B.notSynchronized
  subst hsz
  have hA : ∀ q : Nat, s.heap.size ≤ q → rg0 s.heap.size q := fun _ h => h
  have hS : va_S (rg0 s.heap.size) s.heap s.heap [] := va_S.rf
  have hl := lv_entry ([.ref h0, .int a1]) (n := 3) (Nat.le_of_ble_eq_true rfl)
  rw [lg_entry_eq]
  generalize (lg_sl ([.ref h0, .int a1]) ++ List.replicate (3 - (lg_sl ([.ref h0, .int a1])).length) Slot.unset).toArray = ls at hl ⊢
  have hl : lv_has ls 3 [(0, .ref h0), (1, .int a1)] := hl
  refine lv_aload_n hx hb dX6_pickUp_0 rfl (lv_at hl 0 rfl) ?_
  refine lv_iload_n hx hb dX6_pickUp_1 rfl (lv_at hl 1 rfl) ?_
  refine vx_callv (vx_runV (As := [.int a1]) (rest := []) ⟨hx, hb, hml, hown, hts⟩ (c_X6_needPlayer l hlT D h0 r s.heap.size a1) (cwV 1 hts gX6_pickUp_X6_needPlayer rfl rfl rfl (by decide +kernel) ⟨Nat.le_of_ble_eq_true rfl, Nat.le_of_ble_eq_true rfl⟩) ⟨fun a U g mk q => ⟨q.1, PX6.blind q.2⟩, va_recv hK hP (ci := 12) (q0 := 0) rfl rfl, fun U hU hW => ⟨rfl, PX6.go hP hK hT hS hA hU hW⟩⟩ rfl rfl hl.1 rfl (lv_room (Nat.le_of_ble_eq_true rfl)) dX6_pickUp_2 ⟨Nat.le_of_ble_eq_true rfl, Nat.le_of_ble_eq_true rfl⟩) hS (fun q _ h => h) (fun q h => h) (fun q _ h => h) (fun E ce q9 u t H1 locs1 ht hvm hpx hB hz hk9 hS hcell hv hcl => ?_) (fun u t H1 locs1 ht hvm hw hB hz1 hk1 hS => hw.elim)
  have hE : E = "java/lang/IndexOutOfBoundsException" := hB
  subst hE
  exact vx_out (fun x h => (hne x h).elim) hlocks hcell hv hcl (fun t ht hvm => ⟨(), trivial, rfl, hS.F ht⟩) hS.2.2 (by decide) (by decide)
set_option maxHeartbeats 4000000 in
set_option maxRecDepth 100000 in
theorem c_X6_suspend (l : Launch) (hlT : l.stackTraces = false) (D : va_G) (h0 : Nat) (r : Nat → Nat) (sz : Nat) (a1 : Int32) : vx_Met l yX6_suspend wsX6_suspend ({ frames := 40, cells := 1, slots := 6, locals := 400 }) (va_Pc [.ref h0, .int a1] (PX6 D h0 r sz)) (va_Qi (fun (_ : Int32) (_ : Unit) => False) (fun _ _ => True) (rg0 sz)) (tX (fun E => E = "java/lang/IllegalStateException") (rg0 sz)) 1 6 (rg0 sz) := by
  refine vx_ofW (cc := cX6_suspend) (maxL := 3) (ret := (some .boolean)) (by decide +kernel) rfl ?_
  intro p e s m args below meth c s₁ B hml hne hv
  obtain ⟨rfl, hsz, hP, hK, hT⟩ := hv
  have hx := B.exec
  have hb := B.bytes
  have hr := B.returns
  have hts := atoms_spec (ws := wsX6_suspend) B.pre
  have hown : s.vm.findClass RX6 = some m.cls := findClass_of_methodNamed B.named
  have hlocks := B.notSynchronized
  subst hsz
  have hA : ∀ q : Nat, s.heap.size ≤ q → rg0 s.heap.size q := fun _ h => h
  have hS : va_S (rg0 s.heap.size) s.heap s.heap [] := va_S.rf
  have hl := lv_entry ([.ref h0, .int a1]) (n := 3) (Nat.le_of_ble_eq_true rfl)
  rw [lg_entry_eq]
  generalize (lg_sl ([.ref h0, .int a1]) ++ List.replicate (3 - (lg_sl ([.ref h0, .int a1])).length) Slot.unset).toArray = ls at hl ⊢
  have hl : lv_has ls 3 [(0, .ref h0), (1, .int a1)] := hl
  refine lv_aload_n hx hb dX6_suspend_0 rfl (lv_at hl 0 rfl) ?_
  refine vx_callv (vx_runV (As := []) (rest := []) ⟨hx, hb, hml, hown, hts⟩ (c_X6_needRound l hlT D h0 r s.heap.size) (cwV 0 hts gX6_suspend_X6_needRound rfl rfl rfl (by decide +kernel) ⟨Nat.le_of_ble_eq_true rfl, Nat.le_of_ble_eq_true rfl⟩) ⟨fun a U g mk q => ⟨q.1, PX6.blind q.2⟩, va_recv hK hP (ci := 12) (q0 := 0) rfl rfl, fun U hU hW => ⟨rfl, PX6.go hP hK hT hS hA hU hW⟩⟩ rfl rfl hl.1 rfl (lv_room (Nat.le_of_ble_eq_true rfl)) dX6_suspend_1 ⟨Nat.le_of_ble_eq_true rfl, Nat.le_of_ble_eq_true rfl⟩) hS (fun q _ h => h) (fun q h => h) (fun q _ h => h) (fun E ce q9 u t H1 locs1 ht hvm hpx hB hz hk9 hS hcell hv hcl => ?_) (fun u t H1 locs1 ht hvm hw hB hz1 hk1 hS => hw.elim)
  have hE : E = "java/lang/IllegalStateException" := hB
  subst hE
  exact vx_out (fun x h => (hne x h).elim) hlocks hcell hv hcl (fun t ht hvm => ⟨(), trivial, rfl, hS.F ht⟩) hS.2.2 (by decide) (by decide)
set_option maxHeartbeats 4000000 in
set_option maxRecDepth 100000 in
theorem c_X6_cancel (l : Launch) (hlT : l.stackTraces = false) (D : va_G) (h0 : Nat) (r : Nat → Nat) (sz : Nat) (a1 : Int32) : vx_Met l yX6_cancel wsX6_cancel ({ frames := 40, cells := 1, slots := 6, locals := 400 }) (va_Pc [.ref h0, .int a1] (PX6 D h0 r sz)) (va_Qi (fun (_ : Int32) (_ : Unit) => False) (fun _ _ => True) (rg0 sz)) (tX (fun E => E = "java/lang/IndexOutOfBoundsException") (rg0 sz)) 1 6 (rg0 sz) := by
  refine vx_ofW (cc := cX6_cancel) (maxL := 2) (ret := (some .boolean)) (by decide +kernel) rfl ?_
  intro p e s m args below meth c s₁ B hml hne hv
  obtain ⟨rfl, hsz, hP, hK, hT⟩ := hv
  have hx := B.exec
  have hb := B.bytes
  have hr := B.returns
  have hts := atoms_spec (ws := wsX6_cancel) B.pre
  have hown : s.vm.findClass RX6 = some m.cls := findClass_of_methodNamed B.named
  have hlocks := B.notSynchronized
  subst hsz
  have hA : ∀ q : Nat, s.heap.size ≤ q → rg0 s.heap.size q := fun _ h => h
  have hS : va_S (rg0 s.heap.size) s.heap s.heap [] := va_S.rf
  have hl := lv_entry ([.ref h0, .int a1]) (n := 2) (Nat.le_of_ble_eq_true rfl)
  rw [lg_entry_eq]
  generalize (lg_sl ([.ref h0, .int a1]) ++ List.replicate (2 - (lg_sl ([.ref h0, .int a1])).length) Slot.unset).toArray = ls at hl ⊢
  have hl : lv_has ls 2 [(0, .ref h0), (1, .int a1)] := hl
  refine lv_aload_n hx hb dX6_cancel_0 rfl (lv_at hl 0 rfl) ?_
  refine lv_iload_n hx hb dX6_cancel_1 rfl (lv_at hl 1 rfl) ?_
  refine vx_callv (vx_runV (As := [.int a1]) (rest := []) ⟨hx, hb, hml, hown, hts⟩ (c_X6_needPlayer l hlT D h0 r s.heap.size a1) (cwV 1 hts gX6_cancel_X6_needPlayer rfl rfl rfl (by decide +kernel) ⟨Nat.le_of_ble_eq_true rfl, Nat.le_of_ble_eq_true rfl⟩) ⟨fun a U g mk q => ⟨q.1, PX6.blind q.2⟩, va_recv hK hP (ci := 12) (q0 := 0) rfl rfl, fun U hU hW => ⟨rfl, PX6.go hP hK hT hS hA hU hW⟩⟩ rfl rfl hl.1 rfl (lv_room (Nat.le_of_ble_eq_true rfl)) dX6_cancel_2 ⟨Nat.le_of_ble_eq_true rfl, Nat.le_of_ble_eq_true rfl⟩) hS (fun q _ h => h) (fun q h => h) (fun q _ h => h) (fun E ce q9 u t H1 locs1 ht hvm hpx hB hz hk9 hS hcell hv hcl => ?_) (fun u t H1 locs1 ht hvm hw hB hz1 hk1 hS => hw.elim)
  have hE : E = "java/lang/IndexOutOfBoundsException" := hB
  subst hE
  exact vx_out (fun x h => (hne x h).elim) hlocks hcell hv hcl (fun t ht hvm => ⟨(), trivial, rfl, hS.F ht⟩) hS.2.2 (by decide) (by decide)
set_option maxHeartbeats 4000000 in
set_option maxRecDepth 100000 in
theorem c_X6_concede (l : Launch) (hlT : l.stackTraces = false) (D : va_G) (h0 : Nat) (r : Nat → Nat) (sz : Nat) (a1 a2 : Int32) : vx_Met l yX6_concede wsX6_concede ({ frames := 40, cells := 1, slots := 6, locals := 400 }) (va_Pc [.ref h0, .int a1, .int a2] (PX6 D h0 r sz)) (va_Qi (fun (_ : Int32) (_ : Unit) => False) (fun _ _ => True) (rg0 sz)) (tX (fun E => E = "java/lang/IndexOutOfBoundsException") (rg0 sz)) 1 6 (rg0 sz) := by
  refine vx_ofW (cc := cX6_concede) (maxL := 3) (ret := (some .int)) (by decide +kernel) rfl ?_
  intro p e s m args below meth c s₁ B hml hne hv
  obtain ⟨rfl, hsz, hP, hK, hT⟩ := hv
  have hx := B.exec
  have hb := B.bytes
  have hr := B.returns
  have hts := atoms_spec (ws := wsX6_concede) B.pre
  have hown : s.vm.findClass RX6 = some m.cls := findClass_of_methodNamed B.named
  have hlocks := B.notSynchronized
  subst hsz
  have hA : ∀ q : Nat, s.heap.size ≤ q → rg0 s.heap.size q := fun _ h => h
  have hS : va_S (rg0 s.heap.size) s.heap s.heap [] := va_S.rf
  have hl := lv_entry ([.ref h0, .int a1, .int a2]) (n := 3) (Nat.le_of_ble_eq_true rfl)
  rw [lg_entry_eq]
  generalize (lg_sl ([.ref h0, .int a1, .int a2]) ++ List.replicate (3 - (lg_sl ([.ref h0, .int a1, .int a2])).length) Slot.unset).toArray = ls at hl ⊢
  have hl : lv_has ls 3 [(0, .ref h0), (1, .int a1), (2, .int a2)] := hl
  refine lv_aload_n hx hb dX6_concede_0 rfl (lv_at hl 0 rfl) ?_
  refine lv_iload_n hx hb dX6_concede_1 rfl (lv_at hl 1 rfl) ?_
  refine vx_callv (vx_runV (As := [.int a1]) (rest := []) ⟨hx, hb, hml, hown, hts⟩ (c_X6_needPlayer l hlT D h0 r s.heap.size a1) (cwV 1 hts gX6_concede_X6_needPlayer rfl rfl rfl (by decide +kernel) ⟨Nat.le_of_ble_eq_true rfl, Nat.le_of_ble_eq_true rfl⟩) ⟨fun a U g mk q => ⟨q.1, PX6.blind q.2⟩, va_recv hK hP (ci := 12) (q0 := 0) rfl rfl, fun U hU hW => ⟨rfl, PX6.go hP hK hT hS hA hU hW⟩⟩ rfl rfl hl.1 rfl (lv_room (Nat.le_of_ble_eq_true rfl)) dX6_concede_2 ⟨Nat.le_of_ble_eq_true rfl, Nat.le_of_ble_eq_true rfl⟩) hS (fun q _ h => h) (fun q h => h) (fun q _ h => h) (fun E ce q9 u t H1 locs1 ht hvm hpx hB hz hk9 hS hcell hv hcl => ?_) (fun u t H1 locs1 ht hvm hw hB hz1 hk1 hS => hw.elim)
  have hE : E = "java/lang/IndexOutOfBoundsException" := hB
  subst hE
  exact vx_out (fun x h => (hne x h).elim) hlocks hcell hv hcl (fun t ht hvm => ⟨(), trivial, rfl, hS.F ht⟩) hS.2.2 (by decide) (by decide)
set_option maxHeartbeats 4000000 in
set_option maxRecDepth 100000 in
theorem c_X6_nextHole (l : Launch) (hlT : l.stackTraces = false) (D : va_G) (h0 : Nat) (r : Nat → Nat) (sz : Nat) : vx_Met l yX6_nextHole wsX6_nextHole ({ frames := 40, cells := 1, slots := 6, locals := 400 }) (va_Pc [.ref h0] (PX6 D h0 r sz)) (va_Qi (fun (_ : Int32) (_ : Unit) => False) (fun _ _ => True) (rg0 sz)) (tX (fun E => E = "java/lang/IllegalStateException") (rg0 sz)) 1 6 (rg0 sz) := by
  refine vx_ofW (cc := cX6_nextHole) (maxL := 2) (ret := (some .int)) (by decide +kernel) rfl ?_
  intro p e s m args below meth c s₁ B hml hne hv
  obtain ⟨rfl, hsz, hP, hK, hT⟩ := hv
  have hx := B.exec
  have hb := B.bytes
  have hr := B.returns
  have hts := atoms_spec (ws := wsX6_nextHole) B.pre
  have hown : s.vm.findClass RX6 = some m.cls := findClass_of_methodNamed B.named
  have hlocks := B.notSynchronized
  subst hsz
  have hA : ∀ q : Nat, s.heap.size ≤ q → rg0 s.heap.size q := fun _ h => h
  have hS : va_S (rg0 s.heap.size) s.heap s.heap [] := va_S.rf
  have hl := lv_entry ([.ref h0]) (n := 2) (Nat.le_of_ble_eq_true rfl)
  rw [lg_entry_eq]
  generalize (lg_sl ([.ref h0]) ++ List.replicate (2 - (lg_sl ([.ref h0])).length) Slot.unset).toArray = ls at hl ⊢
  have hl : lv_has ls 2 [(0, .ref h0)] := hl
  refine lv_aload_n hx hb dX6_nextHole_0 rfl (lv_at hl 0 rfl) ?_
  refine vx_callv (vx_runV (As := []) (rest := []) ⟨hx, hb, hml, hown, hts⟩ (c_X6_needRound l hlT D h0 r s.heap.size) (cwV 0 hts gX6_nextHole_X6_needRound rfl rfl rfl (by decide +kernel) ⟨Nat.le_of_ble_eq_true rfl, Nat.le_of_ble_eq_true rfl⟩) ⟨fun a U g mk q => ⟨q.1, PX6.blind q.2⟩, va_recv hK hP (ci := 12) (q0 := 0) rfl rfl, fun U hU hW => ⟨rfl, PX6.go hP hK hT hS hA hU hW⟩⟩ rfl rfl hl.1 rfl (lv_room (Nat.le_of_ble_eq_true rfl)) dX6_nextHole_1 ⟨Nat.le_of_ble_eq_true rfl, Nat.le_of_ble_eq_true rfl⟩) hS (fun q _ h => h) (fun q h => h) (fun q _ h => h) (fun E ce q9 u t H1 locs1 ht hvm hpx hB hz hk9 hS hcell hv hcl => ?_) (fun u t H1 locs1 ht hvm hw hB hz1 hk1 hS => hw.elim)
  have hE : E = "java/lang/IllegalStateException" := hB
  subst hE
  exact vx_out (fun x h => (hne x h).elim) hlocks hcell hv hcl (fun t ht hvm => ⟨(), trivial, rfl, hS.F ht⟩) hS.2.2 (by decide) (by decide)
set_option maxHeartbeats 4000000 in
set_option maxRecDepth 100000 in
theorem c_X6_state (l : Launch) (hlT : l.stackTraces = false) (D : va_G) (h0 : Nat) (r : Nat → Nat) (sz : Nat) (a1 : Int32) : vx_Met l yX6_state wsX6_state ({ frames := 40, cells := 1, slots := 6, locals := 400 }) (va_Pc [.ref h0, .int a1] (PX6 D h0 r sz)) (va_Qi (fun (_ : Int32) (_ : Unit) => False) (fun _ _ => True) (rg0 sz)) (tX (fun E => E = "java/lang/IndexOutOfBoundsException") (rg0 sz)) 1 6 (rg0 sz) := by
  refine vx_ofW (cc := cX6_state) (maxL := 2) (ret := (some .char)) (by decide +kernel) rfl ?_
  intro p e s m args below meth c s₁ B hml hne hv
  obtain ⟨rfl, hsz, hP, hK, hT⟩ := hv
  have hx := B.exec
  have hb := B.bytes
  have hr := B.returns
  have hts := atoms_spec (ws := wsX6_state) B.pre
  have hown : s.vm.findClass RX6 = some m.cls := findClass_of_methodNamed B.named
  have hlocks := B.notSynchronized
  subst hsz
  have hA : ∀ q : Nat, s.heap.size ≤ q → rg0 s.heap.size q := fun _ h => h
  have hS : va_S (rg0 s.heap.size) s.heap s.heap [] := va_S.rf
  have hl := lv_entry ([.ref h0, .int a1]) (n := 2) (Nat.le_of_ble_eq_true rfl)
  rw [lg_entry_eq]
  generalize (lg_sl ([.ref h0, .int a1]) ++ List.replicate (2 - (lg_sl ([.ref h0, .int a1])).length) Slot.unset).toArray = ls at hl ⊢
  have hl : lv_has ls 2 [(0, .ref h0), (1, .int a1)] := hl
  refine lv_aload_n hx hb dX6_state_0 rfl (lv_at hl 0 rfl) ?_
  refine lv_iload_n hx hb dX6_state_1 rfl (lv_at hl 1 rfl) ?_
  refine vx_callv (vx_runV (As := [.int a1]) (rest := []) ⟨hx, hb, hml, hown, hts⟩ (c_X6_needPlayer l hlT D h0 r s.heap.size a1) (cwV 1 hts gX6_state_X6_needPlayer rfl rfl rfl (by decide +kernel) ⟨Nat.le_of_ble_eq_true rfl, Nat.le_of_ble_eq_true rfl⟩) ⟨fun a U g mk q => ⟨q.1, PX6.blind q.2⟩, va_recv hK hP (ci := 12) (q0 := 0) rfl rfl, fun U hU hW => ⟨rfl, PX6.go hP hK hT hS hA hU hW⟩⟩ rfl rfl hl.1 rfl (lv_room (Nat.le_of_ble_eq_true rfl)) dX6_state_2 ⟨Nat.le_of_ble_eq_true rfl, Nat.le_of_ble_eq_true rfl⟩) hS (fun q _ h => h) (fun q h => h) (fun q _ h => h) (fun E ce q9 u t H1 locs1 ht hvm hpx hB hz hk9 hS hcell hv hcl => ?_) (fun u t H1 locs1 ht hvm hw hB hz1 hk1 hS => hw.elim)
  have hE : E = "java/lang/IndexOutOfBoundsException" := hB
  subst hE
  exact vx_out (fun x h => (hne x h).elim) hlocks hcell hv hcl (fun t ht hvm => ⟨(), trivial, rfl, hS.F ht⟩) hS.2.2 (by decide) (by decide)
set_option maxHeartbeats 4000000 in
set_option maxRecDepth 100000 in
theorem c_X6_lie (l : Launch) (hlT : l.stackTraces = false) (D : va_G) (h0 : Nat) (r : Nat → Nat) (sz : Nat) (a1 a2 : Int32) : vx_Met l yX6_lie wsX6_lie ({ frames := 40, cells := 1, slots := 6, locals := 400 }) (va_Pc [.ref h0, .int a1, .int a2] (PX6 D h0 r sz)) (va_Qi (fun (_ : Int32) (_ : Unit) => False) (fun _ _ => True) (rg0 sz)) (tX (fun E => E = "java/lang/IndexOutOfBoundsException") (rg0 sz)) 1 6 (rg0 sz) := by
  refine vx_ofW (cc := cX6_lie) (maxL := 4) (ret := (some .int)) (by decide +kernel) rfl ?_
  intro p e s m args below meth c s₁ B hml hne hv
  obtain ⟨rfl, hsz, hP, hK, hT⟩ := hv
  have hx := B.exec
  have hb := B.bytes
  have hr := B.returns
  have hts := atoms_spec (ws := wsX6_lie) B.pre
  have hown : s.vm.findClass RX6 = some m.cls := findClass_of_methodNamed B.named
  have hlocks := B.notSynchronized
  subst hsz
  have hA : ∀ q : Nat, s.heap.size ≤ q → rg0 s.heap.size q := fun _ h => h
  have hS : va_S (rg0 s.heap.size) s.heap s.heap [] := va_S.rf
  have hl := lv_entry ([.ref h0, .int a1, .int a2]) (n := 4) (Nat.le_of_ble_eq_true rfl)
  rw [lg_entry_eq]
  generalize (lg_sl ([.ref h0, .int a1, .int a2]) ++ List.replicate (4 - (lg_sl ([.ref h0, .int a1, .int a2])).length) Slot.unset).toArray = ls at hl ⊢
  have hl : lv_has ls 4 [(0, .ref h0), (1, .int a1), (2, .int a2)] := hl
  refine lv_aload_n hx hb dX6_lie_0 rfl (lv_at hl 0 rfl) ?_
  refine lv_iload_n hx hb dX6_lie_1 rfl (lv_at hl 1 rfl) ?_
  refine vx_callv (vx_runV (As := [.int a1]) (rest := []) ⟨hx, hb, hml, hown, hts⟩ (c_X6_needPlayer l hlT D h0 r s.heap.size a1) (cwV 1 hts gX6_lie_X6_needPlayer rfl rfl rfl (by decide +kernel) ⟨Nat.le_of_ble_eq_true rfl, Nat.le_of_ble_eq_true rfl⟩) ⟨fun a U g mk q => ⟨q.1, PX6.blind q.2⟩, va_recv hK hP (ci := 12) (q0 := 0) rfl rfl, fun U hU hW => ⟨rfl, PX6.go hP hK hT hS hA hU hW⟩⟩ rfl rfl hl.1 rfl (lv_room (Nat.le_of_ble_eq_true rfl)) dX6_lie_2 ⟨Nat.le_of_ble_eq_true rfl, Nat.le_of_ble_eq_true rfl⟩) hS (fun q _ h => h) (fun q h => h) (fun q _ h => h) (fun E ce q9 u t H1 locs1 ht hvm hpx hB hz hk9 hS hcell hv hcl => ?_) (fun u t H1 locs1 ht hvm hw hB hz1 hk1 hS => hw.elim)
  have hE : E = "java/lang/IndexOutOfBoundsException" := hB
  subst hE
  exact vx_out (fun x h => (hne x h).elim) hlocks hcell hv hcl (fun t ht hvm => ⟨(), trivial, rfl, hS.F ht⟩) hS.2.2 (by decide) (by decide)
set_option maxHeartbeats 4000000 in
set_option maxRecDepth 100000 in
theorem c_X6_strokes (l : Launch) (hlT : l.stackTraces = false) (D : va_G) (h0 : Nat) (r : Nat → Nat) (sz : Nat) (a1 : Int32) : vx_Met l yX6_strokes wsX6_strokes ({ frames := 40, cells := 1, slots := 6, locals := 400 }) (va_Pc [.ref h0, .int a1] (PX6 D h0 r sz)) (va_Qi (fun (_ : Int32) (_ : Unit) => False) (fun _ _ => True) (rg0 sz)) (tX (fun E => E = "java/lang/IndexOutOfBoundsException") (rg0 sz)) 1 6 (rg0 sz) := by
  refine vx_ofW (cc := cX6_strokes) (maxL := 2) (ret := (some .int)) (by decide +kernel) rfl ?_
  intro p e s m args below meth c s₁ B hml hne hv
  obtain ⟨rfl, hsz, hP, hK, hT⟩ := hv
  have hx := B.exec
  have hb := B.bytes
  have hr := B.returns
  have hts := atoms_spec (ws := wsX6_strokes) B.pre
  have hown : s.vm.findClass RX6 = some m.cls := findClass_of_methodNamed B.named
  have hlocks := B.notSynchronized
  subst hsz
  have hA : ∀ q : Nat, s.heap.size ≤ q → rg0 s.heap.size q := fun _ h => h
  have hS : va_S (rg0 s.heap.size) s.heap s.heap [] := va_S.rf
  have hl := lv_entry ([.ref h0, .int a1]) (n := 2) (Nat.le_of_ble_eq_true rfl)
  rw [lg_entry_eq]
  generalize (lg_sl ([.ref h0, .int a1]) ++ List.replicate (2 - (lg_sl ([.ref h0, .int a1])).length) Slot.unset).toArray = ls at hl ⊢
  have hl : lv_has ls 2 [(0, .ref h0), (1, .int a1)] := hl
  refine lv_aload_n hx hb dX6_strokes_0 rfl (lv_at hl 0 rfl) ?_
  refine lv_iload_n hx hb dX6_strokes_1 rfl (lv_at hl 1 rfl) ?_
  refine vx_callv (vx_runV (As := [.int a1]) (rest := []) ⟨hx, hb, hml, hown, hts⟩ (c_X6_needPlayer l hlT D h0 r s.heap.size a1) (cwV 1 hts gX6_strokes_X6_needPlayer rfl rfl rfl (by decide +kernel) ⟨Nat.le_of_ble_eq_true rfl, Nat.le_of_ble_eq_true rfl⟩) ⟨fun a U g mk q => ⟨q.1, PX6.blind q.2⟩, va_recv hK hP (ci := 12) (q0 := 0) rfl rfl, fun U hU hW => ⟨rfl, PX6.go hP hK hT hS hA hU hW⟩⟩ rfl rfl hl.1 rfl (lv_room (Nat.le_of_ble_eq_true rfl)) dX6_strokes_2 ⟨Nat.le_of_ble_eq_true rfl, Nat.le_of_ble_eq_true rfl⟩) hS (fun q _ h => h) (fun q h => h) (fun q _ h => h) (fun E ce q9 u t H1 locs1 ht hvm hpx hB hz hk9 hS hcell hv hcl => ?_) (fun u t H1 locs1 ht hvm hw hB hz1 hk1 hS => hw.elim)
  have hE : E = "java/lang/IndexOutOfBoundsException" := hB
  subst hE
  exact vx_out (fun x h => (hne x h).elim) hlocks hcell hv hcl (fun t ht hvm => ⟨(), trivial, rfl, hS.F ht⟩) hS.2.2 (by decide) (by decide)
set_option maxHeartbeats 4000000 in
set_option maxRecDepth 100000 in
theorem c_X6_penalties (l : Launch) (hlT : l.stackTraces = false) (D : va_G) (h0 : Nat) (r : Nat → Nat) (sz : Nat) (a1 : Int32) : vx_Met l yX6_penalties wsX6_penalties ({ frames := 40, cells := 1, slots := 6, locals := 400 }) (va_Pc [.ref h0, .int a1] (PX6 D h0 r sz)) (va_Qi (fun (_ : Int32) (_ : Unit) => False) (fun _ _ => True) (rg0 sz)) (tX (fun E => E = "java/lang/IndexOutOfBoundsException") (rg0 sz)) 1 6 (rg0 sz) := by
  refine vx_ofW (cc := cX6_penalties) (maxL := 2) (ret := (some .int)) (by decide +kernel) rfl ?_
  intro p e s m args below meth c s₁ B hml hne hv
  obtain ⟨rfl, hsz, hP, hK, hT⟩ := hv
  have hx := B.exec
  have hb := B.bytes
  have hr := B.returns
  have hts := atoms_spec (ws := wsX6_penalties) B.pre
  have hown : s.vm.findClass RX6 = some m.cls := findClass_of_methodNamed B.named
  have hlocks := B.notSynchronized
  subst hsz
  have hA : ∀ q : Nat, s.heap.size ≤ q → rg0 s.heap.size q := fun _ h => h
  have hS : va_S (rg0 s.heap.size) s.heap s.heap [] := va_S.rf
  have hl := lv_entry ([.ref h0, .int a1]) (n := 2) (Nat.le_of_ble_eq_true rfl)
  rw [lg_entry_eq]
  generalize (lg_sl ([.ref h0, .int a1]) ++ List.replicate (2 - (lg_sl ([.ref h0, .int a1])).length) Slot.unset).toArray = ls at hl ⊢
  have hl : lv_has ls 2 [(0, .ref h0), (1, .int a1)] := hl
  refine lv_aload_n hx hb dX6_penalties_0 rfl (lv_at hl 0 rfl) ?_
  refine lv_iload_n hx hb dX6_penalties_1 rfl (lv_at hl 1 rfl) ?_
  refine vx_callv (vx_runV (As := [.int a1]) (rest := []) ⟨hx, hb, hml, hown, hts⟩ (c_X6_needPlayer l hlT D h0 r s.heap.size a1) (cwV 1 hts gX6_penalties_X6_needPlayer rfl rfl rfl (by decide +kernel) ⟨Nat.le_of_ble_eq_true rfl, Nat.le_of_ble_eq_true rfl⟩) ⟨fun a U g mk q => ⟨q.1, PX6.blind q.2⟩, va_recv hK hP (ci := 12) (q0 := 0) rfl rfl, fun U hU hW => ⟨rfl, PX6.go hP hK hT hS hA hU hW⟩⟩ rfl rfl hl.1 rfl (lv_room (Nat.le_of_ble_eq_true rfl)) dX6_penalties_2 ⟨Nat.le_of_ble_eq_true rfl, Nat.le_of_ble_eq_true rfl⟩) hS (fun q _ h => h) (fun q h => h) (fun q _ h => h) (fun E ce q9 u t H1 locs1 ht hvm hpx hB hz hk9 hS hcell hv hcl => ?_) (fun u t H1 locs1 ht hvm hw hB hz1 hk1 hS => hw.elim)
  have hE : E = "java/lang/IndexOutOfBoundsException" := hB
  subst hE
  exact vx_out (fun x h => (hne x h).elim) hlocks hcell hv hcl (fun t ht hvm => ⟨(), trivial, rfl, hS.F ht⟩) hS.2.2 (by decide) (by decide)
set_option maxHeartbeats 4000000 in
set_option maxRecDepth 100000 in
theorem c_X6_isOut (l : Launch) (hlT : l.stackTraces = false) (D : va_G) (h0 : Nat) (r : Nat → Nat) (sz : Nat) (a1 : Int32) : vx_Met l yX6_isOut wsX6_isOut ({ frames := 40, cells := 1, slots := 6, locals := 400 }) (va_Pc [.ref h0, .int a1] (PX6 D h0 r sz)) (va_Qi (fun (_ : Int32) (_ : Unit) => False) (fun _ _ => True) (rg0 sz)) (tX (fun E => E = "java/lang/IndexOutOfBoundsException") (rg0 sz)) 1 6 (rg0 sz) := by
  refine vx_ofW (cc := cX6_isOut) (maxL := 2) (ret := (some .boolean)) (by decide +kernel) rfl ?_
  intro p e s m args below meth c s₁ B hml hne hv
  obtain ⟨rfl, hsz, hP, hK, hT⟩ := hv
  have hx := B.exec
  have hb := B.bytes
  have hr := B.returns
  have hts := atoms_spec (ws := wsX6_isOut) B.pre
  have hown : s.vm.findClass RX6 = some m.cls := findClass_of_methodNamed B.named
  have hlocks := B.notSynchronized
  subst hsz
  have hA : ∀ q : Nat, s.heap.size ≤ q → rg0 s.heap.size q := fun _ h => h
  have hS : va_S (rg0 s.heap.size) s.heap s.heap [] := va_S.rf
  have hl := lv_entry ([.ref h0, .int a1]) (n := 2) (Nat.le_of_ble_eq_true rfl)
  rw [lg_entry_eq]
  generalize (lg_sl ([.ref h0, .int a1]) ++ List.replicate (2 - (lg_sl ([.ref h0, .int a1])).length) Slot.unset).toArray = ls at hl ⊢
  have hl : lv_has ls 2 [(0, .ref h0), (1, .int a1)] := hl
  refine lv_aload_n hx hb dX6_isOut_0 rfl (lv_at hl 0 rfl) ?_
  refine lv_iload_n hx hb dX6_isOut_1 rfl (lv_at hl 1 rfl) ?_
  refine vx_callv (vx_runV (As := [.int a1]) (rest := []) ⟨hx, hb, hml, hown, hts⟩ (c_X6_needPlayer l hlT D h0 r s.heap.size a1) (cwV 1 hts gX6_isOut_X6_needPlayer rfl rfl rfl (by decide +kernel) ⟨Nat.le_of_ble_eq_true rfl, Nat.le_of_ble_eq_true rfl⟩) ⟨fun a U g mk q => ⟨q.1, PX6.blind q.2⟩, va_recv hK hP (ci := 12) (q0 := 0) rfl rfl, fun U hU hW => ⟨rfl, PX6.go hP hK hT hS hA hU hW⟩⟩ rfl rfl hl.1 rfl (lv_room (Nat.le_of_ble_eq_true rfl)) dX6_isOut_2 ⟨Nat.le_of_ble_eq_true rfl, Nat.le_of_ble_eq_true rfl⟩) hS (fun q _ h => h) (fun q h => h) (fun q _ h => h) (fun E ce q9 u t H1 locs1 ht hvm hpx hB hz hk9 hS hcell hv hcl => ?_) (fun u t H1 locs1 ht hvm hw hB hz1 hk1 hS => hw.elim)
  have hE : E = "java/lang/IndexOutOfBoundsException" := hB
  subst hE
  exact vx_out (fun x h => (hne x h).elim) hlocks hcell hv hcl (fun t ht hvm => ⟨(), trivial, rfl, hS.F ht⟩) hS.2.2 (by decide) (by decide)
set_option maxHeartbeats 4000000 in
set_option maxRecDepth 100000 in
theorem c_X6_score (l : Launch) (hlT : l.stackTraces = false) (D : va_G) (h0 : Nat) (r : Nat → Nat) (sz : Nat) (a1 a2 : Int32) : vx_Met l yX6_score wsX6_score ({ frames := 40, cells := 1, slots := 6, locals := 400 }) (va_Pc [.ref h0, .int a1, .int a2] (PX6 D h0 r sz)) (va_Qi (fun (_ : Int32) (_ : Unit) => False) (fun _ _ => True) (rg0 sz)) (tX (fun E => E = "java/lang/IndexOutOfBoundsException") (rg0 sz)) 1 6 (rg0 sz) := by
  refine vx_ofW (cc := cX6_score) (maxL := 4) (ret := (some .int)) (by decide +kernel) rfl ?_
  intro p e s m args below meth c s₁ B hml hne hv
  obtain ⟨rfl, hsz, hP, hK, hT⟩ := hv
  have hx := B.exec
  have hb := B.bytes
  have hr := B.returns
  have hts := atoms_spec (ws := wsX6_score) B.pre
  have hown : s.vm.findClass RX6 = some m.cls := findClass_of_methodNamed B.named
  have hlocks := B.notSynchronized
  subst hsz
  have hA : ∀ q : Nat, s.heap.size ≤ q → rg0 s.heap.size q := fun _ h => h
  have hS : va_S (rg0 s.heap.size) s.heap s.heap [] := va_S.rf
  have hl := lv_entry ([.ref h0, .int a1, .int a2]) (n := 4) (Nat.le_of_ble_eq_true rfl)
  rw [lg_entry_eq]
  generalize (lg_sl ([.ref h0, .int a1, .int a2]) ++ List.replicate (4 - (lg_sl ([.ref h0, .int a1, .int a2])).length) Slot.unset).toArray = ls at hl ⊢
  have hl : lv_has ls 4 [(0, .ref h0), (1, .int a1), (2, .int a2)] := hl
  refine lv_aload_n hx hb dX6_score_0 rfl (lv_at hl 0 rfl) ?_
  refine lv_iload_n hx hb dX6_score_1 rfl (lv_at hl 1 rfl) ?_
  refine vx_callv (vx_runV (As := [.int a1]) (rest := []) ⟨hx, hb, hml, hown, hts⟩ (c_X6_needPlayer l hlT D h0 r s.heap.size a1) (cwV 1 hts gX6_score_X6_needPlayer rfl rfl rfl (by decide +kernel) ⟨Nat.le_of_ble_eq_true rfl, Nat.le_of_ble_eq_true rfl⟩) ⟨fun a U g mk q => ⟨q.1, PX6.blind q.2⟩, va_recv hK hP (ci := 12) (q0 := 0) rfl rfl, fun U hU hW => ⟨rfl, PX6.go hP hK hT hS hA hU hW⟩⟩ rfl rfl hl.1 rfl (lv_room (Nat.le_of_ble_eq_true rfl)) dX6_score_2 ⟨Nat.le_of_ble_eq_true rfl, Nat.le_of_ble_eq_true rfl⟩) hS (fun q _ h => h) (fun q h => h) (fun q _ h => h) (fun E ce q9 u t H1 locs1 ht hvm hpx hB hz hk9 hS hcell hv hcl => ?_) (fun u t H1 locs1 ht hvm hw hB hz1 hk1 hS => hw.elim)
  have hE : E = "java/lang/IndexOutOfBoundsException" := hB
  subst hE
  exact vx_out (fun x h => (hne x h).elim) hlocks hcell hv hcl (fun t ht hvm => ⟨(), trivial, rfl, hS.F ht⟩) hS.2.2 (by decide) (by decide)
set_option maxHeartbeats 4000000 in
set_option maxRecDepth 100000 in
theorem c_X6_write (l : Launch) (hlT : l.stackTraces = false) (D : va_G) (h0 : Nat) (r : Nat → Nat) (sz : Nat) (a1 a2 a3 : Int32) : vx_Met l yX6_write wsX6_write ({ frames := 40, cells := 1, slots := 6, locals := 400 }) (va_Pc [.ref h0, .int a1, .int a2, .int a3] (PX6 D h0 r sz)) (va_Qi (fun (_ : Int32) (_ : Unit) => False) (fun _ _ => True) (rg0 sz)) (tX (fun E => E = "java/lang/IndexOutOfBoundsException") (rg0 sz)) 1 6 (rg0 sz) := by
  refine vx_ofW (cc := cX6_write) (maxL := 6) (ret := (some .int)) (by decide +kernel) rfl ?_
  intro p e s m args below meth c s₁ B hml hne hv
  obtain ⟨rfl, hsz, hP, hK, hT⟩ := hv
  have hx := B.exec
  have hb := B.bytes
  have hr := B.returns
  have hts := atoms_spec (ws := wsX6_write) B.pre
  have hown : s.vm.findClass RX6 = some m.cls := findClass_of_methodNamed B.named
  have hlocks := B.notSynchronized
  subst hsz
  have hA : ∀ q : Nat, s.heap.size ≤ q → rg0 s.heap.size q := fun _ h => h
  have hS : va_S (rg0 s.heap.size) s.heap s.heap [] := va_S.rf
  have hl := lv_entry ([.ref h0, .int a1, .int a2, .int a3]) (n := 6) (Nat.le_of_ble_eq_true rfl)
  rw [lg_entry_eq]
  generalize (lg_sl ([.ref h0, .int a1, .int a2, .int a3]) ++ List.replicate (6 - (lg_sl ([.ref h0, .int a1, .int a2, .int a3])).length) Slot.unset).toArray = ls at hl ⊢
  have hl : lv_has ls 6 [(0, .ref h0), (1, .int a1), (2, .int a2), (3, .int a3)] := hl
  refine lv_aload_n hx hb dX6_write_0 rfl (lv_at hl 0 rfl) ?_
  refine lv_iload_n hx hb dX6_write_1 rfl (lv_at hl 1 rfl) ?_
  refine vx_callv (vx_runV (As := [.int a1]) (rest := []) ⟨hx, hb, hml, hown, hts⟩ (c_X6_needPlayer l hlT D h0 r s.heap.size a1) (cwV 1 hts gX6_write_X6_needPlayer rfl rfl rfl (by decide +kernel) ⟨Nat.le_of_ble_eq_true rfl, Nat.le_of_ble_eq_true rfl⟩) ⟨fun a U g mk q => ⟨q.1, PX6.blind q.2⟩, va_recv hK hP (ci := 12) (q0 := 0) rfl rfl, fun U hU hW => ⟨rfl, PX6.go hP hK hT hS hA hU hW⟩⟩ rfl rfl hl.1 rfl (lv_room (Nat.le_of_ble_eq_true rfl)) dX6_write_2 ⟨Nat.le_of_ble_eq_true rfl, Nat.le_of_ble_eq_true rfl⟩) hS (fun q _ h => h) (fun q h => h) (fun q _ h => h) (fun E ce q9 u t H1 locs1 ht hvm hpx hB hz hk9 hS hcell hv hcl => ?_) (fun u t H1 locs1 ht hvm hw hB hz1 hk1 hS => hw.elim)
  have hE : E = "java/lang/IndexOutOfBoundsException" := hB
  subst hE
  exact vx_out (fun x h => (hne x h).elim) hlocks hcell hv hcl (fun t ht hvm => ⟨(), trivial, rfl, hS.F ht⟩) hS.2.2 (by decide) (by decide)
set_option maxHeartbeats 4000000 in
set_option maxRecDepth 100000 in
theorem c_X6_sign (l : Launch) (hlT : l.stackTraces = false) (D : va_G) (h0 : Nat) (r : Nat → Nat) (sz : Nat) (a1 : Int32) : vx_Met l yX6_sign wsX6_sign ({ frames := 40, cells := 1, slots := 6, locals := 400 }) (va_Pc [.ref h0, .int a1] (PX6 D h0 r sz)) (va_Qi (fun (_ : Int32) (_ : Unit) => False) (fun _ _ => True) (rg0 sz)) (tX (fun E => E = "java/lang/IndexOutOfBoundsException") (rg0 sz)) 1 6 (rg0 sz) := by
  refine vx_ofW (cc := cX6_sign) (maxL := 3) (ret := (some .boolean)) (by decide +kernel) rfl ?_
  intro p e s m args below meth c s₁ B hml hne hv
  obtain ⟨rfl, hsz, hP, hK, hT⟩ := hv
  have hx := B.exec
  have hb := B.bytes
  have hr := B.returns
  have hts := atoms_spec (ws := wsX6_sign) B.pre
  have hown : s.vm.findClass RX6 = some m.cls := findClass_of_methodNamed B.named
  have hlocks := B.notSynchronized
  subst hsz
  have hA : ∀ q : Nat, s.heap.size ≤ q → rg0 s.heap.size q := fun _ h => h
  have hS : va_S (rg0 s.heap.size) s.heap s.heap [] := va_S.rf
  have hl := lv_entry ([.ref h0, .int a1]) (n := 3) (Nat.le_of_ble_eq_true rfl)
  rw [lg_entry_eq]
  generalize (lg_sl ([.ref h0, .int a1]) ++ List.replicate (3 - (lg_sl ([.ref h0, .int a1])).length) Slot.unset).toArray = ls at hl ⊢
  have hl : lv_has ls 3 [(0, .ref h0), (1, .int a1)] := hl
  refine lv_aload_n hx hb dX6_sign_0 rfl (lv_at hl 0 rfl) ?_
  refine lv_iload_n hx hb dX6_sign_1 rfl (lv_at hl 1 rfl) ?_
  refine vx_callv (vx_runV (As := [.int a1]) (rest := []) ⟨hx, hb, hml, hown, hts⟩ (c_X6_needPlayer l hlT D h0 r s.heap.size a1) (cwV 1 hts gX6_sign_X6_needPlayer rfl rfl rfl (by decide +kernel) ⟨Nat.le_of_ble_eq_true rfl, Nat.le_of_ble_eq_true rfl⟩) ⟨fun a U g mk q => ⟨q.1, PX6.blind q.2⟩, va_recv hK hP (ci := 12) (q0 := 0) rfl rfl, fun U hU hW => ⟨rfl, PX6.go hP hK hT hS hA hU hW⟩⟩ rfl rfl hl.1 rfl (lv_room (Nat.le_of_ble_eq_true rfl)) dX6_sign_2 ⟨Nat.le_of_ble_eq_true rfl, Nat.le_of_ble_eq_true rfl⟩) hS (fun q _ h => h) (fun q h => h) (fun q _ h => h) (fun E ce q9 u t H1 locs1 ht hvm hpx hB hz hk9 hS hcell hv hcl => ?_) (fun u t H1 locs1 ht hvm hw hB hz1 hk1 hS => hw.elim)
  have hE : E = "java/lang/IndexOutOfBoundsException" := hB
  subst hE
  exact vx_out (fun x h => (hne x h).elim) hlocks hcell hv hcl (fun t ht hvm => ⟨(), trivial, rfl, hS.F ht⟩) hS.2.2 (by decide) (by decide)
set_option maxHeartbeats 4000000 in
set_option maxRecDepth 100000 in
theorem c_X6_total (l : Launch) (hlT : l.stackTraces = false) (D : va_G) (h0 : Nat) (r : Nat → Nat) (sz : Nat) (a1 : Int32) : vx_Met l yX6_total wsX6_total ({ frames := 40, cells := 1, slots := 6, locals := 400 }) (va_Pc [.ref h0, .int a1] (PX6 D h0 r sz)) (va_Qi (fun (_ : Int32) (_ : Unit) => False) (fun _ _ => True) (rg0 sz)) (tX (fun E => E = "java/lang/IndexOutOfBoundsException") (rg0 sz)) 1 6 (rg0 sz) := by
  refine vx_ofW (cc := cX6_total) (maxL := 3) (ret := (some .int)) (by decide +kernel) rfl ?_
  intro p e s m args below meth c s₁ B hml hne hv
  obtain ⟨rfl, hsz, hP, hK, hT⟩ := hv
  have hx := B.exec
  have hb := B.bytes
  have hr := B.returns
  have hts := atoms_spec (ws := wsX6_total) B.pre
  have hown : s.vm.findClass RX6 = some m.cls := findClass_of_methodNamed B.named
  have hlocks := B.notSynchronized
  subst hsz
  have hA : ∀ q : Nat, s.heap.size ≤ q → rg0 s.heap.size q := fun _ h => h
  have hS : va_S (rg0 s.heap.size) s.heap s.heap [] := va_S.rf
  have hl := lv_entry ([.ref h0, .int a1]) (n := 3) (Nat.le_of_ble_eq_true rfl)
  rw [lg_entry_eq]
  generalize (lg_sl ([.ref h0, .int a1]) ++ List.replicate (3 - (lg_sl ([.ref h0, .int a1])).length) Slot.unset).toArray = ls at hl ⊢
  have hl : lv_has ls 3 [(0, .ref h0), (1, .int a1)] := hl
  refine lv_aload_n hx hb dX6_total_0 rfl (lv_at hl 0 rfl) ?_
  refine lv_iload_n hx hb dX6_total_1 rfl (lv_at hl 1 rfl) ?_
  refine vx_callv (vx_runV (As := [.int a1]) (rest := []) ⟨hx, hb, hml, hown, hts⟩ (c_X6_needPlayer l hlT D h0 r s.heap.size a1) (cwV 1 hts gX6_total_X6_needPlayer rfl rfl rfl (by decide +kernel) ⟨Nat.le_of_ble_eq_true rfl, Nat.le_of_ble_eq_true rfl⟩) ⟨fun a U g mk q => ⟨q.1, PX6.blind q.2⟩, va_recv hK hP (ci := 12) (q0 := 0) rfl rfl, fun U hU hW => ⟨rfl, PX6.go hP hK hT hS hA hU hW⟩⟩ rfl rfl hl.1 rfl (lv_room (Nat.le_of_ble_eq_true rfl)) dX6_total_2 ⟨Nat.le_of_ble_eq_true rfl, Nat.le_of_ble_eq_true rfl⟩) hS (fun q _ h => h) (fun q h => h) (fun q _ h => h) (fun E ce q9 u t H1 locs1 ht hvm hpx hB hz hk9 hS hcell hv hcl => ?_) (fun u t H1 locs1 ht hvm hw hB hz1 hk1 hS => hw.elim)
  have hE : E = "java/lang/IndexOutOfBoundsException" := hB
  subst hE
  exact vx_out (fun x h => (hne x h).elim) hlocks hcell hv hcl (fun t ht hvm => ⟨(), trivial, rfl, hS.F ht⟩) hS.2.2 (by decide) (by decide)
set_option maxHeartbeats 4000000 in
set_option maxRecDepth 100000 in
theorem c_X6_stableford (l : Launch) (hlT : l.stackTraces = false) (D : va_G) (h0 : Nat) (r : Nat → Nat) (sz : Nat) (a1 : Int32) : vx_Met l yX6_stableford wsX6_stableford ({ frames := 40, cells := 1, slots := 6, locals := 400 }) (va_Pc [.ref h0, .int a1] (PX6 D h0 r sz)) (va_Qi (fun (_ : Int32) (_ : Unit) => False) (fun _ _ => True) (rg0 sz)) (tX (fun E => E = "java/lang/IndexOutOfBoundsException") (rg0 sz)) 1 6 (rg0 sz) := by
  refine vx_ofW (cc := cX6_stableford) (maxL := 4) (ret := (some .int)) (by decide +kernel) rfl ?_
  intro p e s m args below meth c s₁ B hml hne hv
  obtain ⟨rfl, hsz, hP, hK, hT⟩ := hv
  have hx := B.exec
  have hb := B.bytes
  have hr := B.returns
  have hts := atoms_spec (ws := wsX6_stableford) B.pre
  have hown : s.vm.findClass RX6 = some m.cls := findClass_of_methodNamed B.named
  have hlocks := B.notSynchronized
  subst hsz
  have hA : ∀ q : Nat, s.heap.size ≤ q → rg0 s.heap.size q := fun _ h => h
  have hS : va_S (rg0 s.heap.size) s.heap s.heap [] := va_S.rf
  have hl := lv_entry ([.ref h0, .int a1]) (n := 4) (Nat.le_of_ble_eq_true rfl)
  rw [lg_entry_eq]
  generalize (lg_sl ([.ref h0, .int a1]) ++ List.replicate (4 - (lg_sl ([.ref h0, .int a1])).length) Slot.unset).toArray = ls at hl ⊢
  have hl : lv_has ls 4 [(0, .ref h0), (1, .int a1)] := hl
  refine lv_aload_n hx hb dX6_stableford_0 rfl (lv_at hl 0 rfl) ?_
  refine lv_iload_n hx hb dX6_stableford_1 rfl (lv_at hl 1 rfl) ?_
  refine vx_callv (vx_runV (As := [.int a1]) (rest := []) ⟨hx, hb, hml, hown, hts⟩ (c_X6_needPlayer l hlT D h0 r s.heap.size a1) (cwV 1 hts gX6_stableford_X6_needPlayer rfl rfl rfl (by decide +kernel) ⟨Nat.le_of_ble_eq_true rfl, Nat.le_of_ble_eq_true rfl⟩) ⟨fun a U g mk q => ⟨q.1, PX6.blind q.2⟩, va_recv hK hP (ci := 12) (q0 := 0) rfl rfl, fun U hU hW => ⟨rfl, PX6.go hP hK hT hS hA hU hW⟩⟩ rfl rfl hl.1 rfl (lv_room (Nat.le_of_ble_eq_true rfl)) dX6_stableford_2 ⟨Nat.le_of_ble_eq_true rfl, Nat.le_of_ble_eq_true rfl⟩) hS (fun q _ h => h) (fun q h => h) (fun q _ h => h) (fun E ce q9 u t H1 locs1 ht hvm hpx hB hz hk9 hS hcell hv hcl => ?_) (fun u t H1 locs1 ht hvm hw hB hz1 hk1 hS => hw.elim)
  have hE : E = "java/lang/IndexOutOfBoundsException" := hB
  subst hE
  exact vx_out (fun x h => (hne x h).elim) hlocks hcell hv hcl (fun t ht hvm => ⟨(), trivial, rfl, hS.F ht⟩) hS.2.2 (by decide) (by decide)
set_option maxHeartbeats 4000000 in
set_option maxRecDepth 100000 in
theorem c_X6_parPlay (l : Launch) (hlT : l.stackTraces = false) (D : va_G) (h0 : Nat) (r : Nat → Nat) (sz : Nat) (a1 : Int32) : vx_Met l yX6_parPlay wsX6_parPlay ({ frames := 40, cells := 1, slots := 6, locals := 400 }) (va_Pc [.ref h0, .int a1] (PX6 D h0 r sz)) (va_Qi (fun (_ : Int32) (_ : Unit) => False) (fun _ _ => True) (rg0 sz)) (tX (fun E => E = "java/lang/IndexOutOfBoundsException") (rg0 sz)) 1 6 (rg0 sz) := by
  refine vx_ofW (cc := cX6_parPlay) (maxL := 5) (ret := (some .int)) (by decide +kernel) rfl ?_
  intro p e s m args below meth c s₁ B hml hne hv
  obtain ⟨rfl, hsz, hP, hK, hT⟩ := hv
  have hx := B.exec
  have hb := B.bytes
  have hr := B.returns
  have hts := atoms_spec (ws := wsX6_parPlay) B.pre
  have hown : s.vm.findClass RX6 = some m.cls := findClass_of_methodNamed B.named
  have hlocks := B.notSynchronized
  subst hsz
  have hA : ∀ q : Nat, s.heap.size ≤ q → rg0 s.heap.size q := fun _ h => h
  have hS : va_S (rg0 s.heap.size) s.heap s.heap [] := va_S.rf
  have hl := lv_entry ([.ref h0, .int a1]) (n := 5) (Nat.le_of_ble_eq_true rfl)
  rw [lg_entry_eq]
  generalize (lg_sl ([.ref h0, .int a1]) ++ List.replicate (5 - (lg_sl ([.ref h0, .int a1])).length) Slot.unset).toArray = ls at hl ⊢
  have hl : lv_has ls 5 [(0, .ref h0), (1, .int a1)] := hl
  refine lv_aload_n hx hb dX6_parPlay_0 rfl (lv_at hl 0 rfl) ?_
  refine lv_iload_n hx hb dX6_parPlay_1 rfl (lv_at hl 1 rfl) ?_
  refine vx_callv (vx_runV (As := [.int a1]) (rest := []) ⟨hx, hb, hml, hown, hts⟩ (c_X6_needPlayer l hlT D h0 r s.heap.size a1) (cwV 1 hts gX6_parPlay_X6_needPlayer rfl rfl rfl (by decide +kernel) ⟨Nat.le_of_ble_eq_true rfl, Nat.le_of_ble_eq_true rfl⟩) ⟨fun a U g mk q => ⟨q.1, PX6.blind q.2⟩, va_recv hK hP (ci := 12) (q0 := 0) rfl rfl, fun U hU hW => ⟨rfl, PX6.go hP hK hT hS hA hU hW⟩⟩ rfl rfl hl.1 rfl (lv_room (Nat.le_of_ble_eq_true rfl)) dX6_parPlay_2 ⟨Nat.le_of_ble_eq_true rfl, Nat.le_of_ble_eq_true rfl⟩) hS (fun q _ h => h) (fun q h => h) (fun q _ h => h) (fun E ce q9 u t H1 locs1 ht hvm hpx hB hz hk9 hS hcell hv hcl => ?_) (fun u t H1 locs1 ht hvm hw hB hz1 hk1 hS => hw.elim)
  have hE : E = "java/lang/IndexOutOfBoundsException" := hB
  subst hE
  exact vx_out (fun x h => (hne x h).elim) hlocks hcell hv hcl (fun t ht hvm => ⟨(), trivial, rfl, hS.F ht⟩) hS.2.2 (by decide) (by decide)
set_option maxHeartbeats 4000000 in
set_option maxRecDepth 100000 in
theorem c_X6_together (l : Launch) (hlT : l.stackTraces = false) (D : va_G) (h0 : Nat) (r : Nat → Nat) (sz : Nat) (a1 a2 : Int32) : vx_Met l yX6_together wsX6_together ({ frames := 40, cells := 1, slots := 6, locals := 400 }) (va_Pc [.ref h0, .int a1, .int a2] (PX6 D h0 r sz)) (va_Qi (fun (_ : Int32) (_ : Unit) => False) (fun _ _ => True) (rg0 sz)) (tX (fun E => E = "java/lang/IndexOutOfBoundsException") (rg0 sz)) 1 6 (rg0 sz) := by
  refine vx_ofW (cc := cX6_together) (maxL := 9) (ret := (some .int)) (by decide +kernel) rfl ?_
  intro p e s m args below meth c s₁ B hml hne hv
  obtain ⟨rfl, hsz, hP, hK, hT⟩ := hv
  have hx := B.exec
  have hb := B.bytes
  have hr := B.returns
  have hts := atoms_spec (ws := wsX6_together) B.pre
  have hown : s.vm.findClass RX6 = some m.cls := findClass_of_methodNamed B.named
  have hlocks := B.notSynchronized
  subst hsz
  have hA : ∀ q : Nat, s.heap.size ≤ q → rg0 s.heap.size q := fun _ h => h
  have hS : va_S (rg0 s.heap.size) s.heap s.heap [] := va_S.rf
  have hl := lv_entry ([.ref h0, .int a1, .int a2]) (n := 9) (Nat.le_of_ble_eq_true rfl)
  rw [lg_entry_eq]
  generalize (lg_sl ([.ref h0, .int a1, .int a2]) ++ List.replicate (9 - (lg_sl ([.ref h0, .int a1, .int a2])).length) Slot.unset).toArray = ls at hl ⊢
  have hl : lv_has ls 9 [(0, .ref h0), (1, .int a1), (2, .int a2)] := hl
  refine lv_aload_n hx hb dX6_together_0 rfl (lv_at hl 0 rfl) ?_
  refine lv_iload_n hx hb dX6_together_1 rfl (lv_at hl 1 rfl) ?_
  refine vx_callv (vx_runV (As := [.int a1]) (rest := []) ⟨hx, hb, hml, hown, hts⟩ (c_X6_needPlayer l hlT D h0 r s.heap.size a1) (cwV 1 hts gX6_together_X6_needPlayer rfl rfl rfl (by decide +kernel) ⟨Nat.le_of_ble_eq_true rfl, Nat.le_of_ble_eq_true rfl⟩) ⟨fun a U g mk q => ⟨q.1, PX6.blind q.2⟩, va_recv hK hP (ci := 12) (q0 := 0) rfl rfl, fun U hU hW => ⟨rfl, PX6.go hP hK hT hS hA hU hW⟩⟩ rfl rfl hl.1 rfl (lv_room (Nat.le_of_ble_eq_true rfl)) dX6_together_2 ⟨Nat.le_of_ble_eq_true rfl, Nat.le_of_ble_eq_true rfl⟩) hS (fun q _ h => h) (fun q h => h) (fun q _ h => h) (fun E ce q9 u t H1 locs1 ht hvm hpx hB hz hk9 hS hcell hv hcl => ?_) (fun u t H1 locs1 ht hvm hw hB hz1 hk1 hS => hw.elim)
  have hE : E = "java/lang/IndexOutOfBoundsException" := hB
  subst hE
  exact vx_out (fun x h => (hne x h).elim) hlocks hcell hv hcl (fun t ht hvm => ⟨(), trivial, rfl, hS.F ht⟩) hS.2.2 (by decide) (by decide)
set_option maxHeartbeats 4000000 in
set_option maxRecDepth 100000 in
theorem c_X6_skins (l : Launch) (hlT : l.stackTraces = false) (D : va_G) (h0 : Nat) (r : Nat → Nat) (sz : Nat) (a1 : Int32) : vx_Met l yX6_skins wsX6_skins ({ frames := 40, cells := 1, slots := 6, locals := 400 }) (va_Pc [.ref h0, .int a1] (PX6 D h0 r sz)) (va_Qi (fun (_ : Int32) (_ : Unit) => False) (fun _ _ => True) (rg0 sz)) (tX (fun E => E = "java/lang/IndexOutOfBoundsException") (rg0 sz)) 1 6 (rg0 sz) := by
  refine vx_ofW (cc := cX6_skins) (maxL := 2) (ret := (some .int)) (by decide +kernel) rfl ?_
  intro p e s m args below meth c s₁ B hml hne hv
  obtain ⟨rfl, hsz, hP, hK, hT⟩ := hv
  have hx := B.exec
  have hb := B.bytes
  have hr := B.returns
  have hts := atoms_spec (ws := wsX6_skins) B.pre
  have hown : s.vm.findClass RX6 = some m.cls := findClass_of_methodNamed B.named
  have hlocks := B.notSynchronized
  subst hsz
  have hA : ∀ q : Nat, s.heap.size ≤ q → rg0 s.heap.size q := fun _ h => h
  have hS : va_S (rg0 s.heap.size) s.heap s.heap [] := va_S.rf
  have hl := lv_entry ([.ref h0, .int a1]) (n := 2) (Nat.le_of_ble_eq_true rfl)
  rw [lg_entry_eq]
  generalize (lg_sl ([.ref h0, .int a1]) ++ List.replicate (2 - (lg_sl ([.ref h0, .int a1])).length) Slot.unset).toArray = ls at hl ⊢
  have hl : lv_has ls 2 [(0, .ref h0), (1, .int a1)] := hl
  refine lv_aload_n hx hb dX6_skins_0 rfl (lv_at hl 0 rfl) ?_
  refine lv_iload_n hx hb dX6_skins_1 rfl (lv_at hl 1 rfl) ?_
  refine vx_callv (vx_runV (As := [.int a1]) (rest := []) ⟨hx, hb, hml, hown, hts⟩ (c_X6_needPlayer l hlT D h0 r s.heap.size a1) (cwV 1 hts gX6_skins_X6_needPlayer rfl rfl rfl (by decide +kernel) ⟨Nat.le_of_ble_eq_true rfl, Nat.le_of_ble_eq_true rfl⟩) ⟨fun a U g mk q => ⟨q.1, PX6.blind q.2⟩, va_recv hK hP (ci := 12) (q0 := 0) rfl rfl, fun U hU hW => ⟨rfl, PX6.go hP hK hT hS hA hU hW⟩⟩ rfl rfl hl.1 rfl (lv_room (Nat.le_of_ble_eq_true rfl)) dX6_skins_2 ⟨Nat.le_of_ble_eq_true rfl, Nat.le_of_ble_eq_true rfl⟩) hS (fun q _ h => h) (fun q h => h) (fun q _ h => h) (fun E ce q9 u t H1 locs1 ht hvm hpx hB hz hk9 hS hcell hv hcl => ?_) (fun u t H1 locs1 ht hvm hw hB hz1 hk1 hS => hw.elim)
  have hE : E = "java/lang/IndexOutOfBoundsException" := hB
  subst hE
  exact vx_out (fun x h => (hne x h).elim) hlocks hcell hv hcl (fun t ht hvm => ⟨(), trivial, rfl, hS.F ht⟩) hS.2.2 (by decide) (by decide)
set_option maxHeartbeats 4000000 in
set_option maxRecDepth 100000 in
theorem c_X6_rank (l : Launch) (hlT : l.stackTraces = false) (D : va_G) (h0 : Nat) (r : Nat → Nat) (sz : Nat) (a1 : Int32) : vx_Met l yX6_rank wsX6_rank ({ frames := 40, cells := 1, slots := 6, locals := 400 }) (va_Pc [.ref h0, .int a1] (PX6 D h0 r sz)) (va_Qi (fun (_ : Int32) (_ : Unit) => False) (fun _ _ => True) (rg0 sz)) (tX (fun E => E = "java/lang/IndexOutOfBoundsException") (rg0 sz)) 1 6 (rg0 sz) := by
  refine vx_ofW (cc := cX6_rank) (maxL := 2) (ret := (some .int)) (by decide +kernel) rfl ?_
  intro p e s m args below meth c s₁ B hml hne hv
  obtain ⟨rfl, hsz, hP, hK, hT⟩ := hv
  have hx := B.exec
  have hb := B.bytes
  have hr := B.returns
  have hts := atoms_spec (ws := wsX6_rank) B.pre
  have hown : s.vm.findClass RX6 = some m.cls := findClass_of_methodNamed B.named
  have hlocks := B.notSynchronized
  subst hsz
  have hA : ∀ q : Nat, s.heap.size ≤ q → rg0 s.heap.size q := fun _ h => h
  have hS : va_S (rg0 s.heap.size) s.heap s.heap [] := va_S.rf
  have hl := lv_entry ([.ref h0, .int a1]) (n := 2) (Nat.le_of_ble_eq_true rfl)
  rw [lg_entry_eq]
  generalize (lg_sl ([.ref h0, .int a1]) ++ List.replicate (2 - (lg_sl ([.ref h0, .int a1])).length) Slot.unset).toArray = ls at hl ⊢
  have hl : lv_has ls 2 [(0, .ref h0), (1, .int a1)] := hl
  refine lv_aload_n hx hb dX6_rank_0 rfl (lv_at hl 0 rfl) ?_
  refine lv_iload_n hx hb dX6_rank_1 rfl (lv_at hl 1 rfl) ?_
  refine vx_callv (vx_runV (As := [.int a1]) (rest := []) ⟨hx, hb, hml, hown, hts⟩ (c_X6_needPlayer l hlT D h0 r s.heap.size a1) (cwV 1 hts gX6_rank_X6_needPlayer rfl rfl rfl (by decide +kernel) ⟨Nat.le_of_ble_eq_true rfl, Nat.le_of_ble_eq_true rfl⟩) ⟨fun a U g mk q => ⟨q.1, PX6.blind q.2⟩, va_recv hK hP (ci := 12) (q0 := 0) rfl rfl, fun U hU hW => ⟨rfl, PX6.go hP hK hT hS hA hU hW⟩⟩ rfl rfl hl.1 rfl (lv_room (Nat.le_of_ble_eq_true rfl)) dX6_rank_2 ⟨Nat.le_of_ble_eq_true rfl, Nat.le_of_ble_eq_true rfl⟩) hS (fun q _ h => h) (fun q h => h) (fun q _ h => h) (fun E ce q9 u t H1 locs1 ht hvm hpx hB hz hk9 hS hcell hv hcl => ?_) (fun u t H1 locs1 ht hvm hw hB hz1 hk1 hS => hw.elim)
  have hE : E = "java/lang/IndexOutOfBoundsException" := hB
  subst hE
  exact vx_out (fun x h => (hne x h).elim) hlocks hcell hv hcl (fun t ht hvm => ⟨(), trivial, rfl, hS.F ht⟩) hS.2.2 (by decide) (by decide)
set_option maxHeartbeats 4000000 in
set_option maxRecDepth 100000 in
theorem c_X6_isAhead (l : Launch) (hlT : l.stackTraces = false) (D : va_G) (h0 : Nat) (r : Nat → Nat) (sz : Nat) (a1 a2 : Int32) : vx_Met l yX6_isAhead wsX6_isAhead ({ frames := 40, cells := 1, slots := 6, locals := 400 }) (va_Pc [.ref h0, .int a1, .int a2] (PX6 D h0 r sz)) (va_Qi (fun (_ : Int32) (_ : Unit) => False) (fun _ _ => True) (rg0 sz)) (tX (fun E => E = "java/lang/IndexOutOfBoundsException") (rg0 sz)) 1 6 (rg0 sz) := by
  refine vx_ofW (cc := cX6_isAhead) (maxL := 4) (ret := (some .boolean)) (by decide +kernel) rfl ?_
  intro p e s m args below meth c s₁ B hml hne hv
  obtain ⟨rfl, hsz, hP, hK, hT⟩ := hv
  have hx := B.exec
  have hb := B.bytes
  have hr := B.returns
  have hts := atoms_spec (ws := wsX6_isAhead) B.pre
  have hown : s.vm.findClass RX6 = some m.cls := findClass_of_methodNamed B.named
  have hlocks := B.notSynchronized
  subst hsz
  have hA : ∀ q : Nat, s.heap.size ≤ q → rg0 s.heap.size q := fun _ h => h
  have hS : va_S (rg0 s.heap.size) s.heap s.heap [] := va_S.rf
  have hl := lv_entry ([.ref h0, .int a1, .int a2]) (n := 4) (Nat.le_of_ble_eq_true rfl)
  rw [lg_entry_eq]
  generalize (lg_sl ([.ref h0, .int a1, .int a2]) ++ List.replicate (4 - (lg_sl ([.ref h0, .int a1, .int a2])).length) Slot.unset).toArray = ls at hl ⊢
  have hl : lv_has ls 4 [(0, .ref h0), (1, .int a1), (2, .int a2)] := hl
  refine lv_aload_n hx hb dX6_isAhead_0 rfl (lv_at hl 0 rfl) ?_
  refine lv_iload_n hx hb dX6_isAhead_1 rfl (lv_at hl 1 rfl) ?_
  refine vx_callv (vx_runV (As := [.int a1]) (rest := []) ⟨hx, hb, hml, hown, hts⟩ (c_X6_needPlayer l hlT D h0 r s.heap.size a1) (cwV 1 hts gX6_isAhead_X6_needPlayer rfl rfl rfl (by decide +kernel) ⟨Nat.le_of_ble_eq_true rfl, Nat.le_of_ble_eq_true rfl⟩) ⟨fun a U g mk q => ⟨q.1, PX6.blind q.2⟩, va_recv hK hP (ci := 12) (q0 := 0) rfl rfl, fun U hU hW => ⟨rfl, PX6.go hP hK hT hS hA hU hW⟩⟩ rfl rfl hl.1 rfl (lv_room (Nat.le_of_ble_eq_true rfl)) dX6_isAhead_2 ⟨Nat.le_of_ble_eq_true rfl, Nat.le_of_ble_eq_true rfl⟩) hS (fun q _ h => h) (fun q h => h) (fun q _ h => h) (fun E ce q9 u t H1 locs1 ht hvm hpx hB hz hk9 hS hcell hv hcl => ?_) (fun u t H1 locs1 ht hvm hw hB hz1 hk1 hS => hw.elim)
  have hE : E = "java/lang/IndexOutOfBoundsException" := hB
  subst hE
  exact vx_out (fun x h => (hne x h).elim) hlocks hcell hv hcl (fun t ht hvm => ⟨(), trivial, rfl, hS.F ht⟩) hS.2.2 (by decide) (by decide)
set_option maxHeartbeats 4000000 in
set_option maxRecDepth 100000 in
theorem c_X6_post (l : Launch) (hlT : l.stackTraces = false) (D : va_G) (h0 : Nat) (r : Nat → Nat) (sz : Nat) (a1 a2 a3 : Int32) : vx_Met l yX6_post wsX6_post ({ frames := 40, cells := 1, slots := 6, locals := 400 }) (va_Pc [.ref h0, .int a1, .int a2, .int a3] (PX6 D h0 r sz)) (va_Qi (fun (_ : Int32) (_ : Unit) => False) (fun _ _ => True) (rg0 sz)) (tX (fun E => E = "java/lang/IndexOutOfBoundsException") (rg0 sz)) 1 6 (rg0 sz) := by
  refine vx_ofW (cc := cX6_post) (maxL := 8) (ret := (some .int)) (by decide +kernel) rfl ?_
  intro p e s m args below meth c s₁ B hml hne hv
  obtain ⟨rfl, hsz, hP, hK, hT⟩ := hv
  have hx := B.exec
  have hb := B.bytes
  have hr := B.returns
  have hts := atoms_spec (ws := wsX6_post) B.pre
  have hown : s.vm.findClass RX6 = some m.cls := findClass_of_methodNamed B.named
  have hlocks := B.notSynchronized
  subst hsz
  have hA : ∀ q : Nat, s.heap.size ≤ q → rg0 s.heap.size q := fun _ h => h
  have hS : va_S (rg0 s.heap.size) s.heap s.heap [] := va_S.rf
  have hl := lv_entry ([.ref h0, .int a1, .int a2, .int a3]) (n := 8) (Nat.le_of_ble_eq_true rfl)
  rw [lg_entry_eq]
  generalize (lg_sl ([.ref h0, .int a1, .int a2, .int a3]) ++ List.replicate (8 - (lg_sl ([.ref h0, .int a1, .int a2, .int a3])).length) Slot.unset).toArray = ls at hl ⊢
  have hl : lv_has ls 8 [(0, .ref h0), (1, .int a1), (2, .int a2), (3, .int a3)] := hl
  refine lv_aload_n hx hb dX6_post_0 rfl (lv_at hl 0 rfl) ?_
  refine lv_iload_n hx hb dX6_post_1 rfl (lv_at hl 1 rfl) ?_
  refine vx_callv (vx_runV (As := [.int a1]) (rest := []) ⟨hx, hb, hml, hown, hts⟩ (c_X6_needPlayer l hlT D h0 r s.heap.size a1) (cwV 1 hts gX6_post_X6_needPlayer rfl rfl rfl (by decide +kernel) ⟨Nat.le_of_ble_eq_true rfl, Nat.le_of_ble_eq_true rfl⟩) ⟨fun a U g mk q => ⟨q.1, PX6.blind q.2⟩, va_recv hK hP (ci := 12) (q0 := 0) rfl rfl, fun U hU hW => ⟨rfl, PX6.go hP hK hT hS hA hU hW⟩⟩ rfl rfl hl.1 rfl (lv_room (Nat.le_of_ble_eq_true rfl)) dX6_post_2 ⟨Nat.le_of_ble_eq_true rfl, Nat.le_of_ble_eq_true rfl⟩) hS (fun q _ h => h) (fun q h => h) (fun q _ h => h) (fun E ce q9 u t H1 locs1 ht hvm hpx hB hz hk9 hS hcell hv hcl => ?_) (fun u t H1 locs1 ht hvm hw hB hz1 hk1 hS => hw.elim)
  have hE : E = "java/lang/IndexOutOfBoundsException" := hB
  subst hE
  exact vx_out (fun x h => (hne x h).elim) hlocks hcell hv hcl (fun t ht hvm => ⟨(), trivial, rfl, hS.F ht⟩) hS.2.2 (by decide) (by decide)
set_option maxHeartbeats 4000000 in
set_option maxRecDepth 100000 in
theorem c_X6_difference (l : Launch) (hlT : l.stackTraces = false) (D : va_G) (h0 : Nat) (r : Nat → Nat) (sz : Nat) (a1 a2 : Int32) : vx_Met l yX6_difference wsX6_difference ({ frames := 40, cells := 1, slots := 6, locals := 400 }) (va_Pc [.ref h0, .int a1, .int a2] (PX6 D h0 r sz)) (va_Qi (fun (_ : Int32) (_ : Unit) => False) (fun _ _ => True) (rg0 sz)) (tX (fun E => E = "java/lang/IndexOutOfBoundsException") (rg0 sz)) 1 6 (rg0 sz) := by
  refine vx_ofW (cc := cX6_difference) (maxL := 3) (ret := (some .int)) (by decide +kernel) rfl ?_
  intro p e s m args below meth c s₁ B hml hne hv
  obtain ⟨rfl, hsz, hP, hK, hT⟩ := hv
  have hx := B.exec
  have hb := B.bytes
  have hr := B.returns
  have hts := atoms_spec (ws := wsX6_difference) B.pre
  have hown : s.vm.findClass RX6 = some m.cls := findClass_of_methodNamed B.named
  have hlocks := B.notSynchronized
  subst hsz
  have hA : ∀ q : Nat, s.heap.size ≤ q → rg0 s.heap.size q := fun _ h => h
  have hS : va_S (rg0 s.heap.size) s.heap s.heap [] := va_S.rf
  have hl := lv_entry ([.ref h0, .int a1, .int a2]) (n := 3) (Nat.le_of_ble_eq_true rfl)
  rw [lg_entry_eq]
  generalize (lg_sl ([.ref h0, .int a1, .int a2]) ++ List.replicate (3 - (lg_sl ([.ref h0, .int a1, .int a2])).length) Slot.unset).toArray = ls at hl ⊢
  have hl : lv_has ls 3 [(0, .ref h0), (1, .int a1), (2, .int a2)] := hl
  refine lv_aload_n hx hb dX6_difference_0 rfl (lv_at hl 0 rfl) ?_
  refine lv_iload_n hx hb dX6_difference_1 rfl (lv_at hl 1 rfl) ?_
  refine vx_callv (vx_runV (As := [.int a1]) (rest := []) ⟨hx, hb, hml, hown, hts⟩ (c_X6_needPlayer l hlT D h0 r s.heap.size a1) (cwV 1 hts gX6_difference_X6_needPlayer rfl rfl rfl (by decide +kernel) ⟨Nat.le_of_ble_eq_true rfl, Nat.le_of_ble_eq_true rfl⟩) ⟨fun a U g mk q => ⟨q.1, PX6.blind q.2⟩, va_recv hK hP (ci := 12) (q0 := 0) rfl rfl, fun U hU hW => ⟨rfl, PX6.go hP hK hT hS hA hU hW⟩⟩ rfl rfl hl.1 rfl (lv_room (Nat.le_of_ble_eq_true rfl)) dX6_difference_2 ⟨Nat.le_of_ble_eq_true rfl, Nat.le_of_ble_eq_true rfl⟩) hS (fun q _ h => h) (fun q h => h) (fun q _ h => h) (fun E ce q9 u t H1 locs1 ht hvm hpx hB hz hk9 hS hcell hv hcl => ?_) (fun u t H1 locs1 ht hvm hw hB hz1 hk1 hS => hw.elim)
  have hE : E = "java/lang/IndexOutOfBoundsException" := hB
  subst hE
  exact vx_out (fun x h => (hne x h).elim) hlocks hcell hv hcl (fun t ht hvm => ⟨(), trivial, rfl, hS.F ht⟩) hS.2.2 (by decide) (by decide)
set_option maxHeartbeats 4000000 in
set_option maxRecDepth 100000 in
theorem c_X6_index (l : Launch) (hlT : l.stackTraces = false) (D : va_G) (h0 : Nat) (r : Nat → Nat) (sz : Nat) (a1 : Int32) : vx_Met l yX6_index wsX6_index ({ frames := 40, cells := 1, slots := 6, locals := 400 }) (va_Pc [.ref h0, .int a1] (PX6 D h0 r sz)) (va_Qi (fun (_ : Int32) (_ : Unit) => False) (fun _ _ => True) (rg0 sz)) (tX (fun E => E = "java/lang/IndexOutOfBoundsException") (rg0 sz)) 1 6 (rg0 sz) := by
  refine vx_ofW (cc := cX6_index) (maxL := 2) (ret := (some .int)) (by decide +kernel) rfl ?_
  intro p e s m args below meth c s₁ B hml hne hv
  obtain ⟨rfl, hsz, hP, hK, hT⟩ := hv
  have hx := B.exec
  have hb := B.bytes
  have hr := B.returns
  have hts := atoms_spec (ws := wsX6_index) B.pre
  have hown : s.vm.findClass RX6 = some m.cls := findClass_of_methodNamed B.named
  have hlocks := B.notSynchronized
  subst hsz
  have hA : ∀ q : Nat, s.heap.size ≤ q → rg0 s.heap.size q := fun _ h => h
  have hS : va_S (rg0 s.heap.size) s.heap s.heap [] := va_S.rf
  have hl := lv_entry ([.ref h0, .int a1]) (n := 2) (Nat.le_of_ble_eq_true rfl)
  rw [lg_entry_eq]
  generalize (lg_sl ([.ref h0, .int a1]) ++ List.replicate (2 - (lg_sl ([.ref h0, .int a1])).length) Slot.unset).toArray = ls at hl ⊢
  have hl : lv_has ls 2 [(0, .ref h0), (1, .int a1)] := hl
  refine lv_aload_n hx hb dX6_index_0 rfl (lv_at hl 0 rfl) ?_
  refine lv_iload_n hx hb dX6_index_1 rfl (lv_at hl 1 rfl) ?_
  refine vx_callv (vx_runV (As := [.int a1]) (rest := []) ⟨hx, hb, hml, hown, hts⟩ (c_X6_needPlayer l hlT D h0 r s.heap.size a1) (cwV 1 hts gX6_index_X6_needPlayer rfl rfl rfl (by decide +kernel) ⟨Nat.le_of_ble_eq_true rfl, Nat.le_of_ble_eq_true rfl⟩) ⟨fun a U g mk q => ⟨q.1, PX6.blind q.2⟩, va_recv hK hP (ci := 12) (q0 := 0) rfl rfl, fun U hU hW => ⟨rfl, PX6.go hP hK hT hS hA hU hW⟩⟩ rfl rfl hl.1 rfl (lv_room (Nat.le_of_ble_eq_true rfl)) dX6_index_2 ⟨Nat.le_of_ble_eq_true rfl, Nat.le_of_ble_eq_true rfl⟩) hS (fun q _ h => h) (fun q h => h) (fun q _ h => h) (fun E ce q9 u t H1 locs1 ht hvm hpx hB hz hk9 hS hcell hv hcl => ?_) (fun u t H1 locs1 ht hvm hw hB hz1 hk1 hS => hw.elim)
  have hE : E = "java/lang/IndexOutOfBoundsException" := hB
  subst hE
  exact vx_out (fun x h => (hne x h).elim) hlocks hcell hv hcl (fun t ht hvm => ⟨(), trivial, rfl, hS.F ht⟩) hS.2.2 (by decide) (by decide)
set_option maxHeartbeats 4000000 in
set_option maxRecDepth 100000 in
theorem c_X6_lowIndex (l : Launch) (hlT : l.stackTraces = false) (D : va_G) (h0 : Nat) (r : Nat → Nat) (sz : Nat) (a1 : Int32) : vx_Met l yX6_lowIndex wsX6_lowIndex ({ frames := 40, cells := 1, slots := 6, locals := 400 }) (va_Pc [.ref h0, .int a1] (PX6 D h0 r sz)) (va_Qi (fun (_ : Int32) (_ : Unit) => False) (fun _ _ => True) (rg0 sz)) (tX (fun E => E = "java/lang/IndexOutOfBoundsException") (rg0 sz)) 1 6 (rg0 sz) := by
  refine vx_ofW (cc := cX6_lowIndex) (maxL := 2) (ret := (some .int)) (by decide +kernel) rfl ?_
  intro p e s m args below meth c s₁ B hml hne hv
  obtain ⟨rfl, hsz, hP, hK, hT⟩ := hv
  have hx := B.exec
  have hb := B.bytes
  have hr := B.returns
  have hts := atoms_spec (ws := wsX6_lowIndex) B.pre
  have hown : s.vm.findClass RX6 = some m.cls := findClass_of_methodNamed B.named
  have hlocks := B.notSynchronized
  subst hsz
  have hA : ∀ q : Nat, s.heap.size ≤ q → rg0 s.heap.size q := fun _ h => h
  have hS : va_S (rg0 s.heap.size) s.heap s.heap [] := va_S.rf
  have hl := lv_entry ([.ref h0, .int a1]) (n := 2) (Nat.le_of_ble_eq_true rfl)
  rw [lg_entry_eq]
  generalize (lg_sl ([.ref h0, .int a1]) ++ List.replicate (2 - (lg_sl ([.ref h0, .int a1])).length) Slot.unset).toArray = ls at hl ⊢
  have hl : lv_has ls 2 [(0, .ref h0), (1, .int a1)] := hl
  refine lv_aload_n hx hb dX6_lowIndex_0 rfl (lv_at hl 0 rfl) ?_
  refine lv_iload_n hx hb dX6_lowIndex_1 rfl (lv_at hl 1 rfl) ?_
  refine vx_callv (vx_runV (As := [.int a1]) (rest := []) ⟨hx, hb, hml, hown, hts⟩ (c_X6_needPlayer l hlT D h0 r s.heap.size a1) (cwV 1 hts gX6_lowIndex_X6_needPlayer rfl rfl rfl (by decide +kernel) ⟨Nat.le_of_ble_eq_true rfl, Nat.le_of_ble_eq_true rfl⟩) ⟨fun a U g mk q => ⟨q.1, PX6.blind q.2⟩, va_recv hK hP (ci := 12) (q0 := 0) rfl rfl, fun U hU hW => ⟨rfl, PX6.go hP hK hT hS hA hU hW⟩⟩ rfl rfl hl.1 rfl (lv_room (Nat.le_of_ble_eq_true rfl)) dX6_lowIndex_2 ⟨Nat.le_of_ble_eq_true rfl, Nat.le_of_ble_eq_true rfl⟩) hS (fun q _ h => h) (fun q h => h) (fun q _ h => h) (fun E ce q9 u t H1 locs1 ht hvm hpx hB hz hk9 hS hcell hv hcl => ?_) (fun u t H1 locs1 ht hvm hw hB hz1 hk1 hS => hw.elim)
  have hE : E = "java/lang/IndexOutOfBoundsException" := hB
  subst hE
  exact vx_out (fun x h => (hne x h).elim) hlocks hcell hv hcl (fun t ht hvm => ⟨(), trivial, rfl, hS.F ht⟩) hS.2.2 (by decide) (by decide)
set_option maxHeartbeats 4000000 in
set_option maxRecDepth 100000 in
theorem c_X6_penaltyShare (l : Launch) (hlT : l.stackTraces = false) (D : va_G) (h0 : Nat) (r : Nat → Nat) (sz : Nat) (a1 : Int32) : vx_Met l yX6_penaltyShare wsX6_penaltyShare ({ frames := 40, cells := 1, slots := 6, locals := 400 }) (va_Pc [.ref h0, .int a1] (PX6 D h0 r sz)) (va_Qf (fun (_ : UInt32) (_ : Unit) => False) (fun _ _ => True) (rg0 sz)) (tX (fun E => E = "java/lang/IndexOutOfBoundsException") (rg0 sz)) 1 6 (rg0 sz) := by
  refine vx_ofW (cc := cX6_penaltyShare) (maxL := 6) (ret := (some .float)) (by decide +kernel) rfl ?_
  intro p e s m args below meth c s₁ B hml hne hv
  obtain ⟨rfl, hsz, hP, hK, hT⟩ := hv
  have hx := B.exec
  have hb := B.bytes
  have hr := B.returns
  have hts := atoms_spec (ws := wsX6_penaltyShare) B.pre
  have hown : s.vm.findClass RX6 = some m.cls := findClass_of_methodNamed B.named
  have hlocks := B.notSynchronized
  subst hsz
  have hA : ∀ q : Nat, s.heap.size ≤ q → rg0 s.heap.size q := fun _ h => h
  have hS : va_S (rg0 s.heap.size) s.heap s.heap [] := va_S.rf
  have hl := lv_entry ([.ref h0, .int a1]) (n := 6) (Nat.le_of_ble_eq_true rfl)
  rw [lg_entry_eq]
  generalize (lg_sl ([.ref h0, .int a1]) ++ List.replicate (6 - (lg_sl ([.ref h0, .int a1])).length) Slot.unset).toArray = ls at hl ⊢
  have hl : lv_has ls 6 [(0, .ref h0), (1, .int a1)] := hl
  refine lv_aload_n hx hb dX6_penaltyShare_0 rfl (lv_at hl 0 rfl) ?_
  refine lv_iload_n hx hb dX6_penaltyShare_1 rfl (lv_at hl 1 rfl) ?_
  refine vx_callv (vx_runV (As := [.int a1]) (rest := []) ⟨hx, hb, hml, hown, hts⟩ (c_X6_needPlayer l hlT D h0 r s.heap.size a1) (cwV 1 hts gX6_penaltyShare_X6_needPlayer rfl rfl rfl (by decide +kernel) ⟨Nat.le_of_ble_eq_true rfl, Nat.le_of_ble_eq_true rfl⟩) ⟨fun a U g mk q => ⟨q.1, PX6.blind q.2⟩, va_recv hK hP (ci := 12) (q0 := 0) rfl rfl, fun U hU hW => ⟨rfl, PX6.go hP hK hT hS hA hU hW⟩⟩ rfl rfl hl.1 rfl (lv_room (Nat.le_of_ble_eq_true rfl)) dX6_penaltyShare_2 ⟨Nat.le_of_ble_eq_true rfl, Nat.le_of_ble_eq_true rfl⟩) hS (fun q _ h => h) (fun q h => h) (fun q _ h => h) (fun E ce q9 u t H1 locs1 ht hvm hpx hB hz hk9 hS hcell hv hcl => ?_) (fun u t H1 locs1 ht hvm hw hB hz1 hk1 hS => hw.elim)
  have hE : E = "java/lang/IndexOutOfBoundsException" := hB
  subst hE
  exact vx_out (fun x h => (hne x h).elim) hlocks hcell hv hcl (fun t ht hvm => ⟨(), trivial, rfl, hS.F ht⟩) hS.2.2 (by decide) (by decide)
set_option maxHeartbeats 4000000 in
set_option maxRecDepth 100000 in
theorem c_X6_meanScore (l : Launch) (hlT : l.stackTraces = false) (D : va_G) (h0 : Nat) (r : Nat → Nat) (sz : Nat) (a1 : Int32) : vx_Met l yX6_meanScore wsX6_meanScore ({ frames := 40, cells := 1, slots := 6, locals := 400 }) (va_Pc [.ref h0, .int a1] (PX6 D h0 r sz)) (va_Qd (fun (_ : UInt64) (_ : Unit) => False) (fun _ _ => True) (rg0 sz)) (tX (fun E => E = "java/lang/IndexOutOfBoundsException") (rg0 sz)) 1 6 (rg0 sz) := by
  refine vx_ofW (cc := cX6_meanScore) (maxL := 6) (ret := (some .double)) (by decide +kernel) rfl ?_
  intro p e s m args below meth c s₁ B hml hne hv
  obtain ⟨rfl, hsz, hP, hK, hT⟩ := hv
  have hx := B.exec
  have hb := B.bytes
  have hr := B.returns
  have hts := atoms_spec (ws := wsX6_meanScore) B.pre
  have hown : s.vm.findClass RX6 = some m.cls := findClass_of_methodNamed B.named
  have hlocks := B.notSynchronized
  subst hsz
  have hA : ∀ q : Nat, s.heap.size ≤ q → rg0 s.heap.size q := fun _ h => h
  have hS : va_S (rg0 s.heap.size) s.heap s.heap [] := va_S.rf
  have hl := lv_entry ([.ref h0, .int a1]) (n := 6) (Nat.le_of_ble_eq_true rfl)
  rw [lg_entry_eq]
  generalize (lg_sl ([.ref h0, .int a1]) ++ List.replicate (6 - (lg_sl ([.ref h0, .int a1])).length) Slot.unset).toArray = ls at hl ⊢
  have hl : lv_has ls 6 [(0, .ref h0), (1, .int a1)] := hl
  refine lv_aload_n hx hb dX6_meanScore_0 rfl (lv_at hl 0 rfl) ?_
  refine lv_iload_n hx hb dX6_meanScore_1 rfl (lv_at hl 1 rfl) ?_
  refine vx_callv (vx_runV (As := [.int a1]) (rest := []) ⟨hx, hb, hml, hown, hts⟩ (c_X6_needHole l hlT D h0 r s.heap.size a1) (cwV 1 hts gX6_meanScore_X6_needHole rfl rfl rfl (by decide +kernel) ⟨Nat.le_of_ble_eq_true rfl, Nat.le_of_ble_eq_true rfl⟩) ⟨fun a U g mk q => ⟨q.1, PX6.blind q.2⟩, va_recv hK hP (ci := 12) (q0 := 0) rfl rfl, fun U hU hW => ⟨rfl, PX6.go hP hK hT hS hA hU hW⟩⟩ rfl rfl hl.1 rfl (lv_room (Nat.le_of_ble_eq_true rfl)) dX6_meanScore_2 ⟨Nat.le_of_ble_eq_true rfl, Nat.le_of_ble_eq_true rfl⟩) hS (fun q _ h => h) (fun q h => h) (fun q _ h => h) (fun E ce q9 u t H1 locs1 ht hvm hpx hB hz hk9 hS hcell hv hcl => ?_) (fun u t H1 locs1 ht hvm hw hB hz1 hk1 hS => hw.elim)
  have hE : E = "java/lang/IndexOutOfBoundsException" := hB
  subst hE
  exact vx_out (fun x h => (hne x h).elim) hlocks hcell hv hcl (fun t ht hvm => ⟨(), trivial, rfl, hS.F ht⟩) hS.2.2 (by decide) (by decide)
