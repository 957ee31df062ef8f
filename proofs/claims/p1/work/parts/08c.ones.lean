set_option maxRecDepth 20000 in
theorem ggX7_area_X7_isKind : GoodIn wsX7_area wsX7_isKind := goodIn_ca (goodIn_r _ [7, 8] (by decide +kernel) (by decide +kernel)) (goodIn_sub (fun _ h => List.mem_cons_of_mem _ (List.mem_append_right _ h)) (by decide +kernel))
set_option maxRecDepth 20000 in
theorem gX7_area_X7_isKind : GoodIn wsX7_area (va_wsS RX7 124 yX7_isKind wsX7_isKind) := goodIn_app (goodIn_of _ (by decide +kernel)) ggX7_area_X7_isKind
set_option maxRecDepth 20000 in
theorem ggX7_area_X7_isCell : GoodIn wsX7_area wsX7_isCell := goodIn_r _ [11, 12, 13, 6, 14] (by decide +kernel) (by decide +kernel)
set_option maxRecDepth 20000 in
theorem gX7_area_X7_isCell : GoodIn wsX7_area (va_wsS RX7 106 yX7_isCell wsX7_isCell) := goodIn_app (goodIn_of _ (by decide +kernel)) ggX7_area_X7_isCell
set_option maxRecDepth 20000 in
theorem ggX7_area_X7_isNoHole : GoodIn wsX7_area wsX7_isNoHole := goodIn_r _ [18, 19, 12, 13, 6, 14, 25, 26, 27, 28, 29, 30, 31, 32, 33, 34, 35, 36, 37, 38, 39, 40, 41, 42, 43, 44, 45, 46, 47, 48, 49, 50, 51, 52, 53, 54, 55] (by decide +kernel) (by decide +kernel)
set_option maxRecDepth 20000 in
theorem gX7_area_X7_isNoHole : GoodIn wsX7_area (wsV RX7 128 RX7 yX7_isNoHole wsX7_isNoHole) := goodIn_app (goodIn_of _ (by decide +kernel)) ggX7_area_X7_isNoHole
set_option maxRecDepth 20000 in
theorem ggX7_area_X7_isThrown : GoodIn wsX7_area wsX7_isThrown := goodIn_r _ [23, 24, 25, 26, 27, 28, 29, 30, 31, 32, 33, 34, 35, 36, 37, 38, 39, 40, 41, 42, 43, 44, 45, 46, 47, 48, 49, 50, 51, 52, 53, 54, 55] (by decide +kernel) (by decide +kernel)
set_option maxRecDepth 20000 in
theorem gX7_area_X7_isThrown : GoodIn wsX7_area (wsV RX7 110 RX7 yX7_isThrown wsX7_isThrown) := goodIn_app (goodIn_of _ (by decide +kernel)) ggX7_area_X7_isThrown
theorem dX7_area_0 : decode cX7_area 0 = .ok (.iload_n 2, 1) := by decide +kernel
theorem dX7_area_1 : decode cX7_area 1 = .ok (.invokestatic 124, 3) := by decide +kernel
theorem dX7_area_4 : decode cX7_area 4 = .ok (.ifCond .eq 39, 3) := by decide +kernel
theorem dX7_area_7 : decode cX7_area 7 = .ok (.iload_n 3, 1) := by decide +kernel
theorem dX7_area_8 : decode cX7_area 8 = .ok (.iload 4, 2) := by decide +kernel
theorem dX7_area_10 : decode cX7_area 10 = .ok (.invokestatic 106, 3) := by decide +kernel
theorem dX7_area_13 : decode cX7_area 13 = .ok (.ifCond .eq 30, 3) := by decide +kernel
theorem dX7_area_16 : decode cX7_area 16 = .ok (.iload 5, 2) := by decide +kernel
theorem dX7_area_18 : decode cX7_area 18 = .ok (.iload 6, 2) := by decide +kernel
theorem dX7_area_20 : decode cX7_area 20 = .ok (.invokestatic 106, 3) := by decide +kernel
theorem dX7_area_23 : decode cX7_area 23 = .ok (.ifCond .eq 20, 3) := by decide +kernel
theorem dX7_area_26 : decode cX7_area 26 = .ok (.iload_n 3, 1) := by decide +kernel
theorem dX7_area_27 : decode cX7_area 27 = .ok (.iload 5, 2) := by decide +kernel
theorem dX7_area_29 : decode cX7_area 29 = .ok (.if_icmp .gt 14, 3) := by decide +kernel
theorem dX7_area_32 : decode cX7_area 32 = .ok (.iload 4, 2) := by decide +kernel
theorem dX7_area_34 : decode cX7_area 34 = .ok (.iload 6, 2) := by decide +kernel
theorem dX7_area_36 : decode cX7_area 36 = .ok (.if_icmp .gt 7, 3) := by decide +kernel
theorem dX7_area_39 : decode cX7_area 39 = .ok (.iconst 1, 1) := by decide +kernel
theorem dX7_area_40 : decode cX7_area 40 = .ok (.goto 4, 3) := by decide +kernel
theorem dX7_area_43 : decode cX7_area 43 = .ok (.iconst 0, 1) := by decide +kernel
theorem dX7_area_44 : decode cX7_area 44 = .ok (.istore 7, 2) := by decide +kernel
theorem dX7_area_46 : decode cX7_area 46 = .ok (.aload_n 0, 1) := by decide +kernel
theorem dX7_area_47 : decode cX7_area 47 = .ok (.aload_n 0, 1) := by decide +kernel
theorem dX7_area_48 : decode cX7_area 48 = .ok (.iload_n 1, 1) := by decide +kernel
theorem dX7_area_49 : decode cX7_area 49 = .ok (.invokevirtual 128, 3) := by decide +kernel
theorem dX7_area_52 : decode cX7_area 52 = .ok (.iconst 1, 1) := by decide +kernel
theorem dX7_area_53 : decode cX7_area 53 = .ok (.invokevirtual 110, 3) := by decide +kernel
theorem dX7_area_56 : decode cX7_area 56 = .ok (.ifCond .ne 55, 3) := by decide +kernel
theorem dX7_area_111 : decode cX7_area 111 = .ok (.iconst 0, 1) := by decide +kernel
theorem dX7_area_112 : decode cX7_area 112 = .ok (.ireturn, 1) := by decide +kernel
set_option maxRecDepth 20000 in
theorem ggX7_kindAt_X7_isNoHole : GoodIn wsX7_kindAt wsX7_isNoHole := goodIn_r _ [6, 7, 8, 9, 5, 10, 19, 20, 21, 22, 23, 24, 25, 26, 27, 28, 29, 30, 31, 32, 33, 34, 35, 36, 37, 38, 39, 40, 41, 42, 43, 44, 45, 46, 47, 48, 49] (by decide +kernel) (by decide +kernel)
set_option maxRecDepth 20000 in
theorem gX7_kindAt_X7_isNoHole : GoodIn wsX7_kindAt (wsV RX7 128 RX7 yX7_isNoHole wsX7_isNoHole) := goodIn_app (goodIn_of _ (by decide +kernel)) ggX7_kindAt_X7_isNoHole
set_option maxRecDepth 20000 in
theorem ggX7_kindAt_X7_isThrown : GoodIn wsX7_kindAt wsX7_isThrown := goodIn_r _ [17, 18, 19, 20, 21, 22, 23, 24, 25, 26, 27, 28, 29, 30, 31, 32, 33, 34, 35, 36, 37, 38, 39, 40, 41, 42, 43, 44, 45, 46, 47, 48, 49] (by decide +kernel) (by decide +kernel)
set_option maxRecDepth 20000 in
theorem gX7_kindAt_X7_isThrown : GoodIn wsX7_kindAt (wsV RX7 110 RX7 yX7_isThrown wsX7_isThrown) := goodIn_app (goodIn_of _ (by decide +kernel)) ggX7_kindAt_X7_isThrown
theorem dX7_kindAt_0 : decode cX7_kindAt 0 = .ok (.aload_n 0, 1) := by decide +kernel
theorem dX7_kindAt_1 : decode cX7_kindAt 1 = .ok (.aload_n 0, 1) := by decide +kernel
theorem dX7_kindAt_2 : decode cX7_kindAt 2 = .ok (.iload_n 1, 1) := by decide +kernel
theorem dX7_kindAt_3 : decode cX7_kindAt 3 = .ok (.invokevirtual 128, 3) := by decide +kernel
theorem dX7_kindAt_6 : decode cX7_kindAt 6 = .ok (.ifCond .ne 11, 3) := by decide +kernel
theorem dX7_kindAt_17 : decode cX7_kindAt 17 = .ok (.iconst 1, 1) := by decide +kernel
theorem dX7_kindAt_18 : decode cX7_kindAt 18 = .ok (.goto 4, 3) := by decide +kernel
theorem dX7_kindAt_22 : decode cX7_kindAt 22 = .ok (.iconst 1, 1) := by decide +kernel
theorem dX7_kindAt_23 : decode cX7_kindAt 23 = .ok (.invokevirtual 110, 3) := by decide +kernel
theorem dX7_kindAt_26 : decode cX7_kindAt 26 = .ok (.ifCond .eq 8, 3) := by decide +kernel
theorem dX7_kindAt_29 : decode cX7_kindAt 29 = .ok (.bipush 32, 2) := by decide +kernel
theorem dX7_kindAt_31 : decode cX7_kindAt 31 = .ok (.goto 16, 3) := by decide +kernel
theorem dX7_kindAt_47 : decode cX7_kindAt 47 = .ok (.ireturn, 1) := by decide +kernel
set_option maxRecDepth 20000 in
theorem ggX7_setHandicap_X7_isNoPlayer : GoodIn wsX7_setHandicap wsX7_isNoPlayer := goodIn_r _ [7, 8, 9, 10, 6, 11, 17, 18, 19, 20, 21, 22, 23, 24, 25, 26, 27, 28, 29, 30, 31, 32, 33, 34, 35, 36, 37, 38, 39, 40, 41, 42, 43, 44, 45, 46, 47] (by decide +kernel) (by decide +kernel)
set_option maxRecDepth 20000 in
theorem gX7_setHandicap_X7_isNoPlayer : GoodIn wsX7_setHandicap (wsV RX7 132 RX7 yX7_isNoPlayer wsX7_isNoPlayer) := goodIn_app (goodIn_of _ (by decide +kernel)) ggX7_setHandicap_X7_isNoPlayer
set_option maxRecDepth 20000 in
theorem ggX7_setHandicap_X7_isThrown : GoodIn wsX7_setHandicap wsX7_isThrown := goodIn_r _ [15, 16, 17, 18, 19, 20, 21, 22, 23, 24, 25, 26, 27, 28, 29, 30, 31, 32, 33, 34, 35, 36, 37, 38, 39, 40, 41, 42, 43, 44, 45, 46, 47] (by decide +kernel) (by decide +kernel)
set_option maxRecDepth 20000 in
theorem gX7_setHandicap_X7_isThrown : GoodIn wsX7_setHandicap (wsV RX7 110 RX7 yX7_isThrown wsX7_isThrown) := goodIn_app (goodIn_of _ (by decide +kernel)) ggX7_setHandicap_X7_isThrown
theorem dX7_setHandicap_0 : decode cX7_setHandicap 0 = .ok (.aload_n 0, 1) := by decide +kernel
theorem dX7_setHandicap_1 : decode cX7_setHandicap 1 = .ok (.aload_n 0, 1) := by decide +kernel
theorem dX7_setHandicap_2 : decode cX7_setHandicap 2 = .ok (.iload_n 1, 1) := by decide +kernel
theorem dX7_setHandicap_3 : decode cX7_setHandicap 3 = .ok (.invokevirtual 132, 3) := by decide +kernel
theorem dX7_setHandicap_6 : decode cX7_setHandicap 6 = .ok (.iconst 1, 1) := by decide +kernel
theorem dX7_setHandicap_7 : decode cX7_setHandicap 7 = .ok (.invokevirtual 110, 3) := by decide +kernel
theorem dX7_setHandicap_10 : decode cX7_setHandicap 10 = .ok (.ifCond .ne 38, 3) := by decide +kernel
theorem dX7_setHandicap_48 : decode cX7_setHandicap 48 = .ok (.iconst 0, 1) := by decide +kernel
theorem dX7_setHandicap_49 : decode cX7_setHandicap 49 = .ok (.ireturn, 1) := by decide +kernel
set_option maxRecDepth 20000 in
theorem ggX7_gets_X7_isNoPlayer : GoodIn wsX7_gets wsX7_isNoPlayer := goodIn_r _ [6, 7, 8, 9, 5, 10, 26, 27, 28, 29, 30, 31, 32, 33, 34, 35, 36, 37, 38, 39, 40, 41, 42, 43, 44, 45, 46, 47, 48, 49, 50, 51, 52, 53, 54, 55, 56] (by decide +kernel) (by decide +kernel)
set_option maxRecDepth 20000 in
theorem gX7_gets_X7_isNoPlayer : GoodIn wsX7_gets (wsV RX7 132 RX7 yX7_isNoPlayer wsX7_isNoPlayer) := goodIn_app (goodIn_of _ (by decide +kernel)) ggX7_gets_X7_isNoPlayer
set_option maxRecDepth 20000 in
theorem ggX7_gets_X7_isThrown : GoodIn wsX7_gets wsX7_isThrown := goodIn_r _ [19, 20, 26, 27, 28, 29, 30, 31, 32, 33, 34, 35, 36, 37, 38, 39, 40, 41, 42, 43, 44, 45, 46, 47, 48, 49, 50, 51, 52, 53, 54, 55, 56] (by decide +kernel) (by decide +kernel)
set_option maxRecDepth 20000 in
theorem gX7_gets_X7_isThrown : GoodIn wsX7_gets (wsV RX7 110 RX7 yX7_isThrown wsX7_isThrown) := goodIn_app (goodIn_of _ (by decide +kernel)) ggX7_gets_X7_isThrown
theorem dX7_gets_0 : decode cX7_gets 0 = .ok (.aload_n 0, 1) := by decide +kernel
theorem dX7_gets_1 : decode cX7_gets 1 = .ok (.aload_n 0, 1) := by decide +kernel
theorem dX7_gets_2 : decode cX7_gets 2 = .ok (.iload_n 1, 1) := by decide +kernel
theorem dX7_gets_3 : decode cX7_gets 3 = .ok (.invokevirtual 132, 3) := by decide +kernel
theorem dX7_gets_6 : decode cX7_gets 6 = .ok (.ifCond .ne 11, 3) := by decide +kernel
theorem dX7_gets_17 : decode cX7_gets 17 = .ok (.iconst 1, 1) := by decide +kernel
theorem dX7_gets_18 : decode cX7_gets 18 = .ok (.goto 4, 3) := by decide +kernel
theorem dX7_gets_22 : decode cX7_gets 22 = .ok (.iconst 1, 1) := by decide +kernel
theorem dX7_gets_23 : decode cX7_gets 23 = .ok (.invokevirtual 110, 3) := by decide +kernel
theorem dX7_gets_26 : decode cX7_gets 26 = .ok (.ifCond .eq 7, 3) := by decide +kernel
theorem dX7_gets_29 : decode cX7_gets 29 = .ok (.iconst 0, 1) := by decide +kernel
theorem dX7_gets_30 : decode cX7_gets 30 = .ok (.goto 14, 3) := by decide +kernel
theorem dX7_gets_44 : decode cX7_gets 44 = .ok (.ireturn, 1) := by decide +kernel
set_option maxRecDepth 20000 in
theorem ggX7_holeOn_X7_isThrown : GoodIn wsX7_holeOn wsX7_isThrown := goodIn_r _ [7, 8, 9, 10, 11, 12, 13, 14, 15, 16, 17, 18, 19, 20, 21, 22, 23, 24, 25, 26, 27, 28, 29, 30, 31, 32, 33, 34, 35, 36, 37, 38, 39] (by decide +kernel) (by decide +kernel)
set_option maxRecDepth 20000 in
theorem gX7_holeOn_X7_isThrown : GoodIn wsX7_holeOn (wsV RX7 110 RX7 yX7_isThrown wsX7_isThrown) := goodIn_app (goodIn_of _ (by decide +kernel)) ggX7_holeOn_X7_isThrown
theorem dX7_holeOn_0 : decode cX7_holeOn 0 = .ok (.aload_n 0, 1) := by decide +kernel
theorem dX7_holeOn_1 : decode cX7_holeOn 1 = .ok (.aload_n 0, 1) := by decide +kernel
theorem dX7_holeOn_2 : decode cX7_holeOn 2 = .ok (.getfield 135, 3) := by decide +kernel
theorem dX7_holeOn_5 : decode cX7_holeOn 5 = .ok (.ifCond .ne 7, 3) := by decide +kernel
theorem dX7_holeOn_8 : decode cX7_holeOn 8 = .ok (.iconst 1, 1) := by decide +kernel
theorem dX7_holeOn_9 : decode cX7_holeOn 9 = .ok (.goto 4, 3) := by decide +kernel
theorem dX7_holeOn_13 : decode cX7_holeOn 13 = .ok (.iconst 1, 1) := by decide +kernel
theorem dX7_holeOn_14 : decode cX7_holeOn 14 = .ok (.invokevirtual 110, 3) := by decide +kernel
theorem dX7_holeOn_17 : decode cX7_holeOn 17 = .ok (.ifCond .eq 7, 3) := by decide +kernel
theorem dX7_holeOn_20 : decode cX7_holeOn 20 = .ok (.iconst 0, 1) := by decide +kernel
theorem dX7_holeOn_21 : decode cX7_holeOn 21 = .ok (.goto 7, 3) := by decide +kernel
theorem dX7_holeOn_28 : decode cX7_holeOn 28 = .ok (.ireturn, 1) := by decide +kernel
set_option maxRecDepth 20000 in
theorem ggX7_away_X7_isThrown : GoodIn wsX7_away wsX7_isThrown := goodIn_r _ [6, 7, 40, 41, 42, 43, 44, 45, 46, 47, 48, 49, 50, 51, 52, 53, 54, 55, 56, 57, 58, 59, 60, 61, 62, 63, 64, 65, 66, 67, 68, 69, 70] (by decide +kernel) (by decide +kernel)
set_option maxRecDepth 20000 in
theorem gX7_away_X7_isThrown : GoodIn wsX7_away (wsV RX7 110 RX7 yX7_isThrown wsX7_isThrown) := goodIn_app (goodIn_of _ (by decide +kernel)) ggX7_away_X7_isThrown
theorem dX7_away_0 : decode cX7_away 0 = .ok (.aload_n 0, 1) := by decide +kernel
theorem dX7_away_1 : decode cX7_away 1 = .ok (.aload_n 0, 1) := by decide +kernel
theorem dX7_away_2 : decode cX7_away 2 = .ok (.getfield 135, 3) := by decide +kernel
theorem dX7_away_5 : decode cX7_away 5 = .ok (.ifCond .ne 7, 3) := by decide +kernel
theorem dX7_away_8 : decode cX7_away 8 = .ok (.iconst 1, 1) := by decide +kernel
theorem dX7_away_9 : decode cX7_away 9 = .ok (.goto 4, 3) := by decide +kernel
theorem dX7_away_13 : decode cX7_away 13 = .ok (.iconst 1, 1) := by decide +kernel
theorem dX7_away_14 : decode cX7_away 14 = .ok (.invokevirtual 110, 3) := by decide +kernel
theorem dX7_away_17 : decode cX7_away 17 = .ok (.ifCond .ne 23, 3) := by decide +kernel
theorem dX7_away_40 : decode cX7_away 40 = .ok (.iconst 0, 1) := by decide +kernel
theorem dX7_away_41 : decode cX7_away 41 = .ok (.goto 7, 3) := by decide +kernel
theorem dX7_away_48 : decode cX7_away 48 = .ok (.ireturn, 1) := by decide +kernel
set_option maxRecDepth 20000 in
theorem ggX7_stroke_X7_isNoPlayer : GoodIn wsX7_stroke wsX7_isNoPlayer := goodIn_r _ [15, 16, 17, 18, 14, 19, 89, 90, 91, 92, 93, 94, 95, 96, 97, 98, 99, 100, 101, 102, 103, 104, 105, 106, 107, 108, 109, 110, 111, 112, 113, 114, 115, 116, 117, 118, 119] (by decide +kernel) (by decide +kernel)
set_option maxRecDepth 20000 in
theorem gX7_stroke_X7_isNoPlayer : GoodIn wsX7_stroke (wsV RX7 132 RX7 yX7_isNoPlayer wsX7_isNoPlayer) := goodIn_app (goodIn_of _ (by decide +kernel)) ggX7_stroke_X7_isNoPlayer
set_option maxRecDepth 20000 in
theorem ggX7_stroke_X7_isThrown : GoodIn wsX7_stroke wsX7_isThrown := goodIn_r _ [26, 27, 89, 90, 91, 92, 93, 94, 95, 96, 97, 98, 99, 100, 101, 102, 103, 104, 105, 106, 107, 108, 109, 110, 111, 112, 113, 114, 115, 116, 117, 118, 119] (by decide +kernel) (by decide +kernel)
set_option maxRecDepth 20000 in
theorem gX7_stroke_X7_isThrown : GoodIn wsX7_stroke (wsV RX7 110 RX7 yX7_isThrown wsX7_isThrown) := goodIn_app (goodIn_of _ (by decide +kernel)) ggX7_stroke_X7_isThrown
theorem dX7_stroke_0 : decode cX7_stroke 0 = .ok (.aload_n 0, 1) := by decide +kernel
theorem dX7_stroke_1 : decode cX7_stroke 1 = .ok (.aload_n 0, 1) := by decide +kernel
theorem dX7_stroke_2 : decode cX7_stroke 2 = .ok (.iload_n 1, 1) := by decide +kernel
theorem dX7_stroke_3 : decode cX7_stroke 3 = .ok (.invokevirtual 132, 3) := by decide +kernel
theorem dX7_stroke_6 : decode cX7_stroke 6 = .ok (.ifCond .ne 11, 3) := by decide +kernel
theorem dX7_stroke_17 : decode cX7_stroke 17 = .ok (.iconst 1, 1) := by decide +kernel
theorem dX7_stroke_18 : decode cX7_stroke 18 = .ok (.goto 4, 3) := by decide +kernel
theorem dX7_stroke_22 : decode cX7_stroke 22 = .ok (.iconst 1, 1) := by decide +kernel
theorem dX7_stroke_23 : decode cX7_stroke 23 = .ok (.invokevirtual 110, 3) := by decide +kernel
theorem dX7_stroke_26 : decode cX7_stroke 26 = .ok (.ifCond .ne 50, 3) := by decide +kernel
theorem dX7_stroke_76 : decode cX7_stroke 76 = .ok (.bipush 32, 2) := by decide +kernel
theorem dX7_stroke_78 : decode cX7_stroke 78 = .ok (.ireturn, 1) := by decide +kernel
set_option maxRecDepth 20000 in
theorem ggX7_odds_X7_isNoPlayer : GoodIn wsX7_odds wsX7_isNoPlayer := goodIn_r _ [7, 8, 9, 10, 6, 11, 61, 62, 63, 64, 65, 66, 67, 68, 69, 70, 71, 72, 73, 74, 75, 76, 77, 78, 79, 80, 81, 82, 83, 84, 85, 86, 87, 88, 89, 90, 91] (by decide +kernel) (by decide +kernel)
set_option maxRecDepth 20000 in
theorem gX7_odds_X7_isNoPlayer : GoodIn wsX7_odds (wsV RX7 132 RX7 yX7_isNoPlayer wsX7_isNoPlayer) := goodIn_app (goodIn_of _ (by decide +kernel)) ggX7_odds_X7_isNoPlayer
set_option maxRecDepth 20000 in
theorem ggX7_odds_X7_isThrown : GoodIn wsX7_odds wsX7_isThrown := goodIn_r _ [18, 19, 61, 62, 63, 64, 65, 66, 67, 68, 69, 70, 71, 72, 73, 74, 75, 76, 77, 78, 79, 80, 81, 82, 83, 84, 85, 86, 87, 88, 89, 90, 91] (by decide +kernel) (by decide +kernel)
set_option maxRecDepth 20000 in
theorem gX7_odds_X7_isThrown : GoodIn wsX7_odds (wsV RX7 110 RX7 yX7_isThrown wsX7_isThrown) := goodIn_app (goodIn_of _ (by decide +kernel)) ggX7_odds_X7_isThrown
theorem dX7_odds_0 : decode cX7_odds 0 = .ok (.aload_n 0, 1) := by decide +kernel
theorem dX7_odds_1 : decode cX7_odds 1 = .ok (.aload_n 0, 1) := by decide +kernel
theorem dX7_odds_2 : decode cX7_odds 2 = .ok (.iload_n 1, 1) := by decide +kernel
theorem dX7_odds_3 : decode cX7_odds 3 = .ok (.invokevirtual 132, 3) := by decide +kernel
theorem dX7_odds_6 : decode cX7_odds 6 = .ok (.ifCond .ne 11, 3) := by decide +kernel
theorem dX7_odds_17 : decode cX7_odds 17 = .ok (.iconst 1, 1) := by decide +kernel
theorem dX7_odds_18 : decode cX7_odds 18 = .ok (.goto 4, 3) := by decide +kernel
theorem dX7_odds_22 : decode cX7_odds 22 = .ok (.iconst 1, 1) := by decide +kernel
theorem dX7_odds_23 : decode cX7_odds 23 = .ok (.invokevirtual 110, 3) := by decide +kernel
theorem dX7_odds_26 : decode cX7_odds 26 = .ok (.ifCond .ne 64, 3) := by decide +kernel
theorem dX7_odds_90 : decode cX7_odds 90 = .ok (.iconst 0, 1) := by decide +kernel
theorem dX7_odds_91 : decode cX7_odds 91 = .ok (.ireturn, 1) := by decide +kernel
set_option maxRecDepth 20000 in
theorem ggX7_provisional_X7_isNoPlayer : GoodIn wsX7_provisional wsX7_isNoPlayer := goodIn_r _ [9, 10, 11, 12, 8, 13, 66, 67, 68, 69, 70, 71, 72, 73, 74, 75, 76, 77, 78, 79, 80, 81, 82, 83, 84, 85, 86, 87, 88, 89, 90, 91, 92, 93, 94, 95, 96] (by decide +kernel) (by decide +kernel)
set_option maxRecDepth 20000 in
theorem gX7_provisional_X7_isNoPlayer : GoodIn wsX7_provisional (wsV RX7 132 RX7 yX7_isNoPlayer wsX7_isNoPlayer) := goodIn_app (goodIn_of _ (by decide +kernel)) ggX7_provisional_X7_isNoPlayer
set_option maxRecDepth 20000 in
theorem ggX7_provisional_X7_isThrown : GoodIn wsX7_provisional wsX7_isThrown := goodIn_r _ [20, 21, 66, 67, 68, 69, 70, 71, 72, 73, 74, 75, 76, 77, 78, 79, 80, 81, 82, 83, 84, 85, 86, 87, 88, 89, 90, 91, 92, 93, 94, 95, 96] (by decide +kernel) (by decide +kernel)
set_option maxRecDepth 20000 in
theorem gX7_provisional_X7_isThrown : GoodIn wsX7_provisional (wsV RX7 110 RX7 yX7_isThrown wsX7_isThrown) := goodIn_app (goodIn_of _ (by decide +kernel)) ggX7_provisional_X7_isThrown
theorem dX7_provisional_0 : decode cX7_provisional 0 = .ok (.aload_n 0, 1) := by decide +kernel
theorem dX7_provisional_1 : decode cX7_provisional 1 = .ok (.aload_n 0, 1) := by decide +kernel
theorem dX7_provisional_2 : decode cX7_provisional 2 = .ok (.iload_n 1, 1) := by decide +kernel
theorem dX7_provisional_3 : decode cX7_provisional 3 = .ok (.invokevirtual 132, 3) := by decide +kernel
theorem dX7_provisional_6 : decode cX7_provisional 6 = .ok (.ifCond .ne 11, 3) := by decide +kernel
theorem dX7_provisional_17 : decode cX7_provisional 17 = .ok (.iconst 1, 1) := by decide +kernel
theorem dX7_provisional_18 : decode cX7_provisional 18 = .ok (.goto 4, 3) := by decide +kernel
theorem dX7_provisional_22 : decode cX7_provisional 22 = .ok (.iconst 1, 1) := by decide +kernel
theorem dX7_provisional_23 : decode cX7_provisional 23 = .ok (.invokevirtual 110, 3) := by decide +kernel
theorem dX7_provisional_26 : decode cX7_provisional 26 = .ok (.ifCond .ne 30, 3) := by decide +kernel
theorem dX7_provisional_56 : decode cX7_provisional 56 = .ok (.bipush 32, 2) := by decide +kernel
theorem dX7_provisional_58 : decode cX7_provisional 58 = .ok (.ireturn, 1) := by decide +kernel
set_option maxRecDepth 20000 in
theorem ggX7_search_X7_isNoPlayer : GoodIn wsX7_search wsX7_isNoPlayer := goodIn_r _ [9, 10, 11, 12, 8, 13, 34, 35, 36, 37, 38, 39, 40, 41, 42, 43, 44, 45, 46, 47, 48, 49, 50, 51, 52, 53, 54, 55, 56, 57, 58, 59, 60, 61, 62, 63, 64] (by decide +kernel) (by decide +kernel)
set_option maxRecDepth 20000 in
theorem gX7_search_X7_isNoPlayer : GoodIn wsX7_search (wsV RX7 132 RX7 yX7_isNoPlayer wsX7_isNoPlayer) := goodIn_app (goodIn_of _ (by decide +kernel)) ggX7_search_X7_isNoPlayer
set_option maxRecDepth 20000 in
theorem ggX7_search_X7_isThrown : GoodIn wsX7_search wsX7_isThrown := goodIn_r _ [17, 18, 34, 35, 36, 37, 38, 39, 40, 41, 42, 43, 44, 45, 46, 47, 48, 49, 50, 51, 52, 53, 54, 55, 56, 57, 58, 59, 60, 61, 62, 63, 64] (by decide +kernel) (by decide +kernel)
set_option maxRecDepth 20000 in
theorem gX7_search_X7_isThrown : GoodIn wsX7_search (wsV RX7 110 RX7 yX7_isThrown wsX7_isThrown) := goodIn_app (goodIn_of _ (by decide +kernel)) ggX7_search_X7_isThrown
theorem dX7_search_0 : decode cX7_search 0 = .ok (.aload_n 0, 1) := by decide +kernel
theorem dX7_search_1 : decode cX7_search 1 = .ok (.aload_n 0, 1) := by decide +kernel
theorem dX7_search_2 : decode cX7_search 2 = .ok (.iload_n 1, 1) := by decide +kernel
theorem dX7_search_3 : decode cX7_search 3 = .ok (.invokevirtual 132, 3) := by decide +kernel
theorem dX7_search_6 : decode cX7_search 6 = .ok (.iconst 1, 1) := by decide +kernel
theorem dX7_search_7 : decode cX7_search 7 = .ok (.invokevirtual 110, 3) := by decide +kernel
theorem dX7_search_10 : decode cX7_search 10 = .ok (.ifCond .ne 56, 3) := by decide +kernel
theorem dX7_search_66 : decode cX7_search 66 = .ok (.bipush 32, 2) := by decide +kernel
theorem dX7_search_68 : decode cX7_search 68 = .ok (.ireturn, 1) := by decide +kernel
set_option maxRecDepth 20000 in
theorem ggX7_again_X7_isNoPlayer : GoodIn wsX7_again wsX7_isNoPlayer := goodIn_r _ [8, 9, 10, 11, 7, 12, 21, 22, 23, 24, 25, 26, 27, 28, 29, 30, 31, 32, 33, 34, 35, 36, 37, 38, 39, 40, 41, 42, 43, 44, 45, 46, 47, 48, 49, 50, 51] (by decide +kernel) (by decide +kernel)
set_option maxRecDepth 20000 in
theorem gX7_again_X7_isNoPlayer : GoodIn wsX7_again (wsV RX7 132 RX7 yX7_isNoPlayer wsX7_isNoPlayer) := goodIn_app (goodIn_of _ (by decide +kernel)) ggX7_again_X7_isNoPlayer
set_option maxRecDepth 20000 in
theorem ggX7_again_X7_isThrown : GoodIn wsX7_again wsX7_isThrown := goodIn_r _ [16, 17, 21, 22, 23, 24, 25, 26, 27, 28, 29, 30, 31, 32, 33, 34, 35, 36, 37, 38, 39, 40, 41, 42, 43, 44, 45, 46, 47, 48, 49, 50, 51] (by decide +kernel) (by decide +kernel)
set_option maxRecDepth 20000 in
theorem gX7_again_X7_isThrown : GoodIn wsX7_again (wsV RX7 110 RX7 yX7_isThrown wsX7_isThrown) := goodIn_app (goodIn_of _ (by decide +kernel)) ggX7_again_X7_isThrown
theorem dX7_again_0 : decode cX7_again 0 = .ok (.aload_n 0, 1) := by decide +kernel
theorem dX7_again_1 : decode cX7_again 1 = .ok (.aload_n 0, 1) := by decide +kernel
theorem dX7_again_2 : decode cX7_again 2 = .ok (.iload_n 1, 1) := by decide +kernel
theorem dX7_again_3 : decode cX7_again 3 = .ok (.invokevirtual 132, 3) := by decide +kernel
theorem dX7_again_6 : decode cX7_again 6 = .ok (.iconst 1, 1) := by decide +kernel
theorem dX7_again_7 : decode cX7_again 7 = .ok (.invokevirtual 110, 3) := by decide +kernel
theorem dX7_again_10 : decode cX7_again 10 = .ok (.ifCond .ne 23, 3) := by decide +kernel
theorem dX7_again_33 : decode cX7_again 33 = .ok (.iconst 0, 1) := by decide +kernel
theorem dX7_again_34 : decode cX7_again 34 = .ok (.ireturn, 1) := by decide +kernel
set_option maxRecDepth 20000 in
theorem ggX7_line_X7_isNoPlayer : GoodIn wsX7_line wsX7_isNoPlayer := goodIn_r _ [11, 12, 13, 14, 10, 15, 62, 63, 64, 65, 66, 67, 68, 69, 70, 71, 72, 73, 74, 75, 76, 77, 78, 79, 80, 81, 82, 83, 84, 85, 86, 87, 88, 89, 90, 91, 92] (by decide +kernel) (by decide +kernel)
set_option maxRecDepth 20000 in
theorem gX7_line_X7_isNoPlayer : GoodIn wsX7_line (wsV RX7 132 RX7 yX7_isNoPlayer wsX7_isNoPlayer) := goodIn_app (goodIn_of _ (by decide +kernel)) ggX7_line_X7_isNoPlayer
set_option maxRecDepth 20000 in
theorem ggX7_line_X7_isThrown : GoodIn wsX7_line wsX7_isThrown := goodIn_r _ [19, 20, 62, 63, 64, 65, 66, 67, 68, 69, 70, 71, 72, 73, 74, 75, 76, 77, 78, 79, 80, 81, 82, 83, 84, 85, 86, 87, 88, 89, 90, 91, 92] (by decide +kernel) (by decide +kernel)
set_option maxRecDepth 20000 in
theorem gX7_line_X7_isThrown : GoodIn wsX7_line (wsV RX7 110 RX7 yX7_isThrown wsX7_isThrown) := goodIn_app (goodIn_of _ (by decide +kernel)) ggX7_line_X7_isThrown
theorem dX7_line_0 : decode cX7_line 0 = .ok (.aload_n 0, 1) := by decide +kernel
theorem dX7_line_1 : decode cX7_line 1 = .ok (.aload_n 0, 1) := by decide +kernel
theorem dX7_line_2 : decode cX7_line 2 = .ok (.iload_n 1, 1) := by decide +kernel
theorem dX7_line_3 : decode cX7_line 3 = .ok (.invokevirtual 132, 3) := by decide +kernel
theorem dX7_line_6 : decode cX7_line 6 = .ok (.iconst 1, 1) := by decide +kernel
theorem dX7_line_7 : decode cX7_line 7 = .ok (.invokevirtual 110, 3) := by decide +kernel
theorem dX7_line_10 : decode cX7_line 10 = .ok (.ifCond .ne 72, 3) := by decide +kernel
theorem dX7_line_82 : decode cX7_line 82 = .ok (.iconst 0, 1) := by decide +kernel
theorem dX7_line_83 : decode cX7_line 83 = .ok (.ireturn, 1) := by decide +kernel
set_option maxRecDepth 20000 in
theorem ggX7_aside_X7_isNoPlayer : GoodIn wsX7_aside wsX7_isNoPlayer := goodIn_r _ [7, 8, 9, 10, 6, 11, 62, 63, 64, 65, 66, 67, 68, 69, 70, 71, 72, 73, 74, 75, 76, 77, 78, 79, 80, 81, 82, 83, 84, 85, 86, 87, 88, 89, 90, 91, 92] (by decide +kernel) (by decide +kernel)
set_option maxRecDepth 20000 in
theorem gX7_aside_X7_isNoPlayer : GoodIn wsX7_aside (wsV RX7 132 RX7 yX7_isNoPlayer wsX7_isNoPlayer) := goodIn_app (goodIn_of _ (by decide +kernel)) ggX7_aside_X7_isNoPlayer
set_option maxRecDepth 20000 in
theorem ggX7_aside_X7_isThrown : GoodIn wsX7_aside wsX7_isThrown := goodIn_r _ [18, 19, 62, 63, 64, 65, 66, 67, 68, 69, 70, 71, 72, 73, 74, 75, 76, 77, 78, 79, 80, 81, 82, 83, 84, 85, 86, 87, 88, 89, 90, 91, 92] (by decide +kernel) (by decide +kernel)
set_option maxRecDepth 20000 in
theorem gX7_aside_X7_isThrown : GoodIn wsX7_aside (wsV RX7 110 RX7 yX7_isThrown wsX7_isThrown) := goodIn_app (goodIn_of _ (by decide +kernel)) ggX7_aside_X7_isThrown
theorem dX7_aside_0 : decode cX7_aside 0 = .ok (.aload_n 0, 1) := by decide +kernel
theorem dX7_aside_1 : decode cX7_aside 1 = .ok (.aload_n 0, 1) := by decide +kernel
theorem dX7_aside_2 : decode cX7_aside 2 = .ok (.iload_n 1, 1) := by decide +kernel
theorem dX7_aside_3 : decode cX7_aside 3 = .ok (.invokevirtual 132, 3) := by decide +kernel
theorem dX7_aside_6 : decode cX7_aside 6 = .ok (.ifCond .ne 11, 3) := by decide +kernel
theorem dX7_aside_17 : decode cX7_aside 17 = .ok (.iconst 1, 1) := by decide +kernel
theorem dX7_aside_18 : decode cX7_aside 18 = .ok (.goto 4, 3) := by decide +kernel
theorem dX7_aside_22 : decode cX7_aside 22 = .ok (.iconst 1, 1) := by decide +kernel
theorem dX7_aside_23 : decode cX7_aside 23 = .ok (.invokevirtual 110, 3) := by decide +kernel
theorem dX7_aside_26 : decode cX7_aside 26 = .ok (.ifCond .ne 49, 3) := by decide +kernel
theorem dX7_aside_75 : decode cX7_aside 75 = .ok (.iconst 0, 1) := by decide +kernel
theorem dX7_aside_76 : decode cX7_aside 76 = .ok (.ireturn, 1) := by decide +kernel
set_option maxRecDepth 20000 in
theorem ggX7_point_X7_isNoPlayer : GoodIn wsX7_point wsX7_isNoPlayer := goodIn_r _ [7, 8, 9, 10, 6, 11, 55, 56, 57, 58, 59, 60, 61, 62, 63, 64, 65, 66, 67, 68, 69, 70, 71, 72, 73, 74, 75, 76, 77, 78, 79, 80, 81, 82, 83, 84, 85] (by decide +kernel) (by decide +kernel)
set_option maxRecDepth 20000 in
theorem gX7_point_X7_isNoPlayer : GoodIn wsX7_point (wsV RX7 132 RX7 yX7_isNoPlayer wsX7_isNoPlayer) := goodIn_app (goodIn_of _ (by decide +kernel)) ggX7_point_X7_isNoPlayer
set_option maxRecDepth 20000 in
theorem ggX7_point_X7_isThrown : GoodIn wsX7_point wsX7_isThrown := goodIn_r _ [15, 16, 55, 56, 57, 58, 59, 60, 61, 62, 63, 64, 65, 66, 67, 68, 69, 70, 71, 72, 73, 74, 75, 76, 77, 78, 79, 80, 81, 82, 83, 84, 85] (by decide +kernel) (by decide +kernel)
set_option maxRecDepth 20000 in
theorem gX7_point_X7_isThrown : GoodIn wsX7_point (wsV RX7 110 RX7 yX7_isThrown wsX7_isThrown) := goodIn_app (goodIn_of _ (by decide +kernel)) ggX7_point_X7_isThrown
theorem dX7_point_0 : decode cX7_point 0 = .ok (.aload_n 0, 1) := by decide +kernel
theorem dX7_point_1 : decode cX7_point 1 = .ok (.aload_n 0, 1) := by decide +kernel
theorem dX7_point_2 : decode cX7_point 2 = .ok (.iload_n 1, 1) := by decide +kernel
theorem dX7_point_3 : decode cX7_point 3 = .ok (.invokevirtual 132, 3) := by decide +kernel
theorem dX7_point_6 : decode cX7_point 6 = .ok (.iconst 1, 1) := by decide +kernel
theorem dX7_point_7 : decode cX7_point 7 = .ok (.invokevirtual 110, 3) := by decide +kernel
theorem dX7_point_10 : decode cX7_point 10 = .ok (.ifCond .ne 49, 3) := by decide +kernel
theorem dX7_point_59 : decode cX7_point 59 = .ok (.iconst 0, 1) := by decide +kernel
theorem dX7_point_60 : decode cX7_point 60 = .ok (.ireturn, 1) := by decide +kernel
set_option maxRecDepth 20000 in
theorem ggX7_free_X7_isNoPlayer : GoodIn wsX7_free wsX7_isNoPlayer := goodIn_r _ [7, 8, 9, 10, 6, 11, 66, 67, 68, 69, 70, 71, 72, 73, 74, 75, 76, 77, 78, 79, 80, 81, 82, 83, 84, 85, 86, 87, 88, 89, 90, 91, 92, 93, 94, 95, 96] (by decide +kernel) (by decide +kernel)
set_option maxRecDepth 20000 in
theorem gX7_free_X7_isNoPlayer : GoodIn wsX7_free (wsV RX7 132 RX7 yX7_isNoPlayer wsX7_isNoPlayer) := goodIn_app (goodIn_of _ (by decide +kernel)) ggX7_free_X7_isNoPlayer
set_option maxRecDepth 20000 in
theorem ggX7_free_X7_isThrown : GoodIn wsX7_free wsX7_isThrown := goodIn_r _ [18, 19, 66, 67, 68, 69, 70, 71, 72, 73, 74, 75, 76, 77, 78, 79, 80, 81, 82, 83, 84, 85, 86, 87, 88, 89, 90, 91, 92, 93, 94, 95, 96] (by decide +kernel) (by decide +kernel)
set_option maxRecDepth 20000 in
theorem gX7_free_X7_isThrown : GoodIn wsX7_free (wsV RX7 110 RX7 yX7_isThrown wsX7_isThrown) := goodIn_app (goodIn_of _ (by decide +kernel)) ggX7_free_X7_isThrown
theorem dX7_free_0 : decode cX7_free 0 = .ok (.aload_n 0, 1) := by decide +kernel
theorem dX7_free_1 : decode cX7_free 1 = .ok (.aload_n 0, 1) := by decide +kernel
theorem dX7_free_2 : decode cX7_free 2 = .ok (.iload_n 1, 1) := by decide +kernel
theorem dX7_free_3 : decode cX7_free 3 = .ok (.invokevirtual 132, 3) := by decide +kernel
theorem dX7_free_6 : decode cX7_free 6 = .ok (.ifCond .ne 11, 3) := by decide +kernel
theorem dX7_free_17 : decode cX7_free 17 = .ok (.iconst 1, 1) := by decide +kernel
theorem dX7_free_18 : decode cX7_free 18 = .ok (.goto 4, 3) := by decide +kernel
theorem dX7_free_22 : decode cX7_free 22 = .ok (.iconst 1, 1) := by decide +kernel
theorem dX7_free_23 : decode cX7_free 23 = .ok (.invokevirtual 110, 3) := by decide +kernel
theorem dX7_free_26 : decode cX7_free 26 = .ok (.ifCond .ne 49, 3) := by decide +kernel
theorem dX7_free_75 : decode cX7_free 75 = .ok (.bipush 32, 2) := by decide +kernel
theorem dX7_free_77 : decode cX7_free 77 = .ok (.ireturn, 1) := by decide +kernel
set_option maxRecDepth 20000 in
theorem ggX7_wrongPlace_X7_isNoPlayer : GoodIn wsX7_wrongPlace wsX7_isNoPlayer := goodIn_r _ [8, 9, 10, 11, 7, 12, 51, 52, 53, 54, 55, 56, 57, 58, 59, 60, 61, 62, 63, 64, 65, 66, 67, 68, 69, 70, 71, 72, 73, 74, 75, 76, 77, 78, 79, 80, 81] (by decide +kernel) (by decide +kernel)
set_option maxRecDepth 20000 in
theorem gX7_wrongPlace_X7_isNoPlayer : GoodIn wsX7_wrongPlace (wsV RX7 132 RX7 yX7_isNoPlayer wsX7_isNoPlayer) := goodIn_app (goodIn_of _ (by decide +kernel)) ggX7_wrongPlace_X7_isNoPlayer
set_option maxRecDepth 20000 in
theorem ggX7_wrongPlace_X7_isThrown : GoodIn wsX7_wrongPlace wsX7_isThrown := goodIn_r _ [19, 20, 51, 52, 53, 54, 55, 56, 57, 58, 59, 60, 61, 62, 63, 64, 65, 66, 67, 68, 69, 70, 71, 72, 73, 74, 75, 76, 77, 78, 79, 80, 81] (by decide +kernel) (by decide +kernel)
set_option maxRecDepth 20000 in
theorem gX7_wrongPlace_X7_isThrown : GoodIn wsX7_wrongPlace (wsV RX7 110 RX7 yX7_isThrown wsX7_isThrown) := goodIn_app (goodIn_of _ (by decide +kernel)) ggX7_wrongPlace_X7_isThrown
theorem dX7_wrongPlace_0 : decode cX7_wrongPlace 0 = .ok (.aload_n 0, 1) := by decide +kernel
theorem dX7_wrongPlace_1 : decode cX7_wrongPlace 1 = .ok (.aload_n 0, 1) := by decide +kernel
theorem dX7_wrongPlace_2 : decode cX7_wrongPlace 2 = .ok (.iload_n 1, 1) := by decide +kernel
theorem dX7_wrongPlace_3 : decode cX7_wrongPlace 3 = .ok (.invokevirtual 132, 3) := by decide +kernel
theorem dX7_wrongPlace_6 : decode cX7_wrongPlace 6 = .ok (.ifCond .ne 11, 3) := by decide +kernel
theorem dX7_wrongPlace_17 : decode cX7_wrongPlace 17 = .ok (.iconst 1, 1) := by decide +kernel
theorem dX7_wrongPlace_18 : decode cX7_wrongPlace 18 = .ok (.goto 4, 3) := by decide +kernel
theorem dX7_wrongPlace_22 : decode cX7_wrongPlace 22 = .ok (.iconst 1, 1) := by decide +kernel
theorem dX7_wrongPlace_23 : decode cX7_wrongPlace 23 = .ok (.invokevirtual 110, 3) := by decide +kernel
theorem dX7_wrongPlace_26 : decode cX7_wrongPlace 26 = .ok (.ifCond .ne 23, 3) := by decide +kernel
theorem dX7_wrongPlace_49 : decode cX7_wrongPlace 49 = .ok (.iconst 0, 1) := by decide +kernel
theorem dX7_wrongPlace_50 : decode cX7_wrongPlace 50 = .ok (.ireturn, 1) := by decide +kernel
set_option maxRecDepth 20000 in
theorem ggX7_correct_X7_isNoPlayer : GoodIn wsX7_correct wsX7_isNoPlayer := goodIn_r _ [8, 9, 10, 11, 7, 12, 21, 22, 23, 24, 25, 26, 27, 28, 29, 30, 31, 32, 33, 34, 35, 36, 37, 38, 39, 40, 41, 42, 43, 44, 45, 46, 47, 48, 49, 50, 51] (by decide +kernel) (by decide +kernel)
set_option maxRecDepth 20000 in
theorem gX7_correct_X7_isNoPlayer : GoodIn wsX7_correct (wsV RX7 132 RX7 yX7_isNoPlayer wsX7_isNoPlayer) := goodIn_app (goodIn_of _ (by decide +kernel)) ggX7_correct_X7_isNoPlayer
set_option maxRecDepth 20000 in
theorem ggX7_correct_X7_isThrown : GoodIn wsX7_correct wsX7_isThrown := goodIn_r _ [16, 17, 21, 22, 23, 24, 25, 26, 27, 28, 29, 30, 31, 32, 33, 34, 35, 36, 37, 38, 39, 40, 41, 42, 43, 44, 45, 46, 47, 48, 49, 50, 51] (by decide +kernel) (by decide +kernel)
set_option maxRecDepth 20000 in
theorem gX7_correct_X7_isThrown : GoodIn wsX7_correct (wsV RX7 110 RX7 yX7_isThrown wsX7_isThrown) := goodIn_app (goodIn_of _ (by decide +kernel)) ggX7_correct_X7_isThrown
theorem dX7_correct_0 : decode cX7_correct 0 = .ok (.aload_n 0, 1) := by decide +kernel
theorem dX7_correct_1 : decode cX7_correct 1 = .ok (.aload_n 0, 1) := by decide +kernel
theorem dX7_correct_2 : decode cX7_correct 2 = .ok (.iload_n 1, 1) := by decide +kernel
theorem dX7_correct_3 : decode cX7_correct 3 = .ok (.invokevirtual 132, 3) := by decide +kernel
theorem dX7_correct_6 : decode cX7_correct 6 = .ok (.iconst 1, 1) := by decide +kernel
theorem dX7_correct_7 : decode cX7_correct 7 = .ok (.invokevirtual 110, 3) := by decide +kernel
theorem dX7_correct_10 : decode cX7_correct 10 = .ok (.ifCond .ne 48, 3) := by decide +kernel
theorem dX7_correct_58 : decode cX7_correct 58 = .ok (.iconst 0, 1) := by decide +kernel
theorem dX7_correct_59 : decode cX7_correct 59 = .ok (.ireturn, 1) := by decide +kernel
set_option maxRecDepth 20000 in
theorem ggX7_move_X7_isNoPlayer : GoodIn wsX7_move wsX7_isNoPlayer := goodIn_r _ [8, 9, 10, 11, 7, 12, 52, 53, 54, 55, 56, 57, 58, 59, 60, 61, 62, 63, 64, 65, 66, 67, 68, 69, 70, 71, 72, 73, 74, 75, 76, 77, 78, 79, 80, 81, 82] (by decide +kernel) (by decide +kernel)
set_option maxRecDepth 20000 in
theorem gX7_move_X7_isNoPlayer : GoodIn wsX7_move (wsV RX7 132 RX7 yX7_isNoPlayer wsX7_isNoPlayer) := goodIn_app (goodIn_of _ (by decide +kernel)) ggX7_move_X7_isNoPlayer
set_option maxRecDepth 20000 in
theorem ggX7_move_X7_isThrown : GoodIn wsX7_move wsX7_isThrown := goodIn_r _ [16, 17, 52, 53, 54, 55, 56, 57, 58, 59, 60, 61, 62, 63, 64, 65, 66, 67, 68, 69, 70, 71, 72, 73, 74, 75, 76, 77, 78, 79, 80, 81, 82] (by decide +kernel) (by decide +kernel)
set_option maxRecDepth 20000 in
theorem gX7_move_X7_isThrown : GoodIn wsX7_move (wsV RX7 110 RX7 yX7_isThrown wsX7_isThrown) := goodIn_app (goodIn_of _ (by decide +kernel)) ggX7_move_X7_isThrown
theorem dX7_move_0 : decode cX7_move 0 = .ok (.iload_n 2, 1) := by decide +kernel
theorem dX7_move_1 : decode cX7_move 1 = .ok (.bipush 112, 2) := by decide +kernel
theorem dX7_move_3 : decode cX7_move 3 = .ok (.if_icmp .eq 21, 3) := by decide +kernel
theorem dX7_move_6 : decode cX7_move 6 = .ok (.iload_n 2, 1) := by decide +kernel
theorem dX7_move_7 : decode cX7_move 7 = .ok (.bipush 101, 2) := by decide +kernel
theorem dX7_move_9 : decode cX7_move 9 = .ok (.if_icmp .eq 15, 3) := by decide +kernel
theorem dX7_move_12 : decode cX7_move 12 = .ok (.iload_n 2, 1) := by decide +kernel
theorem dX7_move_13 : decode cX7_move 13 = .ok (.bipush 107, 2) := by decide +kernel
theorem dX7_move_15 : decode cX7_move 15 = .ok (.if_icmp .eq 9, 3) := by decide +kernel
theorem dX7_move_18 : decode cX7_move 18 = .ok (.iload_n 2, 1) := by decide +kernel
theorem dX7_move_19 : decode cX7_move 19 = .ok (.bipush 119, 2) := by decide +kernel
theorem dX7_move_21 : decode cX7_move 21 = .ok (.if_icmp .ne 7, 3) := by decide +kernel
theorem dX7_move_24 : decode cX7_move 24 = .ok (.iconst 1, 1) := by decide +kernel
theorem dX7_move_25 : decode cX7_move 25 = .ok (.goto 4, 3) := by decide +kernel
theorem dX7_move_28 : decode cX7_move 28 = .ok (.iconst 0, 1) := by decide +kernel
theorem dX7_move_29 : decode cX7_move 29 = .ok (.istore 5, 2) := by decide +kernel
theorem dX7_move_31 : decode cX7_move 31 = .ok (.aload_n 0, 1) := by decide +kernel
theorem dX7_move_32 : decode cX7_move 32 = .ok (.aload_n 0, 1) := by decide +kernel
theorem dX7_move_33 : decode cX7_move 33 = .ok (.iload_n 1, 1) := by decide +kernel
theorem dX7_move_34 : decode cX7_move 34 = .ok (.invokevirtual 132, 3) := by decide +kernel
theorem dX7_move_37 : decode cX7_move 37 = .ok (.iconst 1, 1) := by decide +kernel
theorem dX7_move_38 : decode cX7_move 38 = .ok (.invokevirtual 110, 3) := by decide +kernel
theorem dX7_move_41 : decode cX7_move 41 = .ok (.ifCond .ne 41, 3) := by decide +kernel
theorem dX7_move_82 : decode cX7_move 82 = .ok (.iconst 0, 1) := by decide +kernel
theorem dX7_move_83 : decode cX7_move 83 = .ok (.ireturn, 1) := by decide +kernel
set_option maxRecDepth 20000 in
theorem ggX7_wrongBall_X7_isNoPlayer : GoodIn wsX7_wrongBall wsX7_isNoPlayer := goodIn_r _ [9, 10, 11, 12, 8, 13, 26, 27, 28, 29, 30, 31, 32, 33, 34, 35, 36, 37, 38, 39, 40, 41, 42, 43, 44, 45, 46, 47, 48, 49, 50, 51, 52, 53, 54, 55, 56] (by decide +kernel) (by decide +kernel)
set_option maxRecDepth 20000 in
theorem gX7_wrongBall_X7_isNoPlayer : GoodIn wsX7_wrongBall (wsV RX7 132 RX7 yX7_isNoPlayer wsX7_isNoPlayer) := goodIn_app (goodIn_of _ (by decide +kernel)) ggX7_wrongBall_X7_isNoPlayer
set_option maxRecDepth 20000 in
theorem ggX7_wrongBall_X7_isThrown : GoodIn wsX7_wrongBall wsX7_isThrown := goodIn_r _ [17, 18, 26, 27, 28, 29, 30, 31, 32, 33, 34, 35, 36, 37, 38, 39, 40, 41, 42, 43, 44, 45, 46, 47, 48, 49, 50, 51, 52, 53, 54, 55, 56] (by decide +kernel) (by decide +kernel)
set_option maxRecDepth 20000 in
theorem gX7_wrongBall_X7_isThrown : GoodIn wsX7_wrongBall (wsV RX7 110 RX7 yX7_isThrown wsX7_isThrown) := goodIn_app (goodIn_of _ (by decide +kernel)) ggX7_wrongBall_X7_isThrown
theorem dX7_wrongBall_0 : decode cX7_wrongBall 0 = .ok (.aload_n 0, 1) := by decide +kernel
theorem dX7_wrongBall_1 : decode cX7_wrongBall 1 = .ok (.aload_n 0, 1) := by decide +kernel
theorem dX7_wrongBall_2 : decode cX7_wrongBall 2 = .ok (.iload_n 1, 1) := by decide +kernel
theorem dX7_wrongBall_3 : decode cX7_wrongBall 3 = .ok (.invokevirtual 132, 3) := by decide +kernel
theorem dX7_wrongBall_6 : decode cX7_wrongBall 6 = .ok (.ifCond .ne 11, 3) := by decide +kernel
theorem dX7_wrongBall_17 : decode cX7_wrongBall 17 = .ok (.iconst 1, 1) := by decide +kernel
theorem dX7_wrongBall_18 : decode cX7_wrongBall 18 = .ok (.goto 4, 3) := by decide +kernel
theorem dX7_wrongBall_22 : decode cX7_wrongBall 22 = .ok (.iconst 1, 1) := by decide +kernel
theorem dX7_wrongBall_23 : decode cX7_wrongBall 23 = .ok (.invokevirtual 110, 3) := by decide +kernel
theorem dX7_wrongBall_26 : decode cX7_wrongBall 26 = .ok (.ifCond .ne 67, 3) := by decide +kernel
theorem dX7_wrongBall_93 : decode cX7_wrongBall 93 = .ok (.iconst 0, 1) := by decide +kernel
theorem dX7_wrongBall_94 : decode cX7_wrongBall 94 = .ok (.ireturn, 1) := by decide +kernel
set_option maxRecDepth 20000 in
theorem ggX7_pickUp_X7_isNoPlayer : GoodIn wsX7_pickUp wsX7_isNoPlayer := goodIn_r _ [8, 9, 10, 11, 7, 12, 26, 27, 28, 29, 30, 31, 32, 33, 34, 35, 36, 37, 38, 39, 40, 41, 42, 43, 44, 45, 46, 47, 48, 49, 50, 51, 52, 53, 54, 55, 56] (by decide +kernel) (by decide +kernel)
set_option maxRecDepth 20000 in
theorem gX7_pickUp_X7_isNoPlayer : GoodIn wsX7_pickUp (wsV RX7 132 RX7 yX7_isNoPlayer wsX7_isNoPlayer) := goodIn_app (goodIn_of _ (by decide +kernel)) ggX7_pickUp_X7_isNoPlayer
set_option maxRecDepth 20000 in
theorem ggX7_pickUp_X7_isThrown : GoodIn wsX7_pickUp wsX7_isThrown := goodIn_r _ [16, 17, 26, 27, 28, 29, 30, 31, 32, 33, 34, 35, 36, 37, 38, 39, 40, 41, 42, 43, 44, 45, 46, 47, 48, 49, 50, 51, 52, 53, 54, 55, 56] (by decide +kernel) (by decide +kernel)
set_option maxRecDepth 20000 in
theorem gX7_pickUp_X7_isThrown : GoodIn wsX7_pickUp (wsV RX7 110 RX7 yX7_isThrown wsX7_isThrown) := goodIn_app (goodIn_of _ (by decide +kernel)) ggX7_pickUp_X7_isThrown
theorem dX7_pickUp_0 : decode cX7_pickUp 0 = .ok (.aload_n 0, 1) := by decide +kernel
theorem dX7_pickUp_1 : decode cX7_pickUp 1 = .ok (.aload_n 0, 1) := by decide +kernel
theorem dX7_pickUp_2 : decode cX7_pickUp 2 = .ok (.iload_n 1, 1) := by decide +kernel
theorem dX7_pickUp_3 : decode cX7_pickUp 3 = .ok (.invokevirtual 132, 3) := by decide +kernel
theorem dX7_pickUp_6 : decode cX7_pickUp 6 = .ok (.iconst 1, 1) := by decide +kernel
theorem dX7_pickUp_7 : decode cX7_pickUp 7 = .ok (.invokevirtual 110, 3) := by decide +kernel
theorem dX7_pickUp_10 : decode cX7_pickUp 10 = .ok (.ifCond .ne 36, 3) := by decide +kernel
theorem dX7_pickUp_46 : decode cX7_pickUp 46 = .ok (.iconst 0, 1) := by decide +kernel
theorem dX7_pickUp_47 : decode cX7_pickUp 47 = .ok (.ireturn, 1) := by decide +kernel
set_option maxRecDepth 20000 in
theorem ggX7_suspend_X7_isThrown : GoodIn wsX7_suspend wsX7_isThrown := goodIn_r _ [7, 8, 9, 10, 11, 12, 13, 14, 15, 16, 17, 18, 19, 20, 21, 22, 23, 24, 25, 26, 27, 28, 29, 30, 31, 32, 33, 34, 35, 36, 37, 38, 39] (by decide +kernel) (by decide +kernel)
set_option maxRecDepth 20000 in
theorem gX7_suspend_X7_isThrown : GoodIn wsX7_suspend (wsV RX7 110 RX7 yX7_isThrown wsX7_isThrown) := goodIn_app (goodIn_of _ (by decide +kernel)) ggX7_suspend_X7_isThrown
theorem dX7_suspend_0 : decode cX7_suspend 0 = .ok (.aload_n 0, 1) := by decide +kernel
theorem dX7_suspend_1 : decode cX7_suspend 1 = .ok (.aload_n 0, 1) := by decide +kernel
theorem dX7_suspend_2 : decode cX7_suspend 2 = .ok (.getfield 135, 3) := by decide +kernel
theorem dX7_suspend_5 : decode cX7_suspend 5 = .ok (.ifCond .ne 7, 3) := by decide +kernel
theorem dX7_suspend_8 : decode cX7_suspend 8 = .ok (.iconst 1, 1) := by decide +kernel
theorem dX7_suspend_9 : decode cX7_suspend 9 = .ok (.goto 4, 3) := by decide +kernel
theorem dX7_suspend_13 : decode cX7_suspend 13 = .ok (.iconst 1, 1) := by decide +kernel
theorem dX7_suspend_14 : decode cX7_suspend 14 = .ok (.invokevirtual 110, 3) := by decide +kernel
theorem dX7_suspend_17 : decode cX7_suspend 17 = .ok (.ifCond .eq 5, 3) := by decide +kernel
theorem dX7_suspend_20 : decode cX7_suspend 20 = .ok (.iconst 0, 1) := by decide +kernel
theorem dX7_suspend_21 : decode cX7_suspend 21 = .ok (.ireturn, 1) := by decide +kernel
set_option maxRecDepth 20000 in
theorem ggX7_cancel_X7_isNoPlayer : GoodIn wsX7_cancel wsX7_isNoPlayer := goodIn_r _ [14, 15, 16, 17, 13, 18, 24, 25, 26, 27, 28, 29, 30, 31, 32, 33, 34, 35, 36, 37, 38, 39, 40, 41, 42, 43, 44, 45, 46, 47, 48, 49, 50, 51, 52, 53, 54] (by decide +kernel) (by decide +kernel)
set_option maxRecDepth 20000 in
theorem gX7_cancel_X7_isNoPlayer : GoodIn wsX7_cancel (wsV RX7 132 RX7 yX7_isNoPlayer wsX7_isNoPlayer) := goodIn_app (goodIn_of _ (by decide +kernel)) ggX7_cancel_X7_isNoPlayer
set_option maxRecDepth 20000 in
theorem ggX7_cancel_X7_isThrown : GoodIn wsX7_cancel wsX7_isThrown := goodIn_r _ [22, 23, 24, 25, 26, 27, 28, 29, 30, 31, 32, 33, 34, 35, 36, 37, 38, 39, 40, 41, 42, 43, 44, 45, 46, 47, 48, 49, 50, 51, 52, 53, 54] (by decide +kernel) (by decide +kernel)
set_option maxRecDepth 20000 in
theorem gX7_cancel_X7_isThrown : GoodIn wsX7_cancel (wsV RX7 110 RX7 yX7_isThrown wsX7_isThrown) := goodIn_app (goodIn_of _ (by decide +kernel)) ggX7_cancel_X7_isThrown
theorem dX7_cancel_0 : decode cX7_cancel 0 = .ok (.aload_n 0, 1) := by decide +kernel
theorem dX7_cancel_1 : decode cX7_cancel 1 = .ok (.aload_n 0, 1) := by decide +kernel
theorem dX7_cancel_2 : decode cX7_cancel 2 = .ok (.iload_n 1, 1) := by decide +kernel
theorem dX7_cancel_3 : decode cX7_cancel 3 = .ok (.invokevirtual 132, 3) := by decide +kernel
theorem dX7_cancel_6 : decode cX7_cancel 6 = .ok (.iconst 1, 1) := by decide +kernel
theorem dX7_cancel_7 : decode cX7_cancel 7 = .ok (.invokevirtual 110, 3) := by decide +kernel
theorem dX7_cancel_10 : decode cX7_cancel 10 = .ok (.ifCond .ne 53, 3) := by decide +kernel
theorem dX7_cancel_63 : decode cX7_cancel 63 = .ok (.iconst 0, 1) := by decide +kernel
theorem dX7_cancel_64 : decode cX7_cancel 64 = .ok (.ireturn, 1) := by decide +kernel
set_option maxRecDepth 20000 in
theorem ggX7_concede_X7_isNoPlayer : GoodIn wsX7_concede wsX7_isNoPlayer := goodIn_r _ [13, 14, 15, 16, 12, 17, 32, 33, 34, 35, 36, 37, 38, 39, 40, 41, 42, 43, 44, 45, 46, 47, 48, 49, 50, 51, 52, 53, 54, 55, 56, 57, 58, 59, 60, 61, 62] (by decide +kernel) (by decide +kernel)
set_option maxRecDepth 20000 in
theorem gX7_concede_X7_isNoPlayer : GoodIn wsX7_concede (wsV RX7 132 RX7 yX7_isNoPlayer wsX7_isNoPlayer) := goodIn_app (goodIn_of _ (by decide +kernel)) ggX7_concede_X7_isNoPlayer
set_option maxRecDepth 20000 in
theorem ggX7_concede_X7_isThrown : GoodIn wsX7_concede wsX7_isThrown := goodIn_r _ [21, 22, 32, 33, 34, 35, 36, 37, 38, 39, 40, 41, 42, 43, 44, 45, 46, 47, 48, 49, 50, 51, 52, 53, 54, 55, 56, 57, 58, 59, 60, 61, 62] (by decide +kernel) (by decide +kernel)
set_option maxRecDepth 20000 in
theorem gX7_concede_X7_isThrown : GoodIn wsX7_concede (wsV RX7 110 RX7 yX7_isThrown wsX7_isThrown) := goodIn_app (goodIn_of _ (by decide +kernel)) ggX7_concede_X7_isThrown
theorem dX7_concede_0 : decode cX7_concede 0 = .ok (.iload_n 2, 1) := by decide +kernel
theorem dX7_concede_1 : decode cX7_concede 1 = .ok (.bipush 115, 2) := by decide +kernel
theorem dX7_concede_3 : decode cX7_concede 3 = .ok (.if_icmp .eq 15, 3) := by decide +kernel
theorem dX7_concede_6 : decode cX7_concede 6 = .ok (.iload_n 2, 1) := by decide +kernel
theorem dX7_concede_7 : decode cX7_concede 7 = .ok (.bipush 104, 2) := by decide +kernel
theorem dX7_concede_9 : decode cX7_concede 9 = .ok (.if_icmp .eq 9, 3) := by decide +kernel
theorem dX7_concede_12 : decode cX7_concede 12 = .ok (.iload_n 2, 1) := by decide +kernel
theorem dX7_concede_13 : decode cX7_concede 13 = .ok (.bipush 109, 2) := by decide +kernel
theorem dX7_concede_15 : decode cX7_concede 15 = .ok (.if_icmp .ne 7, 3) := by decide +kernel
theorem dX7_concede_18 : decode cX7_concede 18 = .ok (.iconst 1, 1) := by decide +kernel
theorem dX7_concede_19 : decode cX7_concede 19 = .ok (.goto 4, 3) := by decide +kernel
theorem dX7_concede_22 : decode cX7_concede 22 = .ok (.iconst 0, 1) := by decide +kernel
theorem dX7_concede_23 : decode cX7_concede 23 = .ok (.istore_n 3, 1) := by decide +kernel
theorem dX7_concede_24 : decode cX7_concede 24 = .ok (.aload_n 0, 1) := by decide +kernel
theorem dX7_concede_25 : decode cX7_concede 25 = .ok (.aload_n 0, 1) := by decide +kernel
theorem dX7_concede_26 : decode cX7_concede 26 = .ok (.iload_n 1, 1) := by decide +kernel
theorem dX7_concede_27 : decode cX7_concede 27 = .ok (.invokevirtual 132, 3) := by decide +kernel
theorem dX7_concede_30 : decode cX7_concede 30 = .ok (.iconst 1, 1) := by decide +kernel
theorem dX7_concede_31 : decode cX7_concede 31 = .ok (.invokevirtual 110, 3) := by decide +kernel
theorem dX7_concede_34 : decode cX7_concede 34 = .ok (.ifCond .ne 40, 3) := by decide +kernel
theorem dX7_concede_74 : decode cX7_concede 74 = .ok (.iconst 0, 1) := by decide +kernel
theorem dX7_concede_75 : decode cX7_concede 75 = .ok (.ireturn, 1) := by decide +kernel
set_option maxRecDepth 20000 in
theorem ggX7_nextHole_X7_isThrown : GoodIn wsX7_nextHole wsX7_isThrown := goodIn_r _ [19, 20, 55, 56, 57, 58, 59, 60, 61, 62, 63, 64, 65, 66, 67, 68, 69, 70, 71, 72, 73, 74, 75, 76, 77, 78, 79, 80, 81, 82, 83, 84, 85] (by decide +kernel) (by decide +kernel)
set_option maxRecDepth 20000 in
theorem gX7_nextHole_X7_isThrown : GoodIn wsX7_nextHole (wsV RX7 110 RX7 yX7_isThrown wsX7_isThrown) := goodIn_app (goodIn_of _ (by decide +kernel)) ggX7_nextHole_X7_isThrown
theorem dX7_nextHole_0 : decode cX7_nextHole 0 = .ok (.aload_n 0, 1) := by decide +kernel
theorem dX7_nextHole_1 : decode cX7_nextHole 1 = .ok (.aload_n 0, 1) := by decide +kernel
theorem dX7_nextHole_2 : decode cX7_nextHole 2 = .ok (.getfield 135, 3) := by decide +kernel
theorem dX7_nextHole_5 : decode cX7_nextHole 5 = .ok (.ifCond .ne 7, 3) := by decide +kernel
theorem dX7_nextHole_8 : decode cX7_nextHole 8 = .ok (.iconst 1, 1) := by decide +kernel
theorem dX7_nextHole_9 : decode cX7_nextHole 9 = .ok (.goto 4, 3) := by decide +kernel
theorem dX7_nextHole_13 : decode cX7_nextHole 13 = .ok (.iconst 1, 1) := by decide +kernel
theorem dX7_nextHole_14 : decode cX7_nextHole 14 = .ok (.invokevirtual 110, 3) := by decide +kernel
theorem dX7_nextHole_17 : decode cX7_nextHole 17 = .ok (.ifCond .ne 23, 3) := by decide +kernel
theorem dX7_nextHole_40 : decode cX7_nextHole 40 = .ok (.iconst 0, 1) := by decide +kernel
theorem dX7_nextHole_41 : decode cX7_nextHole 41 = .ok (.ireturn, 1) := by decide +kernel
set_option maxRecDepth 20000 in
theorem ggX7_state_X7_isNone : GoodIn wsX7_state wsX7_isNone := goodIn_r _ [6, 7, 8, 9, 10, 5, 11, 12, 13, 14, 15, 16, 17, 18, 19, 20, 21, 22, 23, 24, 25, 26, 27, 28, 29, 30, 31, 32, 33, 34, 35, 36, 37, 38, 39, 40, 41, 42, 43, 44, 45, 46, 47, 48, 49, 50, 51] (by decide +kernel) (by decide +kernel)
set_option maxRecDepth 20000 in
theorem gX7_state_X7_isNone : GoodIn wsX7_state (wsV RX7 245 RX7 yX7_isNone wsX7_isNone) := goodIn_app (goodIn_of _ (by decide +kernel)) ggX7_state_X7_isNone
theorem dX7_state_0 : decode cX7_state 0 = .ok (.aload_n 0, 1) := by decide +kernel
theorem dX7_state_1 : decode cX7_state 1 = .ok (.iload_n 1, 1) := by decide +kernel
theorem dX7_state_2 : decode cX7_state 2 = .ok (.invokevirtual 245, 3) := by decide +kernel
theorem dX7_state_5 : decode cX7_state 5 = .ok (.ifCond .eq 8, 3) := by decide +kernel
theorem dX7_state_8 : decode cX7_state 8 = .ok (.bipush 32, 2) := by decide +kernel
theorem dX7_state_10 : decode cX7_state 10 = .ok (.goto 12, 3) := by decide +kernel
theorem dX7_state_22 : decode cX7_state 22 = .ok (.ireturn, 1) := by decide +kernel
set_option maxRecDepth 20000 in
theorem ggX7_lie_X7_isNone : GoodIn wsX7_lie wsX7_isNone := goodIn_r _ [6, 7, 8, 9, 10, 5, 11, 12, 13, 14, 15, 16, 17, 18, 19, 20, 21, 22, 23, 24, 25, 26, 27, 28, 29, 30, 31, 32, 33, 34, 35, 36, 37, 38, 39, 40, 41, 42, 43, 44, 45, 46, 47, 48, 49, 50, 51] (by decide +kernel) (by decide +kernel)
set_option maxRecDepth 20000 in
theorem gX7_lie_X7_isNone : GoodIn wsX7_lie (wsV RX7 245 RX7 yX7_isNone wsX7_isNone) := goodIn_app (goodIn_of _ (by decide +kernel)) ggX7_lie_X7_isNone
theorem dX7_lie_0 : decode cX7_lie 0 = .ok (.aload_n 0, 1) := by decide +kernel
theorem dX7_lie_1 : decode cX7_lie 1 = .ok (.iload_n 1, 1) := by decide +kernel
theorem dX7_lie_2 : decode cX7_lie 2 = .ok (.invokevirtual 245, 3) := by decide +kernel
theorem dX7_lie_5 : decode cX7_lie 5 = .ok (.ifCond .ne 42, 3) := by decide +kernel
theorem dX7_lie_47 : decode cX7_lie 47 = .ok (.iconst 0, 1) := by decide +kernel
theorem dX7_lie_48 : decode cX7_lie 48 = .ok (.ireturn, 1) := by decide +kernel
set_option maxRecDepth 20000 in
theorem ggX7_strokes_X7_isNone : GoodIn wsX7_strokes wsX7_isNone := goodIn_r _ [6, 7, 8, 9, 10, 5, 11, 12, 13, 14, 15, 16, 17, 18, 19, 20, 21, 22, 23, 24, 25, 26, 27, 28, 29, 30, 31, 32, 33, 34, 35, 36, 37, 38, 39, 40, 41, 42, 43, 44, 45, 46, 47, 48, 49, 50, 51] (by decide +kernel) (by decide +kernel)
set_option maxRecDepth 20000 in
theorem gX7_strokes_X7_isNone : GoodIn wsX7_strokes (wsV RX7 245 RX7 yX7_isNone wsX7_isNone) := goodIn_app (goodIn_of _ (by decide +kernel)) ggX7_strokes_X7_isNone
theorem dX7_strokes_0 : decode cX7_strokes 0 = .ok (.aload_n 0, 1) := by decide +kernel
theorem dX7_strokes_1 : decode cX7_strokes 1 = .ok (.iload_n 1, 1) := by decide +kernel
theorem dX7_strokes_2 : decode cX7_strokes 2 = .ok (.invokevirtual 245, 3) := by decide +kernel
theorem dX7_strokes_5 : decode cX7_strokes 5 = .ok (.ifCond .eq 7, 3) := by decide +kernel
theorem dX7_strokes_8 : decode cX7_strokes 8 = .ok (.iconst 0, 1) := by decide +kernel
theorem dX7_strokes_9 : decode cX7_strokes 9 = .ok (.goto 12, 3) := by decide +kernel
theorem dX7_strokes_21 : decode cX7_strokes 21 = .ok (.ireturn, 1) := by decide +kernel
set_option maxRecDepth 20000 in
theorem ggX7_penalties_X7_isNone : GoodIn wsX7_penalties wsX7_isNone := goodIn_r _ [6, 7, 8, 9, 10, 5, 11, 12, 13, 14, 15, 16, 17, 18, 19, 20, 21, 22, 23, 24, 25, 26, 27, 28, 29, 30, 31, 32, 33, 34, 35, 36, 37, 38, 39, 40, 41, 42, 43, 44, 45, 46, 47, 48, 49, 50, 51] (by decide +kernel) (by decide +kernel)
set_option maxRecDepth 20000 in
theorem gX7_penalties_X7_isNone : GoodIn wsX7_penalties (wsV RX7 245 RX7 yX7_isNone wsX7_isNone) := goodIn_app (goodIn_of _ (by decide +kernel)) ggX7_penalties_X7_isNone
theorem dX7_penalties_0 : decode cX7_penalties 0 = .ok (.aload_n 0, 1) := by decide +kernel
theorem dX7_penalties_1 : decode cX7_penalties 1 = .ok (.iload_n 1, 1) := by decide +kernel
theorem dX7_penalties_2 : decode cX7_penalties 2 = .ok (.invokevirtual 245, 3) := by decide +kernel
theorem dX7_penalties_5 : decode cX7_penalties 5 = .ok (.ifCond .eq 7, 3) := by decide +kernel
theorem dX7_penalties_8 : decode cX7_penalties 8 = .ok (.iconst 0, 1) := by decide +kernel
theorem dX7_penalties_9 : decode cX7_penalties 9 = .ok (.goto 12, 3) := by decide +kernel
theorem dX7_penalties_21 : decode cX7_penalties 21 = .ok (.ireturn, 1) := by decide +kernel
set_option maxRecDepth 20000 in
theorem ggX7_isOut_X7_isNoPlayer : GoodIn wsX7_isOut wsX7_isNoPlayer := goodIn_r _ [6, 7, 8, 9, 5, 10, 16, 17, 18, 19, 20, 21, 22, 23, 24, 25, 26, 27, 28, 29, 30, 31, 32, 33, 34, 35, 36, 37, 38, 39, 40, 41, 42, 43, 44, 45, 46] (by decide +kernel) (by decide +kernel)
set_option maxRecDepth 20000 in
theorem gX7_isOut_X7_isNoPlayer : GoodIn wsX7_isOut (wsV RX7 132 RX7 yX7_isNoPlayer wsX7_isNoPlayer) := goodIn_app (goodIn_of _ (by decide +kernel)) ggX7_isOut_X7_isNoPlayer
set_option maxRecDepth 20000 in
theorem ggX7_isOut_X7_isThrown : GoodIn wsX7_isOut wsX7_isThrown := goodIn_r _ [14, 15, 16, 17, 18, 19, 20, 21, 22, 23, 24, 25, 26, 27, 28, 29, 30, 31, 32, 33, 34, 35, 36, 37, 38, 39, 40, 41, 42, 43, 44, 45, 46] (by decide +kernel) (by decide +kernel)
set_option maxRecDepth 20000 in
theorem gX7_isOut_X7_isThrown : GoodIn wsX7_isOut (wsV RX7 110 RX7 yX7_isThrown wsX7_isThrown) := goodIn_app (goodIn_of _ (by decide +kernel)) ggX7_isOut_X7_isThrown
theorem dX7_isOut_0 : decode cX7_isOut 0 = .ok (.aload_n 0, 1) := by decide +kernel
theorem dX7_isOut_1 : decode cX7_isOut 1 = .ok (.aload_n 0, 1) := by decide +kernel
theorem dX7_isOut_2 : decode cX7_isOut 2 = .ok (.iload_n 1, 1) := by decide +kernel
theorem dX7_isOut_3 : decode cX7_isOut 3 = .ok (.invokevirtual 132, 3) := by decide +kernel
theorem dX7_isOut_6 : decode cX7_isOut 6 = .ok (.iconst 1, 1) := by decide +kernel
theorem dX7_isOut_7 : decode cX7_isOut 7 = .ok (.invokevirtual 110, 3) := by decide +kernel
theorem dX7_isOut_10 : decode cX7_isOut 10 = .ok (.ifCond .ne 16, 3) := by decide +kernel
theorem dX7_isOut_26 : decode cX7_isOut 26 = .ok (.iconst 0, 1) := by decide +kernel
theorem dX7_isOut_27 : decode cX7_isOut 27 = .ok (.ireturn, 1) := by decide +kernel
set_option maxRecDepth 20000 in
theorem ggX7_score_X7_isNoPlayer : GoodIn wsX7_score wsX7_isNoPlayer := goodIn_r _ [7, 8, 9, 10, 6, 11, 22, 23, 24, 25, 26, 27, 28, 29, 30, 31, 32, 33, 34, 35, 36, 37, 38, 39, 40, 41, 42, 43, 44, 45, 46, 47, 48, 49, 50, 51, 52] (by decide +kernel) (by decide +kernel)
set_option maxRecDepth 20000 in
theorem gX7_score_X7_isNoPlayer : GoodIn wsX7_score (wsV RX7 132 RX7 yX7_isNoPlayer wsX7_isNoPlayer) := goodIn_app (goodIn_of _ (by decide +kernel)) ggX7_score_X7_isNoPlayer
set_option maxRecDepth 20000 in
theorem ggX7_score_X7_isThrown : GoodIn wsX7_score wsX7_isThrown := goodIn_r _ [20, 21, 22, 23, 24, 25, 26, 27, 28, 29, 30, 31, 32, 33, 34, 35, 36, 37, 38, 39, 40, 41, 42, 43, 44, 45, 46, 47, 48, 49, 50, 51, 52] (by decide +kernel) (by decide +kernel)
set_option maxRecDepth 20000 in
theorem gX7_score_X7_isThrown : GoodIn wsX7_score (wsV RX7 110 RX7 yX7_isThrown wsX7_isThrown) := goodIn_app (goodIn_of _ (by decide +kernel)) ggX7_score_X7_isThrown
theorem dX7_score_0 : decode cX7_score 0 = .ok (.aload_n 0, 1) := by decide +kernel
theorem dX7_score_1 : decode cX7_score 1 = .ok (.aload_n 0, 1) := by decide +kernel
theorem dX7_score_2 : decode cX7_score 2 = .ok (.iload_n 1, 1) := by decide +kernel
theorem dX7_score_3 : decode cX7_score 3 = .ok (.invokevirtual 132, 3) := by decide +kernel
theorem dX7_score_6 : decode cX7_score 6 = .ok (.ifCond .ne 11, 3) := by decide +kernel
theorem dX7_score_17 : decode cX7_score 17 = .ok (.iconst 1, 1) := by decide +kernel
theorem dX7_score_18 : decode cX7_score 18 = .ok (.goto 4, 3) := by decide +kernel
theorem dX7_score_22 : decode cX7_score 22 = .ok (.iconst 1, 1) := by decide +kernel
theorem dX7_score_23 : decode cX7_score 23 = .ok (.invokevirtual 110, 3) := by decide +kernel
theorem dX7_score_26 : decode cX7_score 26 = .ok (.ifCond .ne 35, 3) := by decide +kernel
theorem dX7_score_61 : decode cX7_score 61 = .ok (.iconst 0, 1) := by decide +kernel
theorem dX7_score_62 : decode cX7_score 62 = .ok (.goto 11, 3) := by decide +kernel
theorem dX7_score_73 : decode cX7_score 73 = .ok (.ireturn, 1) := by decide +kernel
set_option maxRecDepth 20000 in
theorem ggX7_up_X7_isThrown : GoodIn wsX7_up wsX7_isThrown := goodIn_r _ [6, 7, 14, 15, 16, 17, 18, 19, 20, 21, 22, 23, 24, 25, 26, 27, 28, 29, 30, 31, 32, 33, 34, 35, 36, 37, 38, 39, 40, 41, 42, 43, 44] (by decide +kernel) (by decide +kernel)
set_option maxRecDepth 20000 in
theorem gX7_up_X7_isThrown : GoodIn wsX7_up (wsV RX7 110 RX7 yX7_isThrown wsX7_isThrown) := goodIn_app (goodIn_of _ (by decide +kernel)) ggX7_up_X7_isThrown
theorem dX7_up_0 : decode cX7_up 0 = .ok (.aload_n 0, 1) := by decide +kernel
theorem dX7_up_1 : decode cX7_up 1 = .ok (.aload_n 0, 1) := by decide +kernel
theorem dX7_up_2 : decode cX7_up 2 = .ok (.getfield 142, 3) := by decide +kernel
theorem dX7_up_5 : decode cX7_up 5 = .ok (.bipush 109, 2) := by decide +kernel
theorem dX7_up_7 : decode cX7_up 7 = .ok (.if_icmp .eq 7, 3) := by decide +kernel
theorem dX7_up_10 : decode cX7_up 10 = .ok (.iconst 1, 1) := by decide +kernel
theorem dX7_up_11 : decode cX7_up 11 = .ok (.goto 4, 3) := by decide +kernel
theorem dX7_up_15 : decode cX7_up 15 = .ok (.iconst 1, 1) := by decide +kernel
theorem dX7_up_16 : decode cX7_up 16 = .ok (.invokevirtual 110, 3) := by decide +kernel
theorem dX7_up_19 : decode cX7_up 19 = .ok (.ifCond .eq 7, 3) := by decide +kernel
theorem dX7_up_22 : decode cX7_up 22 = .ok (.iconst 0, 1) := by decide +kernel
theorem dX7_up_23 : decode cX7_up 23 = .ok (.goto 7, 3) := by decide +kernel
theorem dX7_up_30 : decode cX7_up 30 = .ok (.ireturn, 1) := by decide +kernel
set_option maxRecDepth 20000 in
theorem ggX7_isMatchOver_X7_isThrown : GoodIn wsX7_isMatchOver wsX7_isThrown := goodIn_r _ [15, 16, 22, 23, 24, 25, 26, 27, 28, 29, 30, 31, 32, 33, 34, 35, 36, 37, 38, 39, 40, 41, 42, 43, 44, 45, 46, 47, 48, 49, 50, 51, 52] (by decide +kernel) (by decide +kernel)
set_option maxRecDepth 20000 in
theorem gX7_isMatchOver_X7_isThrown : GoodIn wsX7_isMatchOver (wsV RX7 110 RX7 yX7_isThrown wsX7_isThrown) := goodIn_app (goodIn_of _ (by decide +kernel)) ggX7_isMatchOver_X7_isThrown
theorem dX7_isMatchOver_0 : decode cX7_isMatchOver 0 = .ok (.aload_n 0, 1) := by decide +kernel
theorem dX7_isMatchOver_1 : decode cX7_isMatchOver 1 = .ok (.aload_n 0, 1) := by decide +kernel
theorem dX7_isMatchOver_2 : decode cX7_isMatchOver 2 = .ok (.getfield 142, 3) := by decide +kernel
theorem dX7_isMatchOver_5 : decode cX7_isMatchOver 5 = .ok (.bipush 109, 2) := by decide +kernel
theorem dX7_isMatchOver_7 : decode cX7_isMatchOver 7 = .ok (.if_icmp .eq 7, 3) := by decide +kernel
theorem dX7_isMatchOver_10 : decode cX7_isMatchOver 10 = .ok (.iconst 1, 1) := by decide +kernel
theorem dX7_isMatchOver_11 : decode cX7_isMatchOver 11 = .ok (.goto 4, 3) := by decide +kernel
theorem dX7_isMatchOver_15 : decode cX7_isMatchOver 15 = .ok (.iconst 1, 1) := by decide +kernel
theorem dX7_isMatchOver_16 : decode cX7_isMatchOver 16 = .ok (.invokevirtual 110, 3) := by decide +kernel
theorem dX7_isMatchOver_19 : decode cX7_isMatchOver 19 = .ok (.ifCond .eq 5, 3) := by decide +kernel
theorem dX7_isMatchOver_22 : decode cX7_isMatchOver 22 = .ok (.iconst 0, 1) := by decide +kernel
theorem dX7_isMatchOver_23 : decode cX7_isMatchOver 23 = .ok (.ireturn, 1) := by decide +kernel
set_option maxRecDepth 20000 in
theorem ggX7_write_X7_isNoPlayer : GoodIn wsX7_write wsX7_isNoPlayer := goodIn_r _ [7, 8, 9, 10, 6, 11, 28, 29, 30, 31, 32, 33, 34, 35, 36, 37, 38, 39, 40, 41, 42, 43, 44, 45, 46, 47, 48, 49, 50, 51, 52, 53, 54, 55, 56, 57, 58] (by decide +kernel) (by decide +kernel)
set_option maxRecDepth 20000 in
theorem gX7_write_X7_isNoPlayer : GoodIn wsX7_write (wsV RX7 132 RX7 yX7_isNoPlayer wsX7_isNoPlayer) := goodIn_app (goodIn_of _ (by decide +kernel)) ggX7_write_X7_isNoPlayer
set_option maxRecDepth 20000 in
theorem ggX7_write_X7_isThrown : GoodIn wsX7_write wsX7_isThrown := goodIn_r _ [20, 21, 28, 29, 30, 31, 32, 33, 34, 35, 36, 37, 38, 39, 40, 41, 42, 43, 44, 45, 46, 47, 48, 49, 50, 51, 52, 53, 54, 55, 56, 57, 58] (by decide +kernel) (by decide +kernel)
set_option maxRecDepth 20000 in
theorem gX7_write_X7_isThrown : GoodIn wsX7_write (wsV RX7 110 RX7 yX7_isThrown wsX7_isThrown) := goodIn_app (goodIn_of _ (by decide +kernel)) ggX7_write_X7_isThrown
theorem dX7_write_0 : decode cX7_write 0 = .ok (.aload_n 0, 1) := by decide +kernel
theorem dX7_write_1 : decode cX7_write 1 = .ok (.aload_n 0, 1) := by decide +kernel
theorem dX7_write_2 : decode cX7_write 2 = .ok (.iload_n 1, 1) := by decide +kernel
theorem dX7_write_3 : decode cX7_write 3 = .ok (.invokevirtual 132, 3) := by decide +kernel
theorem dX7_write_6 : decode cX7_write 6 = .ok (.ifCond .ne 11, 3) := by decide +kernel
theorem dX7_write_17 : decode cX7_write 17 = .ok (.iconst 1, 1) := by decide +kernel
theorem dX7_write_18 : decode cX7_write 18 = .ok (.goto 4, 3) := by decide +kernel
theorem dX7_write_22 : decode cX7_write 22 = .ok (.iconst 1, 1) := by decide +kernel
theorem dX7_write_23 : decode cX7_write 23 = .ok (.invokevirtual 110, 3) := by decide +kernel
theorem dX7_write_26 : decode cX7_write 26 = .ok (.ifCond .ne 55, 3) := by decide +kernel
theorem dX7_write_81 : decode cX7_write 81 = .ok (.iconst 0, 1) := by decide +kernel
theorem dX7_write_82 : decode cX7_write 82 = .ok (.ireturn, 1) := by decide +kernel
set_option maxRecDepth 20000 in
theorem ggX7_sign_X7_isNoPlayer : GoodIn wsX7_sign wsX7_isNoPlayer := goodIn_r _ [10, 11, 12, 13, 9, 14, 26, 27, 28, 29, 30, 31, 32, 33, 34, 35, 36, 37, 38, 39, 40, 41, 42, 43, 44, 45, 46, 47, 48, 49, 50, 51, 52, 53, 54, 55, 56] (by decide +kernel) (by decide +kernel)
set_option maxRecDepth 20000 in
theorem gX7_sign_X7_isNoPlayer : GoodIn wsX7_sign (wsV RX7 132 RX7 yX7_isNoPlayer wsX7_isNoPlayer) := goodIn_app (goodIn_of _ (by decide +kernel)) ggX7_sign_X7_isNoPlayer
set_option maxRecDepth 20000 in
theorem ggX7_sign_X7_isThrown : GoodIn wsX7_sign wsX7_isThrown := goodIn_r _ [18, 19, 26, 27, 28, 29, 30, 31, 32, 33, 34, 35, 36, 37, 38, 39, 40, 41, 42, 43, 44, 45, 46, 47, 48, 49, 50, 51, 52, 53, 54, 55, 56] (by decide +kernel) (by decide +kernel)
set_option maxRecDepth 20000 in
theorem gX7_sign_X7_isThrown : GoodIn wsX7_sign (wsV RX7 110 RX7 yX7_isThrown wsX7_isThrown) := goodIn_app (goodIn_of _ (by decide +kernel)) ggX7_sign_X7_isThrown
theorem dX7_sign_0 : decode cX7_sign 0 = .ok (.aload_n 0, 1) := by decide +kernel
theorem dX7_sign_1 : decode cX7_sign 1 = .ok (.aload_n 0, 1) := by decide +kernel
theorem dX7_sign_2 : decode cX7_sign 2 = .ok (.iload_n 1, 1) := by decide +kernel
theorem dX7_sign_3 : decode cX7_sign 3 = .ok (.invokevirtual 132, 3) := by decide +kernel
theorem dX7_sign_6 : decode cX7_sign 6 = .ok (.iconst 1, 1) := by decide +kernel
theorem dX7_sign_7 : decode cX7_sign 7 = .ok (.invokevirtual 110, 3) := by decide +kernel
theorem dX7_sign_10 : decode cX7_sign 10 = .ok (.ifCond .ne 41, 3) := by decide +kernel
theorem dX7_sign_51 : decode cX7_sign 51 = .ok (.iconst 0, 1) := by decide +kernel
theorem dX7_sign_52 : decode cX7_sign 52 = .ok (.ireturn, 1) := by decide +kernel
set_option maxRecDepth 20000 in
theorem ggX7_total_X7_isNoPlayer : GoodIn wsX7_total wsX7_isNoPlayer := goodIn_r _ [5, 6, 7, 8, 4, 9, 25, 26, 27, 28, 29, 30, 31, 32, 33, 34, 35, 36, 37, 38, 39, 40, 41, 42, 43, 44, 45, 46, 47, 48, 49, 50, 51, 52, 53, 54, 55] (by decide +kernel) (by decide +kernel)
set_option maxRecDepth 20000 in
theorem gX7_total_X7_isNoPlayer : GoodIn wsX7_total (wsV RX7 132 RX7 yX7_isNoPlayer wsX7_isNoPlayer) := goodIn_app (goodIn_of _ (by decide +kernel)) ggX7_total_X7_isNoPlayer
set_option maxRecDepth 20000 in
theorem ggX7_total_X7_isThrown : GoodIn wsX7_total wsX7_isThrown := goodIn_r _ [13, 14, 25, 26, 27, 28, 29, 30, 31, 32, 33, 34, 35, 36, 37, 38, 39, 40, 41, 42, 43, 44, 45, 46, 47, 48, 49, 50, 51, 52, 53, 54, 55] (by decide +kernel) (by decide +kernel)
set_option maxRecDepth 20000 in
theorem gX7_total_X7_isThrown : GoodIn wsX7_total (wsV RX7 110 RX7 yX7_isThrown wsX7_isThrown) := goodIn_app (goodIn_of _ (by decide +kernel)) ggX7_total_X7_isThrown
theorem dX7_total_0 : decode cX7_total 0 = .ok (.aload_n 0, 1) := by decide +kernel
theorem dX7_total_1 : decode cX7_total 1 = .ok (.aload_n 0, 1) := by decide +kernel
theorem dX7_total_2 : decode cX7_total 2 = .ok (.iload_n 1, 1) := by decide +kernel
theorem dX7_total_3 : decode cX7_total 3 = .ok (.invokevirtual 132, 3) := by decide +kernel
theorem dX7_total_6 : decode cX7_total 6 = .ok (.iconst 1, 1) := by decide +kernel
theorem dX7_total_7 : decode cX7_total 7 = .ok (.invokevirtual 110, 3) := by decide +kernel
theorem dX7_total_10 : decode cX7_total 10 = .ok (.ifCond .ne 24, 3) := by decide +kernel
theorem dX7_total_34 : decode cX7_total 34 = .ok (.iconst 0, 1) := by decide +kernel
theorem dX7_total_35 : decode cX7_total 35 = .ok (.goto 9, 3) := by decide +kernel
theorem dX7_total_44 : decode cX7_total 44 = .ok (.ireturn, 1) := by decide +kernel
set_option maxRecDepth 20000 in
theorem ggX7_stableford_X7_isNoPlayer : GoodIn wsX7_stableford wsX7_isNoPlayer := goodIn_r _ [12, 13, 14, 15, 11, 16, 31, 32, 33, 34, 35, 36, 37, 38, 39, 40, 41, 42, 43, 44, 45, 46, 47, 48, 49, 50, 51, 52, 53, 54, 55, 56, 57, 58, 59, 60, 61] (by decide +kernel) (by decide +kernel)
set_option maxRecDepth 20000 in
theorem gX7_stableford_X7_isNoPlayer : GoodIn wsX7_stableford (wsV RX7 132 RX7 yX7_isNoPlayer wsX7_isNoPlayer) := goodIn_app (goodIn_of _ (by decide +kernel)) ggX7_stableford_X7_isNoPlayer
set_option maxRecDepth 20000 in
theorem ggX7_stableford_X7_isThrown : GoodIn wsX7_stableford wsX7_isThrown := goodIn_r _ [20, 21, 31, 32, 33, 34, 35, 36, 37, 38, 39, 40, 41, 42, 43, 44, 45, 46, 47, 48, 49, 50, 51, 52, 53, 54, 55, 56, 57, 58, 59, 60, 61] (by decide +kernel) (by decide +kernel)
set_option maxRecDepth 20000 in
theorem gX7_stableford_X7_isThrown : GoodIn wsX7_stableford (wsV RX7 110 RX7 yX7_isThrown wsX7_isThrown) := goodIn_app (goodIn_of _ (by decide +kernel)) ggX7_stableford_X7_isThrown
theorem dX7_stableford_0 : decode cX7_stableford 0 = .ok (.aload_n 0, 1) := by decide +kernel
theorem dX7_stableford_1 : decode cX7_stableford 1 = .ok (.aload_n 0, 1) := by decide +kernel
theorem dX7_stableford_2 : decode cX7_stableford 2 = .ok (.iload_n 1, 1) := by decide +kernel
theorem dX7_stableford_3 : decode cX7_stableford 3 = .ok (.invokevirtual 132, 3) := by decide +kernel
theorem dX7_stableford_6 : decode cX7_stableford 6 = .ok (.iconst 1, 1) := by decide +kernel
theorem dX7_stableford_7 : decode cX7_stableford 7 = .ok (.invokevirtual 110, 3) := by decide +kernel
theorem dX7_stableford_10 : decode cX7_stableford 10 = .ok (.ifCond .eq 5, 3) := by decide +kernel
theorem dX7_stableford_13 : decode cX7_stableford 13 = .ok (.iconst 0, 1) := by decide +kernel
theorem dX7_stableford_14 : decode cX7_stableford 14 = .ok (.ireturn, 1) := by decide +kernel
set_option maxRecDepth 20000 in
theorem ggX7_parPlay_X7_isNoPlayer : GoodIn wsX7_parPlay wsX7_isNoPlayer := goodIn_r _ [8, 9, 10, 11, 7, 12, 37, 38, 39, 40, 41, 42, 43, 44, 45, 46, 47, 48, 49, 50, 51, 52, 53, 54, 55, 56, 57, 58, 59, 60, 61, 62, 63, 64, 65, 66, 67] (by decide +kernel) (by decide +kernel)
set_option maxRecDepth 20000 in
theorem gX7_parPlay_X7_isNoPlayer : GoodIn wsX7_parPlay (wsV RX7 132 RX7 yX7_isNoPlayer wsX7_isNoPlayer) := goodIn_app (goodIn_of _ (by decide +kernel)) ggX7_parPlay_X7_isNoPlayer
set_option maxRecDepth 20000 in
theorem ggX7_parPlay_X7_isThrown : GoodIn wsX7_parPlay wsX7_isThrown := goodIn_r _ [16, 17, 37, 38, 39, 40, 41, 42, 43, 44, 45, 46, 47, 48, 49, 50, 51, 52, 53, 54, 55, 56, 57, 58, 59, 60, 61, 62, 63, 64, 65, 66, 67] (by decide +kernel) (by decide +kernel)
set_option maxRecDepth 20000 in
theorem gX7_parPlay_X7_isThrown : GoodIn wsX7_parPlay (wsV RX7 110 RX7 yX7_isThrown wsX7_isThrown) := goodIn_app (goodIn_of _ (by decide +kernel)) ggX7_parPlay_X7_isThrown
theorem dX7_parPlay_0 : decode cX7_parPlay 0 = .ok (.aload_n 0, 1) := by decide +kernel
theorem dX7_parPlay_1 : decode cX7_parPlay 1 = .ok (.aload_n 0, 1) := by decide +kernel
theorem dX7_parPlay_2 : decode cX7_parPlay 2 = .ok (.iload_n 1, 1) := by decide +kernel
theorem dX7_parPlay_3 : decode cX7_parPlay 3 = .ok (.invokevirtual 132, 3) := by decide +kernel
theorem dX7_parPlay_6 : decode cX7_parPlay 6 = .ok (.iconst 1, 1) := by decide +kernel
theorem dX7_parPlay_7 : decode cX7_parPlay 7 = .ok (.invokevirtual 110, 3) := by decide +kernel
theorem dX7_parPlay_10 : decode cX7_parPlay 10 = .ok (.ifCond .ne 23, 3) := by decide +kernel
theorem dX7_parPlay_33 : decode cX7_parPlay 33 = .ok (.iconst 0, 1) := by decide +kernel
theorem dX7_parPlay_34 : decode cX7_parPlay 34 = .ok (.ireturn, 1) := by decide +kernel
set_option maxRecDepth 20000 in
theorem ggX7_together_X7_isNoPlayer : GoodIn wsX7_together wsX7_isNoPlayer := goodIn_r _ [11, 12, 13, 14, 10, 15, 31, 32, 33, 34, 35, 36, 37, 38, 39, 40, 41, 42, 43, 44, 45, 46, 47, 48, 49, 50, 51, 52, 53, 54, 55, 56, 57, 58, 59, 60, 61] (by decide +kernel) (by decide +kernel)
set_option maxRecDepth 20000 in
theorem gX7_together_X7_isNoPlayer : GoodIn wsX7_together (wsV RX7 132 RX7 yX7_isNoPlayer wsX7_isNoPlayer) := goodIn_app (goodIn_of _ (by decide +kernel)) ggX7_together_X7_isNoPlayer
set_option maxRecDepth 20000 in
theorem ggX7_together_X7_isThrown : GoodIn wsX7_together wsX7_isThrown := goodIn_r _ [19, 20, 31, 32, 33, 34, 35, 36, 37, 38, 39, 40, 41, 42, 43, 44, 45, 46, 47, 48, 49, 50, 51, 52, 53, 54, 55, 56, 57, 58, 59, 60, 61] (by decide +kernel) (by decide +kernel)
set_option maxRecDepth 20000 in
theorem gX7_together_X7_isThrown : GoodIn wsX7_together (wsV RX7 110 RX7 yX7_isThrown wsX7_isThrown) := goodIn_app (goodIn_of _ (by decide +kernel)) ggX7_together_X7_isThrown
theorem dX7_together_0 : decode cX7_together 0 = .ok (.aload_n 0, 1) := by decide +kernel
theorem dX7_together_1 : decode cX7_together 1 = .ok (.aload_n 0, 1) := by decide +kernel
theorem dX7_together_2 : decode cX7_together 2 = .ok (.iload_n 1, 1) := by decide +kernel
theorem dX7_together_3 : decode cX7_together 3 = .ok (.invokevirtual 132, 3) := by decide +kernel
theorem dX7_together_6 : decode cX7_together 6 = .ok (.ifCond .ne 11, 3) := by decide +kernel
theorem dX7_together_17 : decode cX7_together 17 = .ok (.iconst 1, 1) := by decide +kernel
theorem dX7_together_18 : decode cX7_together 18 = .ok (.goto 4, 3) := by decide +kernel
theorem dX7_together_22 : decode cX7_together 22 = .ok (.iconst 1, 1) := by decide +kernel
theorem dX7_together_23 : decode cX7_together 23 = .ok (.invokevirtual 110, 3) := by decide +kernel
theorem dX7_together_26 : decode cX7_together 26 = .ok (.ifCond .ne 21, 3) := by decide +kernel
theorem dX7_together_47 : decode cX7_together 47 = .ok (.iconst 0, 1) := by decide +kernel
theorem dX7_together_48 : decode cX7_together 48 = .ok (.ireturn, 1) := by decide +kernel
set_option maxRecDepth 20000 in
theorem ggX7_skins_X7_isNoPlayer : GoodIn wsX7_skins wsX7_isNoPlayer := goodIn_r _ [12, 2, 13, 14, 11, 15, 37, 38, 39, 40, 41, 42, 43, 44, 45, 46, 47, 48, 49, 50, 51, 52, 53, 54, 55, 56, 57, 58, 59, 60, 61, 62, 63, 64, 65, 66, 67] (by decide +kernel) (by decide +kernel)
set_option maxRecDepth 20000 in
theorem gX7_skins_X7_isNoPlayer : GoodIn wsX7_skins (wsV RX7 132 RX7 yX7_isNoPlayer wsX7_isNoPlayer) := goodIn_app (goodIn_of _ (by decide +kernel)) ggX7_skins_X7_isNoPlayer
set_option maxRecDepth 20000 in
theorem ggX7_skins_X7_isThrown : GoodIn wsX7_skins wsX7_isThrown := goodIn_r _ [19, 20, 37, 38, 39, 40, 41, 42, 43, 44, 45, 46, 47, 48, 49, 50, 51, 52, 53, 54, 55, 56, 57, 58, 59, 60, 61, 62, 63, 64, 65, 66, 67] (by decide +kernel) (by decide +kernel)
set_option maxRecDepth 20000 in
theorem gX7_skins_X7_isThrown : GoodIn wsX7_skins (wsV RX7 110 RX7 yX7_isThrown wsX7_isThrown) := goodIn_app (goodIn_of _ (by decide +kernel)) ggX7_skins_X7_isThrown
theorem dX7_skins_0 : decode cX7_skins 0 = .ok (.aload_n 0, 1) := by decide +kernel
theorem dX7_skins_1 : decode cX7_skins 1 = .ok (.aload_n 0, 1) := by decide +kernel
theorem dX7_skins_2 : decode cX7_skins 2 = .ok (.iload_n 1, 1) := by decide +kernel
theorem dX7_skins_3 : decode cX7_skins 3 = .ok (.invokevirtual 132, 3) := by decide +kernel
theorem dX7_skins_6 : decode cX7_skins 6 = .ok (.iconst 1, 1) := by decide +kernel
theorem dX7_skins_7 : decode cX7_skins 7 = .ok (.invokevirtual 110, 3) := by decide +kernel
theorem dX7_skins_10 : decode cX7_skins 10 = .ok (.ifCond .ne 23, 3) := by decide +kernel
theorem dX7_skins_33 : decode cX7_skins 33 = .ok (.iconst 0, 1) := by decide +kernel
theorem dX7_skins_34 : decode cX7_skins 34 = .ok (.ireturn, 1) := by decide +kernel
set_option maxRecDepth 20000 in
theorem ggX7_rank_X7_isNoPlayer : GoodIn wsX7_rank wsX7_isNoPlayer := goodIn_r _ [5, 6, 7, 8, 4, 9, 31, 32, 33, 34, 35, 36, 37, 38, 39, 40, 41, 42, 43, 44, 45, 46, 47, 48, 49, 50, 51, 52, 53, 54, 55, 56, 57, 58, 59, 60, 61] (by decide +kernel) (by decide +kernel)
set_option maxRecDepth 20000 in
theorem gX7_rank_X7_isNoPlayer : GoodIn wsX7_rank (wsV RX7 132 RX7 yX7_isNoPlayer wsX7_isNoPlayer) := goodIn_app (goodIn_of _ (by decide +kernel)) ggX7_rank_X7_isNoPlayer
set_option maxRecDepth 20000 in
theorem ggX7_rank_X7_isThrown : GoodIn wsX7_rank wsX7_isThrown := goodIn_r _ [13, 14, 31, 32, 33, 34, 35, 36, 37, 38, 39, 40, 41, 42, 43, 44, 45, 46, 47, 48, 49, 50, 51, 52, 53, 54, 55, 56, 57, 58, 59, 60, 61] (by decide +kernel) (by decide +kernel)
set_option maxRecDepth 20000 in
theorem gX7_rank_X7_isThrown : GoodIn wsX7_rank (wsV RX7 110 RX7 yX7_isThrown wsX7_isThrown) := goodIn_app (goodIn_of _ (by decide +kernel)) ggX7_rank_X7_isThrown
theorem dX7_rank_0 : decode cX7_rank 0 = .ok (.aload_n 0, 1) := by decide +kernel
theorem dX7_rank_1 : decode cX7_rank 1 = .ok (.aload_n 0, 1) := by decide +kernel
theorem dX7_rank_2 : decode cX7_rank 2 = .ok (.iload_n 1, 1) := by decide +kernel
theorem dX7_rank_3 : decode cX7_rank 3 = .ok (.invokevirtual 132, 3) := by decide +kernel
theorem dX7_rank_6 : decode cX7_rank 6 = .ok (.iconst 1, 1) := by decide +kernel
theorem dX7_rank_7 : decode cX7_rank 7 = .ok (.invokevirtual 110, 3) := by decide +kernel
theorem dX7_rank_10 : decode cX7_rank 10 = .ok (.ifCond .ne 24, 3) := by decide +kernel
theorem dX7_rank_34 : decode cX7_rank 34 = .ok (.iconst 0, 1) := by decide +kernel
theorem dX7_rank_35 : decode cX7_rank 35 = .ok (.goto 8, 3) := by decide +kernel
theorem dX7_rank_43 : decode cX7_rank 43 = .ok (.ireturn, 1) := by decide +kernel
set_option maxRecDepth 20000 in
theorem ggX7_isAhead_X7_isNoPlayer : GoodIn wsX7_isAhead wsX7_isNoPlayer := goodIn_r _ [7, 8, 9, 10, 6, 11, 28, 29, 30, 31, 32, 33, 34, 35, 36, 37, 38, 39, 40, 41, 42, 43, 44, 45, 46, 47, 48, 49, 50, 51, 52, 53, 54, 55, 56, 57, 58] (by decide +kernel) (by decide +kernel)
set_option maxRecDepth 20000 in
theorem gX7_isAhead_X7_isNoPlayer : GoodIn wsX7_isAhead (wsV RX7 132 RX7 yX7_isNoPlayer wsX7_isNoPlayer) := goodIn_app (goodIn_of _ (by decide +kernel)) ggX7_isAhead_X7_isNoPlayer
set_option maxRecDepth 20000 in
theorem ggX7_isAhead_X7_isThrown : GoodIn wsX7_isAhead wsX7_isThrown := goodIn_r _ [15, 16, 28, 29, 30, 31, 32, 33, 34, 35, 36, 37, 38, 39, 40, 41, 42, 43, 44, 45, 46, 47, 48, 49, 50, 51, 52, 53, 54, 55, 56, 57, 58] (by decide +kernel) (by decide +kernel)
set_option maxRecDepth 20000 in
theorem gX7_isAhead_X7_isThrown : GoodIn wsX7_isAhead (wsV RX7 110 RX7 yX7_isThrown wsX7_isThrown) := goodIn_app (goodIn_of _ (by decide +kernel)) ggX7_isAhead_X7_isThrown
theorem dX7_isAhead_0 : decode cX7_isAhead 0 = .ok (.aload_n 0, 1) := by decide +kernel
theorem dX7_isAhead_1 : decode cX7_isAhead 1 = .ok (.aload_n 0, 1) := by decide +kernel
theorem dX7_isAhead_2 : decode cX7_isAhead 2 = .ok (.iload_n 1, 1) := by decide +kernel
theorem dX7_isAhead_3 : decode cX7_isAhead 3 = .ok (.invokevirtual 132, 3) := by decide +kernel
theorem dX7_isAhead_6 : decode cX7_isAhead 6 = .ok (.ifCond .ne 11, 3) := by decide +kernel
theorem dX7_isAhead_17 : decode cX7_isAhead 17 = .ok (.iconst 1, 1) := by decide +kernel
theorem dX7_isAhead_18 : decode cX7_isAhead 18 = .ok (.goto 4, 3) := by decide +kernel
theorem dX7_isAhead_22 : decode cX7_isAhead 22 = .ok (.iconst 1, 1) := by decide +kernel
theorem dX7_isAhead_23 : decode cX7_isAhead 23 = .ok (.invokevirtual 110, 3) := by decide +kernel
theorem dX7_isAhead_26 : decode cX7_isAhead 26 = .ok (.ifCond .ne 32, 3) := by decide +kernel
theorem dX7_isAhead_58 : decode cX7_isAhead 58 = .ok (.iconst 0, 1) := by decide +kernel
theorem dX7_isAhead_59 : decode cX7_isAhead 59 = .ok (.ireturn, 1) := by decide +kernel
set_option maxRecDepth 20000 in
theorem ggX7_post_X7_isNoPlayer : GoodIn wsX7_post wsX7_isNoPlayer := goodIn_r _ [20, 21, 22, 23, 19, 24, 216, 217, 218, 219, 220, 221, 222, 223, 224, 225, 226, 227, 228, 229, 230, 231, 232, 233, 234, 235, 236, 237, 238, 239, 240, 241, 242, 243, 244, 245, 246] (by decide +kernel) (by decide +kernel)
set_option maxRecDepth 20000 in
theorem gX7_post_X7_isNoPlayer : GoodIn wsX7_post (wsV RX7 132 RX7 yX7_isNoPlayer wsX7_isNoPlayer) := goodIn_app (goodIn_of _ (by decide +kernel)) ggX7_post_X7_isNoPlayer
set_option maxRecDepth 20000 in
theorem ggX7_post_X7_isThrown : GoodIn wsX7_post wsX7_isThrown := goodIn_r _ [28, 29, 216, 217, 218, 219, 220, 221, 222, 223, 224, 225, 226, 227, 228, 229, 230, 231, 232, 233, 234, 235, 236, 237, 238, 239, 240, 241, 242, 243, 244, 245, 246] (by decide +kernel) (by decide +kernel)
set_option maxRecDepth 20000 in
theorem gX7_post_X7_isThrown : GoodIn wsX7_post (wsV RX7 110 RX7 yX7_isThrown wsX7_isThrown) := goodIn_app (goodIn_of _ (by decide +kernel)) ggX7_post_X7_isThrown
theorem dX7_post_0 : decode cX7_post 0 = .ok (.aload_n 0, 1) := by decide +kernel
theorem dX7_post_1 : decode cX7_post 1 = .ok (.aload_n 0, 1) := by decide +kernel
theorem dX7_post_2 : decode cX7_post 2 = .ok (.iload_n 1, 1) := by decide +kernel
theorem dX7_post_3 : decode cX7_post 3 = .ok (.invokevirtual 132, 3) := by decide +kernel
theorem dX7_post_6 : decode cX7_post 6 = .ok (.iconst 1, 1) := by decide +kernel
theorem dX7_post_7 : decode cX7_post 7 = .ok (.invokevirtual 110, 3) := by decide +kernel
theorem dX7_post_10 : decode cX7_post 10 = .ok (.ifCond .ne 70, 3) := by decide +kernel
theorem dX7_post_80 : decode cX7_post 80 = .ok (.iconst 0, 1) := by decide +kernel
theorem dX7_post_81 : decode cX7_post 81 = .ok (.ireturn, 1) := by decide +kernel
set_option maxRecDepth 20000 in
theorem ggX7_difference_X7_isNoPlayer : GoodIn wsX7_difference wsX7_isNoPlayer := goodIn_r _ [8, 9, 10, 11, 7, 12, 47, 48, 49, 50, 51, 52, 53, 54, 55, 56, 57, 58, 59, 60, 61, 62, 63, 64, 65, 66, 67, 68, 69, 70, 71, 72, 73, 74, 75, 76, 77] (by decide +kernel) (by decide +kernel)
set_option maxRecDepth 20000 in
theorem gX7_difference_X7_isNoPlayer : GoodIn wsX7_difference (wsV RX7 132 RX7 yX7_isNoPlayer wsX7_isNoPlayer) := goodIn_app (goodIn_of _ (by decide +kernel)) ggX7_difference_X7_isNoPlayer
set_option maxRecDepth 20000 in
theorem ggX7_difference_X7_isThrown : GoodIn wsX7_difference wsX7_isThrown := goodIn_r _ [39, 40, 47, 48, 49, 50, 51, 52, 53, 54, 55, 56, 57, 58, 59, 60, 61, 62, 63, 64, 65, 66, 67, 68, 69, 70, 71, 72, 73, 74, 75, 76, 77] (by decide +kernel) (by decide +kernel)
set_option maxRecDepth 20000 in
theorem gX7_difference_X7_isThrown : GoodIn wsX7_difference (wsV RX7 110 RX7 yX7_isThrown wsX7_isThrown) := goodIn_app (goodIn_of _ (by decide +kernel)) ggX7_difference_X7_isThrown
theorem dX7_difference_0 : decode cX7_difference 0 = .ok (.aload_n 0, 1) := by decide +kernel
theorem dX7_difference_1 : decode cX7_difference 1 = .ok (.aload_n 0, 1) := by decide +kernel
theorem dX7_difference_2 : decode cX7_difference 2 = .ok (.iload_n 1, 1) := by decide +kernel
theorem dX7_difference_3 : decode cX7_difference 3 = .ok (.invokevirtual 132, 3) := by decide +kernel
theorem dX7_difference_6 : decode cX7_difference 6 = .ok (.ifCond .ne 27, 3) := by decide +kernel
theorem dX7_difference_33 : decode cX7_difference 33 = .ok (.iconst 1, 1) := by decide +kernel
theorem dX7_difference_34 : decode cX7_difference 34 = .ok (.goto 4, 3) := by decide +kernel
theorem dX7_difference_38 : decode cX7_difference 38 = .ok (.iconst 1, 1) := by decide +kernel
theorem dX7_difference_39 : decode cX7_difference 39 = .ok (.invokevirtual 110, 3) := by decide +kernel
theorem dX7_difference_42 : decode cX7_difference 42 = .ok (.ifCond .eq 7, 3) := by decide +kernel
theorem dX7_difference_45 : decode cX7_difference 45 = .ok (.iconst 0, 1) := by decide +kernel
theorem dX7_difference_46 : decode cX7_difference 46 = .ok (.goto 24, 3) := by decide +kernel
theorem dX7_difference_70 : decode cX7_difference 70 = .ok (.ireturn, 1) := by decide +kernel
set_option maxRecDepth 20000 in
theorem ggX7_index_X7_isNoPlayer : GoodIn wsX7_index wsX7_isNoPlayer := goodIn_r _ [8, 9, 10, 11, 7, 12, 41, 42, 43, 44, 45, 46, 47, 48, 49, 50, 51, 52, 53, 54, 55, 56, 57, 58, 59, 60, 61, 62, 63, 64, 65, 66, 67, 68, 69, 70, 71] (by decide +kernel) (by decide +kernel)
set_option maxRecDepth 20000 in
theorem gX7_index_X7_isNoPlayer : GoodIn wsX7_index (wsV RX7 132 RX7 yX7_isNoPlayer wsX7_isNoPlayer) := goodIn_app (goodIn_of _ (by decide +kernel)) ggX7_index_X7_isNoPlayer
set_option maxRecDepth 20000 in
theorem ggX7_index_X7_isThrown : GoodIn wsX7_index wsX7_isThrown := goodIn_r _ [16, 17, 41, 42, 43, 44, 45, 46, 47, 48, 49, 50, 51, 52, 53, 54, 55, 56, 57, 58, 59, 60, 61, 62, 63, 64, 65, 66, 67, 68, 69, 70, 71] (by decide +kernel) (by decide +kernel)
set_option maxRecDepth 20000 in
theorem gX7_index_X7_isThrown : GoodIn wsX7_index (wsV RX7 110 RX7 yX7_isThrown wsX7_isThrown) := goodIn_app (goodIn_of _ (by decide +kernel)) ggX7_index_X7_isThrown
theorem dX7_index_0 : decode cX7_index 0 = .ok (.aload_n 0, 1) := by decide +kernel
theorem dX7_index_1 : decode cX7_index 1 = .ok (.aload_n 0, 1) := by decide +kernel
theorem dX7_index_2 : decode cX7_index 2 = .ok (.iload_n 1, 1) := by decide +kernel
theorem dX7_index_3 : decode cX7_index 3 = .ok (.invokevirtual 132, 3) := by decide +kernel
theorem dX7_index_6 : decode cX7_index 6 = .ok (.iconst 1, 1) := by decide +kernel
theorem dX7_index_7 : decode cX7_index 7 = .ok (.invokevirtual 110, 3) := by decide +kernel
theorem dX7_index_10 : decode cX7_index 10 = .ok (.ifCond .ne 25, 3) := by decide +kernel
theorem dX7_index_35 : decode cX7_index 35 = .ok (.iconst 0, 1) := by decide +kernel
theorem dX7_index_36 : decode cX7_index 36 = .ok (.goto 9, 3) := by decide +kernel
theorem dX7_index_45 : decode cX7_index 45 = .ok (.ireturn, 1) := by decide +kernel
set_option maxRecDepth 20000 in
theorem ggX7_lowIndex_X7_isNoPlayer : GoodIn wsX7_lowIndex wsX7_isNoPlayer := goodIn_r _ [8, 9, 10, 11, 7, 12, 41, 42, 43, 44, 45, 46, 47, 48, 49, 50, 51, 52, 53, 54, 55, 56, 57, 58, 59, 60, 61, 62, 63, 64, 65, 66, 67, 68, 69, 70, 71] (by decide +kernel) (by decide +kernel)
set_option maxRecDepth 20000 in
theorem gX7_lowIndex_X7_isNoPlayer : GoodIn wsX7_lowIndex (wsV RX7 132 RX7 yX7_isNoPlayer wsX7_isNoPlayer) := goodIn_app (goodIn_of _ (by decide +kernel)) ggX7_lowIndex_X7_isNoPlayer
set_option maxRecDepth 20000 in
theorem ggX7_lowIndex_X7_isThrown : GoodIn wsX7_lowIndex wsX7_isThrown := goodIn_r _ [16, 17, 41, 42, 43, 44, 45, 46, 47, 48, 49, 50, 51, 52, 53, 54, 55, 56, 57, 58, 59, 60, 61, 62, 63, 64, 65, 66, 67, 68, 69, 70, 71] (by decide +kernel) (by decide +kernel)
set_option maxRecDepth 20000 in
theorem gX7_lowIndex_X7_isThrown : GoodIn wsX7_lowIndex (wsV RX7 110 RX7 yX7_isThrown wsX7_isThrown) := goodIn_app (goodIn_of _ (by decide +kernel)) ggX7_lowIndex_X7_isThrown
theorem dX7_lowIndex_0 : decode cX7_lowIndex 0 = .ok (.aload_n 0, 1) := by decide +kernel
theorem dX7_lowIndex_1 : decode cX7_lowIndex 1 = .ok (.aload_n 0, 1) := by decide +kernel
theorem dX7_lowIndex_2 : decode cX7_lowIndex 2 = .ok (.iload_n 1, 1) := by decide +kernel
theorem dX7_lowIndex_3 : decode cX7_lowIndex 3 = .ok (.invokevirtual 132, 3) := by decide +kernel
theorem dX7_lowIndex_6 : decode cX7_lowIndex 6 = .ok (.iconst 1, 1) := by decide +kernel
theorem dX7_lowIndex_7 : decode cX7_lowIndex 7 = .ok (.invokevirtual 110, 3) := by decide +kernel
theorem dX7_lowIndex_10 : decode cX7_lowIndex 10 = .ok (.ifCond .ne 25, 3) := by decide +kernel
theorem dX7_lowIndex_35 : decode cX7_lowIndex 35 = .ok (.iconst 0, 1) := by decide +kernel
theorem dX7_lowIndex_36 : decode cX7_lowIndex 36 = .ok (.goto 9, 3) := by decide +kernel
theorem dX7_lowIndex_45 : decode cX7_lowIndex 45 = .ok (.ireturn, 1) := by decide +kernel
set_option maxRecDepth 20000 in
theorem ggX7_penaltyShare_X7_isNoPlayer : GoodIn wsX7_penaltyShare wsX7_isNoPlayer := goodIn_r _ [8, 9, 10, 11, 7, 12, 18, 19, 20, 21, 22, 23, 24, 25, 26, 27, 28, 29, 30, 31, 32, 33, 34, 35, 36, 37, 38, 39, 40, 41, 42, 43, 44, 45, 46, 47, 48] (by decide +kernel) (by decide +kernel)
set_option maxRecDepth 20000 in
theorem gX7_penaltyShare_X7_isNoPlayer : GoodIn wsX7_penaltyShare (wsV RX7 132 RX7 yX7_isNoPlayer wsX7_isNoPlayer) := goodIn_app (goodIn_of _ (by decide +kernel)) ggX7_penaltyShare_X7_isNoPlayer
set_option maxRecDepth 20000 in
theorem ggX7_penaltyShare_X7_isThrown : GoodIn wsX7_penaltyShare wsX7_isThrown := goodIn_r _ [16, 17, 18, 19, 20, 21, 22, 23, 24, 25, 26, 27, 28, 29, 30, 31, 32, 33, 34, 35, 36, 37, 38, 39, 40, 41, 42, 43, 44, 45, 46, 47, 48] (by decide +kernel) (by decide +kernel)
set_option maxRecDepth 20000 in
theorem gX7_penaltyShare_X7_isThrown : GoodIn wsX7_penaltyShare (wsV RX7 110 RX7 yX7_isThrown wsX7_isThrown) := goodIn_app (goodIn_of _ (by decide +kernel)) ggX7_penaltyShare_X7_isThrown
theorem dX7_penaltyShare_0 : decode cX7_penaltyShare 0 = .ok (.aload_n 0, 1) := by decide +kernel
theorem dX7_penaltyShare_1 : decode cX7_penaltyShare 1 = .ok (.aload_n 0, 1) := by decide +kernel
theorem dX7_penaltyShare_2 : decode cX7_penaltyShare 2 = .ok (.iload_n 1, 1) := by decide +kernel
theorem dX7_penaltyShare_3 : decode cX7_penaltyShare 3 = .ok (.invokevirtual 132, 3) := by decide +kernel
theorem dX7_penaltyShare_6 : decode cX7_penaltyShare 6 = .ok (.iconst 1, 1) := by decide +kernel
theorem dX7_penaltyShare_7 : decode cX7_penaltyShare 7 = .ok (.invokevirtual 110, 3) := by decide +kernel
theorem dX7_penaltyShare_10 : decode cX7_penaltyShare 10 = .ok (.ifCond .eq 5, 3) := by decide +kernel
theorem dX7_penaltyShare_13 : decode cX7_penaltyShare 13 = .ok (.fconst 0, 1) := by decide +kernel
theorem dX7_penaltyShare_14 : decode cX7_penaltyShare 14 = .ok (.freturn, 1) := by decide +kernel
set_option maxRecDepth 20000 in
theorem ggX7_meanScore_X7_isNoHole : GoodIn wsX7_meanScore wsX7_isNoHole := goodIn_r _ [8, 9, 10, 11, 7, 12, 18, 19, 20, 21, 22, 23, 24, 25, 26, 27, 28, 29, 30, 31, 32, 33, 34, 35, 36, 37, 38, 39, 40, 41, 42, 43, 44, 45, 46, 47, 48] (by decide +kernel) (by decide +kernel)
set_option maxRecDepth 20000 in
theorem gX7_meanScore_X7_isNoHole : GoodIn wsX7_meanScore (wsV RX7 128 RX7 yX7_isNoHole wsX7_isNoHole) := goodIn_app (goodIn_of _ (by decide +kernel)) ggX7_meanScore_X7_isNoHole
set_option maxRecDepth 20000 in
theorem ggX7_meanScore_X7_isThrown : GoodIn wsX7_meanScore wsX7_isThrown := goodIn_r _ [16, 17, 18, 19, 20, 21, 22, 23, 24, 25, 26, 27, 28, 29, 30, 31, 32, 33, 34, 35, 36, 37, 38, 39, 40, 41, 42, 43, 44, 45, 46, 47, 48] (by decide +kernel) (by decide +kernel)
set_option maxRecDepth 20000 in
theorem gX7_meanScore_X7_isThrown : GoodIn wsX7_meanScore (wsV RX7 110 RX7 yX7_isThrown wsX7_isThrown) := goodIn_app (goodIn_of _ (by decide +kernel)) ggX7_meanScore_X7_isThrown
theorem dX7_meanScore_0 : decode cX7_meanScore 0 = .ok (.aload_n 0, 1) := by decide +kernel
theorem dX7_meanScore_1 : decode cX7_meanScore 1 = .ok (.aload_n 0, 1) := by decide +kernel
theorem dX7_meanScore_2 : decode cX7_meanScore 2 = .ok (.iload_n 1, 1) := by decide +kernel
theorem dX7_meanScore_3 : decode cX7_meanScore 3 = .ok (.invokevirtual 128, 3) := by decide +kernel
theorem dX7_meanScore_6 : decode cX7_meanScore 6 = .ok (.iconst 1, 1) := by decide +kernel
theorem dX7_meanScore_7 : decode cX7_meanScore 7 = .ok (.invokevirtual 110, 3) := by decide +kernel
theorem dX7_meanScore_10 : decode cX7_meanScore 10 = .ok (.ifCond .eq 5, 3) := by decide +kernel
theorem dX7_meanScore_13 : decode cX7_meanScore 13 = .ok (.dconst 0, 1) := by decide +kernel
theorem dX7_meanScore_14 : decode cX7_meanScore 14 = .ok (.dreturn, 1) := by decide +kernel
set_option maxHeartbeats 4000000 in
set_option maxRecDepth 100000 in
theorem c_X7_area (l : Launch) (D : va_G) (h0 : Nat) (r : Nat → Nat) (sz : Nat) (a1 a2 a3 a4 a5 a6 : Int32) : Met l yX7_area wsX7_area ({ frames := 60, cells := 1, slots := 9, locals := 600 }) (va_Pc [.ref h0, .int a1, .int a2, .int a3, .int a4, .int a5, .int a6] (PX7 D h0 r 0 sz)) (va_Qi (fun (r9 : Int32) (u : List Value) => u[30]? = some (.int 1)) (fun u t => va_P D vwCl [(h0, .inr (13, u))] t.heap) (rg1 h0 sz)) 1 9 (rg1 h0 sz) := by
  refine Met.ofW (cc := cX7_area) (maxL := 10) (ret := (some .int)) (by decide +kernel) rfl ?_
  intro p e s m args below meth c s₁ B hml hv
  obtain ⟨rfl, hsz, hP, hK⟩ := hv
  have hx := B.exec
  have hb := B.bytes
  have hr := B.returns
  have hts := atoms_spec (ws := wsX7_area) B.pre
  have hown : s.vm.findClass RX7 = some m.cls := findClass_of_methodNamed B.named
  have hlocks := B.notSynchronized
  subst hsz
  have hD : va_D (rg1 h0 s.heap.size) [(h0, .inr (13, [.ref (r 0), .ref (r 1), .ref (r 2), .ref (r 3), .ref (r 4), .ref (r 5), .ref (r 6), .ref (r 7), .ref (r 8), .ref (r 9), .ref (r 10), .ref (r 11), .ref (r 12), .ref (r 13), .ref (r 14), .ref (r 15), .int 0, .int 0, .int 1, .int 110, .int 0, .int 0, .int 0, .int 0, .int 0, .int 0, .int 0, .int 0, .int 0, .int 0, .int 0]))] := rg1_D
  generalize hAe : rg1 h0 s.heap.size = A at hD ⊢
  have hA : ∀ q : Nat, s.heap.size ≤ q → A q := fun q h => by rw [← hAe]; exact Or.inr h
  have hS : va_S A s.heap s.heap [] := va_S.rf
  have hP : va_P D vwCl [(h0, .inr (13, [.ref (r 0), .ref (r 1), .ref (r 2), .ref (r 3), .ref (r 4), .ref (r 5), .ref (r 6), .ref (r 7), .ref (r 8), .ref (r 9), .ref (r 10), .ref (r 11), .ref (r 12), .ref (r 13), .ref (r 14), .ref (r 15), .int 0, .int 0, .int 1, .int 110, .int 0, .int 0, .int 0, .int 0, .int 0, .int 0, .int 0, .int 0, .int 0, .int 0, .int 0]))] s.heap := hP
  have hl := lv_entry ([.ref h0, .int a1, .int a2, .int a3, .int a4, .int a5, .int a6]) (n := 10) (Nat.le_of_ble_eq_true rfl)
  rw [lg_entry_eq]
  generalize (lg_sl ([.ref h0, .int a1, .int a2, .int a3, .int a4, .int a5, .int a6]) ++ List.replicate (10 - (lg_sl ([.ref h0, .int a1, .int a2, .int a3, .int a4, .int a5, .int a6])).length) Slot.unset).toArray = ls at hl ⊢
  have hl : lv_has ls 10 [(0, .ref h0), (1, .int a1), (2, .int a2), (3, .int a3), (4, .int a4), (5, .int a5), (6, .int a6)] := hl
  refine lv_iload_n hx hb dX7_area_0 rfl (lv_at hl 2 rfl) ?_
  have hKc := hK.sub (tys' := []) [] rfl
  refine va_calli (va_runS (As := [.int a2]) (rest := []) ⟨hx, hb, hml, hown, hts⟩ (c_X7_isKind l D s.heap.size a2) (va_cwS 1 hts gX7_area_X7_isKind rfl rfl rfl (by decide +kernel) ⟨Nat.le_of_ble_eq_true rfl, Nat.le_of_ble_eq_true rfl⟩) ⟨fun a U g mk q => ⟨q.1, q.2.1, va_K.moved (u := U) (U := U.calling g mk a) (Vm.Alike.refl U.vm) q.2.2⟩, fun U hU hW => ⟨rfl, by rw [hU], va_K.moved hW.alike hKc⟩⟩ rfl rfl hl.1 rfl (lv_room (Nat.le_of_ble_eq_true rfl)) dX7_area_1 ⟨Nat.le_of_ble_eq_true rfl, Nat.le_of_ble_eq_true rfl⟩) hS (fun q h1 h2 => absurd h1 (Nat.not_lt.mpr h2)) (fun q h => hA q (Nat.le_trans hS.1 h)) (fun k1 u t H1 locs ht hvm hk1 hB hz1 hk1 hS => ?_)
  have hP := va_kept0 hP hk1
  generalize H1 = H at hP hS ⊢
  have hP : va_P D vwCl [(h0, .inr (13, [.ref (r 0), .ref (r 1), .ref (r 2), .ref (r 3), .ref (r 4), .ref (r 5), .ref (r 6), .ref (r 7), .ref (r 8), .ref (r 9), .ref (r 10), .ref (r 11), .ref (r 12), .ref (r 13), .ref (r 14), .ref (r 15), .int 0, .int 0, .int 1, .int 110, .int 0, .int 0, .int 0, .int 0, .int 0, .int 0, .int 0, .int 0, .int 0, .int 0, .int 0]))] H := hP
  refine W.widen (k := 1) (n := 9) (by decide) (by decide) ?_
  refine lv_if_eq (tgt := 43) hx hb dX7_area_4 (by decide) (fun c_2 => ?_) (fun c_2 => ?_)
  · skip
    refine lv_iconst (v := 0) hx hb dX7_area_43 (by decide) ?_
    refine lv_istore (lv' := [(7, .int 0), (0, .ref h0), (1, .int a1), (2, .int a2), (3, .int a3), (4, .int a4), (5, .int a5), (6, .int a6)]) hx hb dX7_area_44 hl (by decide) rfl (fun ls hl => ?_)
    refine lv_aload_n hx hb dX7_area_46 rfl (lv_at hl 1 rfl) ?_
    refine lv_aload_n hx hb dX7_area_47 rfl (lv_at hl 1 rfl) ?_
    refine lv_iload_n hx hb dX7_area_48 rfl (lv_at hl 2 rfl) ?_
    refine va_calli (va_runV (As := [.int a1]) (rest := [.ref h0]) ⟨hx, hb, hml, hown, hts⟩ (c_X7_isNoHole l D h0 r 0 H.size a1) (cwV 1 hts gX7_area_X7_isNoHole rfl rfl rfl (by decide +kernel) ⟨Nat.le_of_ble_eq_true rfl, Nat.le_of_ble_eq_true rfl⟩) ⟨fun a U g mk q => ⟨q.1, PX7.blind q.2⟩, va_recv hK hP (ci := 13) (q0 := 0) rfl rfl, fun U hU hW => ⟨rfl, PX7.go hP hK hU hW⟩⟩ rfl rfl hl.1 rfl (lv_room (Nat.le_of_ble_eq_true rfl)) dX7_area_49 ⟨Nat.le_of_ble_eq_true rfl, Nat.le_of_ble_eq_true rfl⟩) hS (fun q h1 h2 => absurd h1 (Nat.not_lt.mpr h2)) (fun q h => hA q (Nat.le_trans hS.1 h)) (fun r3 u t H1 locs ht hvm hw hB hz1 hk1 hS => ?_)
    have hP := va_kept0 hP hk1
    generalize H1 = H at hP hS ⊢
    have hP : va_P D vwCl [(h0, .inr (13, [.ref (r 0), .ref (r 1), .ref (r 2), .ref (r 3), .ref (r 4), .ref (r 5), .ref (r 6), .ref (r 7), .ref (r 8), .ref (r 9), .ref (r 10), .ref (r 11), .ref (r 12), .ref (r 13), .ref (r 14), .ref (r 15), .int 0, .int 0, .int 1, .int 110, .int 0, .int 0, .int 0, .int 0, .int 0, .int 0, .int 0, .int 0, .int 0, .int 0, .int 0]))] H := hP
    obtain rfl : r3 = 1 := hw
    refine lv_iconst (v := 1) hx hb dX7_area_52 (by decide) ?_
    have hFc : ∀ q : Nat, rg1 h0 H.size q → A q := fun q h => h.elim (fun e => by rw [e]; exact hD.2 0 _ rfl) (fun h => hA q (Nat.le_trans hS.1 h))
    refine va_calli (va_runV (As := [.int 1, .int 1]) (rest := []) ⟨hx, hb, hml, hown, hts⟩ (c_X7_isThrown l D h0 r 0 H.size 1 1 (Or.inr rfl)) (cwV 2 hts gX7_area_X7_isThrown rfl rfl rfl (by decide +kernel) ⟨Nat.le_of_ble_eq_true rfl, Nat.le_of_ble_eq_true rfl⟩) ⟨fun a U g mk q => ⟨q.1, PX7.blind q.2⟩, va_recv hK hP (ci := 13) (q0 := 0) rfl rfl, fun U hU hW => ⟨rfl, PX7.go hP hK hU hW⟩⟩ rfl rfl hl.1 rfl (lv_room (Nat.le_of_ble_eq_true rfl)) dX7_area_53 ⟨Nat.le_of_ble_eq_true rfl, Nat.le_of_ble_eq_true rfl⟩) hS (fun q _ h => hFc q h) hFc (fun r4 u t H1 locs ht hvm hw hB hz1 hk1 hS => ?_)
    rw [ht, if_neg (by decide)] at hB
    have hP := hB
    generalize H1 = H at hP hS ⊢
    have hP : va_P D vwCl [(h0, .inr (13, [.ref (r 0), .ref (r 1), .ref (r 2), .ref (r 3), .ref (r 4), .ref (r 5), .ref (r 6), .ref (r 7), .ref (r 8), .ref (r 9), .ref (r 10), .ref (r 11), .ref (r 12), .ref (r 13), .ref (r 14), .ref (r 15), .int 0, .int 0, .int 1, .int 110, .int 0, .int 0, .int 0, .int 0, .int 0, .int 0, .int 0, .int 0, .int 0, .int 0, .int 1]))] H := hP
    have hD : va_D A [(h0, .inr (13, [.ref (r 0), .ref (r 1), .ref (r 2), .ref (r 3), .ref (r 4), .ref (r 5), .ref (r 6), .ref (r 7), .ref (r 8), .ref (r 9), .ref (r 10), .ref (r 11), .ref (r 12), .ref (r 13), .ref (r 14), .ref (r 15), .int 0, .int 0, .int 1, .int 110, .int 0, .int 0, .int 0, .int 0, .int 0, .int 0, .int 0, .int 0, .int 0, .int 0, .int 1]))] := by rw [← hAe]; exact rg1_D
    obtain rfl : r4 = 1 := hw
    refine lv_if_ne (tgt := 111) hx hb dX7_area_56 (by decide) (fun _ => ?_) (fun c => by first | exact absurd (by decide) c | exact absurd c (by decide))
    refine lv_iconst (v := 0) hx hb dX7_area_111 (by decide) ?_
    have hP9 := hP
    exact W.iret (v := 0) hx hb hr (fun t ht hW => ⟨⟨0, [.ref (r 0), .ref (r 1), .ref (r 2), .ref (r 3), .ref (r 4), .ref (r 5), .ref (r 6), .ref (r 7), .ref (r 8), .ref (r 9), .ref (r 10), .ref (r 11), .ref (r 12), .ref (r 13), .ref (r 14), .ref (r 15), .int 0, .int 0, .int 1, .int 110, .int 0, .int 0, .int 0, .int 0, .int 0, .int 0, .int 0, .int 0, .int 0, .int 0, .int 1], rfl, rfl, by rw [← ht] at hP9; exact hP9⟩, hS.F ht⟩) hS.2.2 dX7_area_112
  · skip
    refine lv_iload_n hx hb dX7_area_7 rfl (lv_at hl 3 rfl) ?_
    refine lv_iload hx hb dX7_area_8 (lv_at hl 4 rfl) ?_
    refine va_calli (va_runS (As := [.int a3, .int a4]) (rest := []) ⟨hx, hb, hml, hown, hts⟩ (c_X7_isCell l H.size a3 a4) (va_cwS 2 hts gX7_area_X7_isCell rfl rfl rfl (by decide +kernel) ⟨Nat.le_of_ble_eq_true rfl, Nat.le_of_ble_eq_true rfl⟩) ⟨fun a U g mk q => q, fun U hU hW => ⟨rfl, congrArg Array.size hU⟩⟩ rfl rfl hl.1 rfl (lv_room (Nat.le_of_ble_eq_true rfl)) dX7_area_10 ⟨Nat.le_of_ble_eq_true rfl, Nat.le_of_ble_eq_true rfl⟩) hS (fun q h1 h2 => absurd h1 (Nat.not_lt.mpr h2)) (fun q h => hA q (Nat.le_trans hS.1 h)) (fun r6 u t H1 locs ht hvm hw hB hz1 hk1 hS => ?_)
    have hP := va_kept0 hP hk1
    generalize H1 = H at hP hS ⊢
    have hP : va_P D vwCl [(h0, .inr (13, [.ref (r 0), .ref (r 1), .ref (r 2), .ref (r 3), .ref (r 4), .ref (r 5), .ref (r 6), .ref (r 7), .ref (r 8), .ref (r 9), .ref (r 10), .ref (r 11), .ref (r 12), .ref (r 13), .ref (r 14), .ref (r 15), .int 0, .int 0, .int 1, .int 110, .int 0, .int 0, .int 0, .int 0, .int 0, .int 0, .int 0, .int 0, .int 0, .int 0, .int 0]))] H := hP
    obtain rfl : r6 = bCell a3 a4 := hw
    refine lv_if_eq (tgt := 43) hx hb dX7_area_13 (by decide) (fun c_7 => ?_) (fun c_7 => ?_)
    · skip
      refine lv_iconst (v := 0) hx hb dX7_area_43 (by decide) ?_
      refine lv_istore (lv' := [(7, .int 0), (0, .ref h0), (1, .int a1), (2, .int a2), (3, .int a3), (4, .int a4), (5, .int a5), (6, .int a6)]) hx hb dX7_area_44 hl (by decide) rfl (fun ls hl => ?_)
      refine lv_aload_n hx hb dX7_area_46 rfl (lv_at hl 1 rfl) ?_
      refine lv_aload_n hx hb dX7_area_47 rfl (lv_at hl 1 rfl) ?_
      refine lv_iload_n hx hb dX7_area_48 rfl (lv_at hl 2 rfl) ?_
      refine va_calli (va_runV (As := [.int a1]) (rest := [.ref h0]) ⟨hx, hb, hml, hown, hts⟩ (c_X7_isNoHole l D h0 r 0 H.size a1) (cwV 1 hts gX7_area_X7_isNoHole rfl rfl rfl (by decide +kernel) ⟨Nat.le_of_ble_eq_true rfl, Nat.le_of_ble_eq_true rfl⟩) ⟨fun a U g mk q => ⟨q.1, PX7.blind q.2⟩, va_recv hK hP (ci := 13) (q0 := 0) rfl rfl, fun U hU hW => ⟨rfl, PX7.go hP hK hU hW⟩⟩ rfl rfl hl.1 rfl (lv_room (Nat.le_of_ble_eq_true rfl)) dX7_area_49 ⟨Nat.le_of_ble_eq_true rfl, Nat.le_of_ble_eq_true rfl⟩) hS (fun q h1 h2 => absurd h1 (Nat.not_lt.mpr h2)) (fun q h => hA q (Nat.le_trans hS.1 h)) (fun r8 u t H1 locs ht hvm hw hB hz1 hk1 hS => ?_)
      have hP := va_kept0 hP hk1
      generalize H1 = H at hP hS ⊢
      have hP : va_P D vwCl [(h0, .inr (13, [.ref (r 0), .ref (r 1), .ref (r 2), .ref (r 3), .ref (r 4), .ref (r 5), .ref (r 6), .ref (r 7), .ref (r 8), .ref (r 9), .ref (r 10), .ref (r 11), .ref (r 12), .ref (r 13), .ref (r 14), .ref (r 15), .int 0, .int 0, .int 1, .int 110, .int 0, .int 0, .int 0, .int 0, .int 0, .int 0, .int 0, .int 0, .int 0, .int 0, .int 0]))] H := hP
      obtain rfl : r8 = 1 := hw
      refine lv_iconst (v := 1) hx hb dX7_area_52 (by decide) ?_
      have hFc : ∀ q : Nat, rg1 h0 H.size q → A q := fun q h => h.elim (fun e => by rw [e]; exact hD.2 0 _ rfl) (fun h => hA q (Nat.le_trans hS.1 h))
      refine va_calli (va_runV (As := [.int 1, .int 1]) (rest := []) ⟨hx, hb, hml, hown, hts⟩ (c_X7_isThrown l D h0 r 0 H.size 1 1 (Or.inr rfl)) (cwV 2 hts gX7_area_X7_isThrown rfl rfl rfl (by decide +kernel) ⟨Nat.le_of_ble_eq_true rfl, Nat.le_of_ble_eq_true rfl⟩) ⟨fun a U g mk q => ⟨q.1, PX7.blind q.2⟩, va_recv hK hP (ci := 13) (q0 := 0) rfl rfl, fun U hU hW => ⟨rfl, PX7.go hP hK hU hW⟩⟩ rfl rfl hl.1 rfl (lv_room (Nat.le_of_ble_eq_true rfl)) dX7_area_53 ⟨Nat.le_of_ble_eq_true rfl, Nat.le_of_ble_eq_true rfl⟩) hS (fun q _ h => hFc q h) hFc (fun r9 u t H1 locs ht hvm hw hB hz1 hk1 hS => ?_)
      rw [ht, if_neg (by decide)] at hB
      have hP := hB
      generalize H1 = H at hP hS ⊢
      have hP : va_P D vwCl [(h0, .inr (13, [.ref (r 0), .ref (r 1), .ref (r 2), .ref (r 3), .ref (r 4), .ref (r 5), .ref (r 6), .ref (r 7), .ref (r 8), .ref (r 9), .ref (r 10), .ref (r 11), .ref (r 12), .ref (r 13), .ref (r 14), .ref (r 15), .int 0, .int 0, .int 1, .int 110, .int 0, .int 0, .int 0, .int 0, .int 0, .int 0, .int 0, .int 0, .int 0, .int 0, .int 1]))] H := hP
      have hD : va_D A [(h0, .inr (13, [.ref (r 0), .ref (r 1), .ref (r 2), .ref (r 3), .ref (r 4), .ref (r 5), .ref (r 6), .ref (r 7), .ref (r 8), .ref (r 9), .ref (r 10), .ref (r 11), .ref (r 12), .ref (r 13), .ref (r 14), .ref (r 15), .int 0, .int 0, .int 1, .int 110, .int 0, .int 0, .int 0, .int 0, .int 0, .int 0, .int 0, .int 0, .int 0, .int 0, .int 1]))] := by rw [← hAe]; exact rg1_D
      obtain rfl : r9 = 1 := hw
      refine lv_if_ne (tgt := 111) hx hb dX7_area_56 (by decide) (fun _ => ?_) (fun c => by first | exact absurd (by decide) c | exact absurd c (by decide))
      refine lv_iconst (v := 0) hx hb dX7_area_111 (by decide) ?_
      have hP9 := hP
      exact W.iret (v := 0) hx hb hr (fun t ht hW => ⟨⟨0, [.ref (r 0), .ref (r 1), .ref (r 2), .ref (r 3), .ref (r 4), .ref (r 5), .ref (r 6), .ref (r 7), .ref (r 8), .ref (r 9), .ref (r 10), .ref (r 11), .ref (r 12), .ref (r 13), .ref (r 14), .ref (r 15), .int 0, .int 0, .int 1, .int 110, .int 0, .int 0, .int 0, .int 0, .int 0, .int 0, .int 0, .int 0, .int 0, .int 0, .int 1], rfl, rfl, by rw [← ht] at hP9; exact hP9⟩, hS.F ht⟩) hS.2.2 dX7_area_112
    · skip
      refine lv_iload hx hb dX7_area_16 (lv_at hl 5 rfl) ?_
      refine lv_iload hx hb dX7_area_18 (lv_at hl 6 rfl) ?_
      refine va_calli (va_runS (As := [.int a5, .int a6]) (rest := []) ⟨hx, hb, hml, hown, hts⟩ (c_X7_isCell l H.size a5 a6) (va_cwS 2 hts gX7_area_X7_isCell rfl rfl rfl (by decide +kernel) ⟨Nat.le_of_ble_eq_true rfl, Nat.le_of_ble_eq_true rfl⟩) ⟨fun a U g mk q => q, fun U hU hW => ⟨rfl, congrArg Array.size hU⟩⟩ rfl rfl hl.1 rfl (lv_room (Nat.le_of_ble_eq_true rfl)) dX7_area_20 ⟨Nat.le_of_ble_eq_true rfl, Nat.le_of_ble_eq_true rfl⟩) hS (fun q h1 h2 => absurd h1 (Nat.not_lt.mpr h2)) (fun q h => hA q (Nat.le_trans hS.1 h)) (fun r11 u t H1 locs ht hvm hw hB hz1 hk1 hS => ?_)
      have hP := va_kept0 hP hk1
      generalize H1 = H at hP hS ⊢
      have hP : va_P D vwCl [(h0, .inr (13, [.ref (r 0), .ref (r 1), .ref (r 2), .ref (r 3), .ref (r 4), .ref (r 5), .ref (r 6), .ref (r 7), .ref (r 8), .ref (r 9), .ref (r 10), .ref (r 11), .ref (r 12), .ref (r 13), .ref (r 14), .ref (r 15), .int 0, .int 0, .int 1, .int 110, .int 0, .int 0, .int 0, .int 0, .int 0, .int 0, .int 0, .int 0, .int 0, .int 0, .int 0]))] H := hP
      obtain rfl : r11 = bCell a5 a6 := hw
      refine lv_if_eq (tgt := 43) hx hb dX7_area_23 (by decide) (fun c_12 => ?_) (fun c_12 => ?_)
      · skip
        refine lv_iconst (v := 0) hx hb dX7_area_43 (by decide) ?_
        refine lv_istore (lv' := [(7, .int 0), (0, .ref h0), (1, .int a1), (2, .int a2), (3, .int a3), (4, .int a4), (5, .int a5), (6, .int a6)]) hx hb dX7_area_44 hl (by decide) rfl (fun ls hl => ?_)
        refine lv_aload_n hx hb dX7_area_46 rfl (lv_at hl 1 rfl) ?_
        refine lv_aload_n hx hb dX7_area_47 rfl (lv_at hl 1 rfl) ?_
        refine lv_iload_n hx hb dX7_area_48 rfl (lv_at hl 2 rfl) ?_
        refine va_calli (va_runV (As := [.int a1]) (rest := [.ref h0]) ⟨hx, hb, hml, hown, hts⟩ (c_X7_isNoHole l D h0 r 0 H.size a1) (cwV 1 hts gX7_area_X7_isNoHole rfl rfl rfl (by decide +kernel) ⟨Nat.le_of_ble_eq_true rfl, Nat.le_of_ble_eq_true rfl⟩) ⟨fun a U g mk q => ⟨q.1, PX7.blind q.2⟩, va_recv hK hP (ci := 13) (q0 := 0) rfl rfl, fun U hU hW => ⟨rfl, PX7.go hP hK hU hW⟩⟩ rfl rfl hl.1 rfl (lv_room (Nat.le_of_ble_eq_true rfl)) dX7_area_49 ⟨Nat.le_of_ble_eq_true rfl, Nat.le_of_ble_eq_true rfl⟩) hS (fun q h1 h2 => absurd h1 (Nat.not_lt.mpr h2)) (fun q h => hA q (Nat.le_trans hS.1 h)) (fun r13 u t H1 locs ht hvm hw hB hz1 hk1 hS => ?_)
        have hP := va_kept0 hP hk1
        generalize H1 = H at hP hS ⊢
        have hP : va_P D vwCl [(h0, .inr (13, [.ref (r 0), .ref (r 1), .ref (r 2), .ref (r 3), .ref (r 4), .ref (r 5), .ref (r 6), .ref (r 7), .ref (r 8), .ref (r 9), .ref (r 10), .ref (r 11), .ref (r 12), .ref (r 13), .ref (r 14), .ref (r 15), .int 0, .int 0, .int 1, .int 110, .int 0, .int 0, .int 0, .int 0, .int 0, .int 0, .int 0, .int 0, .int 0, .int 0, .int 0]))] H := hP
        obtain rfl : r13 = 1 := hw
        refine lv_iconst (v := 1) hx hb dX7_area_52 (by decide) ?_
        have hFc : ∀ q : Nat, rg1 h0 H.size q → A q := fun q h => h.elim (fun e => by rw [e]; exact hD.2 0 _ rfl) (fun h => hA q (Nat.le_trans hS.1 h))
        refine va_calli (va_runV (As := [.int 1, .int 1]) (rest := []) ⟨hx, hb, hml, hown, hts⟩ (c_X7_isThrown l D h0 r 0 H.size 1 1 (Or.inr rfl)) (cwV 2 hts gX7_area_X7_isThrown rfl rfl rfl (by decide +kernel) ⟨Nat.le_of_ble_eq_true rfl, Nat.le_of_ble_eq_true rfl⟩) ⟨fun a U g mk q => ⟨q.1, PX7.blind q.2⟩, va_recv hK hP (ci := 13) (q0 := 0) rfl rfl, fun U hU hW => ⟨rfl, PX7.go hP hK hU hW⟩⟩ rfl rfl hl.1 rfl (lv_room (Nat.le_of_ble_eq_true rfl)) dX7_area_53 ⟨Nat.le_of_ble_eq_true rfl, Nat.le_of_ble_eq_true rfl⟩) hS (fun q _ h => hFc q h) hFc (fun r14 u t H1 locs ht hvm hw hB hz1 hk1 hS => ?_)
        rw [ht, if_neg (by decide)] at hB
        have hP := hB
        generalize H1 = H at hP hS ⊢
        have hP : va_P D vwCl [(h0, .inr (13, [.ref (r 0), .ref (r 1), .ref (r 2), .ref (r 3), .ref (r 4), .ref (r 5), .ref (r 6), .ref (r 7), .ref (r 8), .ref (r 9), .ref (r 10), .ref (r 11), .ref (r 12), .ref (r 13), .ref (r 14), .ref (r 15), .int 0, .int 0, .int 1, .int 110, .int 0, .int 0, .int 0, .int 0, .int 0, .int 0, .int 0, .int 0, .int 0, .int 0, .int 1]))] H := hP
        have hD : va_D A [(h0, .inr (13, [.ref (r 0), .ref (r 1), .ref (r 2), .ref (r 3), .ref (r 4), .ref (r 5), .ref (r 6), .ref (r 7), .ref (r 8), .ref (r 9), .ref (r 10), .ref (r 11), .ref (r 12), .ref (r 13), .ref (r 14), .ref (r 15), .int 0, .int 0, .int 1, .int 110, .int 0, .int 0, .int 0, .int 0, .int 0, .int 0, .int 0, .int 0, .int 0, .int 0, .int 1]))] := by rw [← hAe]; exact rg1_D
        obtain rfl : r14 = 1 := hw
        refine lv_if_ne (tgt := 111) hx hb dX7_area_56 (by decide) (fun _ => ?_) (fun c => by first | exact absurd (by decide) c | exact absurd c (by decide))
        refine lv_iconst (v := 0) hx hb dX7_area_111 (by decide) ?_
        have hP9 := hP
        exact W.iret (v := 0) hx hb hr (fun t ht hW => ⟨⟨0, [.ref (r 0), .ref (r 1), .ref (r 2), .ref (r 3), .ref (r 4), .ref (r 5), .ref (r 6), .ref (r 7), .ref (r 8), .ref (r 9), .ref (r 10), .ref (r 11), .ref (r 12), .ref (r 13), .ref (r 14), .ref (r 15), .int 0, .int 0, .int 1, .int 110, .int 0, .int 0, .int 0, .int 0, .int 0, .int 0, .int 0, .int 0, .int 0, .int 0, .int 1], rfl, rfl, by rw [← ht] at hP9; exact hP9⟩, hS.F ht⟩) hS.2.2 dX7_area_112
      · skip
        refine lv_iload_n hx hb dX7_area_26 rfl (lv_at hl 3 rfl) ?_
        refine lv_iload hx hb dX7_area_27 (lv_at hl 5 rfl) ?_
        refine lv_icmp_gt (tgt := 43) hx hb dX7_area_29 (by decide) (fun c_16 => ?_) (fun c_16 => ?_)
        · skip
          refine lv_iconst (v := 0) hx hb dX7_area_43 (by decide) ?_
          refine lv_istore (lv' := [(7, .int 0), (0, .ref h0), (1, .int a1), (2, .int a2), (3, .int a3), (4, .int a4), (5, .int a5), (6, .int a6)]) hx hb dX7_area_44 hl (by decide) rfl (fun ls hl => ?_)
          refine lv_aload_n hx hb dX7_area_46 rfl (lv_at hl 1 rfl) ?_
          refine lv_aload_n hx hb dX7_area_47 rfl (lv_at hl 1 rfl) ?_
          refine lv_iload_n hx hb dX7_area_48 rfl (lv_at hl 2 rfl) ?_
          refine va_calli (va_runV (As := [.int a1]) (rest := [.ref h0]) ⟨hx, hb, hml, hown, hts⟩ (c_X7_isNoHole l D h0 r 0 H.size a1) (cwV 1 hts gX7_area_X7_isNoHole rfl rfl rfl (by decide +kernel) ⟨Nat.le_of_ble_eq_true rfl, Nat.le_of_ble_eq_true rfl⟩) ⟨fun a U g mk q => ⟨q.1, PX7.blind q.2⟩, va_recv hK hP (ci := 13) (q0 := 0) rfl rfl, fun U hU hW => ⟨rfl, PX7.go hP hK hU hW⟩⟩ rfl rfl hl.1 rfl (lv_room (Nat.le_of_ble_eq_true rfl)) dX7_area_49 ⟨Nat.le_of_ble_eq_true rfl, Nat.le_of_ble_eq_true rfl⟩) hS (fun q h1 h2 => absurd h1 (Nat.not_lt.mpr h2)) (fun q h => hA q (Nat.le_trans hS.1 h)) (fun r17 u t H1 locs ht hvm hw hB hz1 hk1 hS => ?_)
          have hP := va_kept0 hP hk1
          generalize H1 = H at hP hS ⊢
          have hP : va_P D vwCl [(h0, .inr (13, [.ref (r 0), .ref (r 1), .ref (r 2), .ref (r 3), .ref (r 4), .ref (r 5), .ref (r 6), .ref (r 7), .ref (r 8), .ref (r 9), .ref (r 10), .ref (r 11), .ref (r 12), .ref (r 13), .ref (r 14), .ref (r 15), .int 0, .int 0, .int 1, .int 110, .int 0, .int 0, .int 0, .int 0, .int 0, .int 0, .int 0, .int 0, .int 0, .int 0, .int 0]))] H := hP
          obtain rfl : r17 = 1 := hw
          refine lv_iconst (v := 1) hx hb dX7_area_52 (by decide) ?_
          have hFc : ∀ q : Nat, rg1 h0 H.size q → A q := fun q h => h.elim (fun e => by rw [e]; exact hD.2 0 _ rfl) (fun h => hA q (Nat.le_trans hS.1 h))
          refine va_calli (va_runV (As := [.int 1, .int 1]) (rest := []) ⟨hx, hb, hml, hown, hts⟩ (c_X7_isThrown l D h0 r 0 H.size 1 1 (Or.inr rfl)) (cwV 2 hts gX7_area_X7_isThrown rfl rfl rfl (by decide +kernel) ⟨Nat.le_of_ble_eq_true rfl, Nat.le_of_ble_eq_true rfl⟩) ⟨fun a U g mk q => ⟨q.1, PX7.blind q.2⟩, va_recv hK hP (ci := 13) (q0 := 0) rfl rfl, fun U hU hW => ⟨rfl, PX7.go hP hK hU hW⟩⟩ rfl rfl hl.1 rfl (lv_room (Nat.le_of_ble_eq_true rfl)) dX7_area_53 ⟨Nat.le_of_ble_eq_true rfl, Nat.le_of_ble_eq_true rfl⟩) hS (fun q _ h => hFc q h) hFc (fun r18 u t H1 locs ht hvm hw hB hz1 hk1 hS => ?_)
          rw [ht, if_neg (by decide)] at hB
          have hP := hB
          generalize H1 = H at hP hS ⊢
          have hP : va_P D vwCl [(h0, .inr (13, [.ref (r 0), .ref (r 1), .ref (r 2), .ref (r 3), .ref (r 4), .ref (r 5), .ref (r 6), .ref (r 7), .ref (r 8), .ref (r 9), .ref (r 10), .ref (r 11), .ref (r 12), .ref (r 13), .ref (r 14), .ref (r 15), .int 0, .int 0, .int 1, .int 110, .int 0, .int 0, .int 0, .int 0, .int 0, .int 0, .int 0, .int 0, .int 0, .int 0, .int 1]))] H := hP
          have hD : va_D A [(h0, .inr (13, [.ref (r 0), .ref (r 1), .ref (r 2), .ref (r 3), .ref (r 4), .ref (r 5), .ref (r 6), .ref (r 7), .ref (r 8), .ref (r 9), .ref (r 10), .ref (r 11), .ref (r 12), .ref (r 13), .ref (r 14), .ref (r 15), .int 0, .int 0, .int 1, .int 110, .int 0, .int 0, .int 0, .int 0, .int 0, .int 0, .int 0, .int 0, .int 0, .int 0, .int 1]))] := by rw [← hAe]; exact rg1_D
          obtain rfl : r18 = 1 := hw
          refine lv_if_ne (tgt := 111) hx hb dX7_area_56 (by decide) (fun _ => ?_) (fun c => by first | exact absurd (by decide) c | exact absurd c (by decide))
          refine lv_iconst (v := 0) hx hb dX7_area_111 (by decide) ?_
          have hP9 := hP
          exact W.iret (v := 0) hx hb hr (fun t ht hW => ⟨⟨0, [.ref (r 0), .ref (r 1), .ref (r 2), .ref (r 3), .ref (r 4), .ref (r 5), .ref (r 6), .ref (r 7), .ref (r 8), .ref (r 9), .ref (r 10), .ref (r 11), .ref (r 12), .ref (r 13), .ref (r 14), .ref (r 15), .int 0, .int 0, .int 1, .int 110, .int 0, .int 0, .int 0, .int 0, .int 0, .int 0, .int 0, .int 0, .int 0, .int 0, .int 1], rfl, rfl, by rw [← ht] at hP9; exact hP9⟩, hS.F ht⟩) hS.2.2 dX7_area_112
        · skip
          refine lv_iload hx hb dX7_area_32 (lv_at hl 4 rfl) ?_
          refine lv_iload hx hb dX7_area_34 (lv_at hl 6 rfl) ?_
          refine lv_icmp_gt (tgt := 43) hx hb dX7_area_36 (by decide) (fun c_20 => ?_) (fun c_20 => ?_)
          · skip
            refine lv_iconst (v := 0) hx hb dX7_area_43 (by decide) ?_
            refine lv_istore (lv' := [(7, .int 0), (0, .ref h0), (1, .int a1), (2, .int a2), (3, .int a3), (4, .int a4), (5, .int a5), (6, .int a6)]) hx hb dX7_area_44 hl (by decide) rfl (fun ls hl => ?_)
            refine lv_aload_n hx hb dX7_area_46 rfl (lv_at hl 1 rfl) ?_
            refine lv_aload_n hx hb dX7_area_47 rfl (lv_at hl 1 rfl) ?_
            refine lv_iload_n hx hb dX7_area_48 rfl (lv_at hl 2 rfl) ?_
            refine va_calli (va_runV (As := [.int a1]) (rest := [.ref h0]) ⟨hx, hb, hml, hown, hts⟩ (c_X7_isNoHole l D h0 r 0 H.size a1) (cwV 1 hts gX7_area_X7_isNoHole rfl rfl rfl (by decide +kernel) ⟨Nat.le_of_ble_eq_true rfl, Nat.le_of_ble_eq_true rfl⟩) ⟨fun a U g mk q => ⟨q.1, PX7.blind q.2⟩, va_recv hK hP (ci := 13) (q0 := 0) rfl rfl, fun U hU hW => ⟨rfl, PX7.go hP hK hU hW⟩⟩ rfl rfl hl.1 rfl (lv_room (Nat.le_of_ble_eq_true rfl)) dX7_area_49 ⟨Nat.le_of_ble_eq_true rfl, Nat.le_of_ble_eq_true rfl⟩) hS (fun q h1 h2 => absurd h1 (Nat.not_lt.mpr h2)) (fun q h => hA q (Nat.le_trans hS.1 h)) (fun r21 u t H1 locs ht hvm hw hB hz1 hk1 hS => ?_)
            have hP := va_kept0 hP hk1
            generalize H1 = H at hP hS ⊢
            have hP : va_P D vwCl [(h0, .inr (13, [.ref (r 0), .ref (r 1), .ref (r 2), .ref (r 3), .ref (r 4), .ref (r 5), .ref (r 6), .ref (r 7), .ref (r 8), .ref (r 9), .ref (r 10), .ref (r 11), .ref (r 12), .ref (r 13), .ref (r 14), .ref (r 15), .int 0, .int 0, .int 1, .int 110, .int 0, .int 0, .int 0, .int 0, .int 0, .int 0, .int 0, .int 0, .int 0, .int 0, .int 0]))] H := hP
            obtain rfl : r21 = 1 := hw
            refine lv_iconst (v := 1) hx hb dX7_area_52 (by decide) ?_
            have hFc : ∀ q : Nat, rg1 h0 H.size q → A q := fun q h => h.elim (fun e => by rw [e]; exact hD.2 0 _ rfl) (fun h => hA q (Nat.le_trans hS.1 h))
            refine va_calli (va_runV (As := [.int 1, .int 1]) (rest := []) ⟨hx, hb, hml, hown, hts⟩ (c_X7_isThrown l D h0 r 0 H.size 1 1 (Or.inr rfl)) (cwV 2 hts gX7_area_X7_isThrown rfl rfl rfl (by decide +kernel) ⟨Nat.le_of_ble_eq_true rfl, Nat.le_of_ble_eq_true rfl⟩) ⟨fun a U g mk q => ⟨q.1, PX7.blind q.2⟩, va_recv hK hP (ci := 13) (q0 := 0) rfl rfl, fun U hU hW => ⟨rfl, PX7.go hP hK hU hW⟩⟩ rfl rfl hl.1 rfl (lv_room (Nat.le_of_ble_eq_true rfl)) dX7_area_53 ⟨Nat.le_of_ble_eq_true rfl, Nat.le_of_ble_eq_true rfl⟩) hS (fun q _ h => hFc q h) hFc (fun r22 u t H1 locs ht hvm hw hB hz1 hk1 hS => ?_)
            rw [ht, if_neg (by decide)] at hB
            have hP := hB
            generalize H1 = H at hP hS ⊢
            have hP : va_P D vwCl [(h0, .inr (13, [.ref (r 0), .ref (r 1), .ref (r 2), .ref (r 3), .ref (r 4), .ref (r 5), .ref (r 6), .ref (r 7), .ref (r 8), .ref (r 9), .ref (r 10), .ref (r 11), .ref (r 12), .ref (r 13), .ref (r 14), .ref (r 15), .int 0, .int 0, .int 1, .int 110, .int 0, .int 0, .int 0, .int 0, .int 0, .int 0, .int 0, .int 0, .int 0, .int 0, .int 1]))] H := hP
            have hD : va_D A [(h0, .inr (13, [.ref (r 0), .ref (r 1), .ref (r 2), .ref (r 3), .ref (r 4), .ref (r 5), .ref (r 6), .ref (r 7), .ref (r 8), .ref (r 9), .ref (r 10), .ref (r 11), .ref (r 12), .ref (r 13), .ref (r 14), .ref (r 15), .int 0, .int 0, .int 1, .int 110, .int 0, .int 0, .int 0, .int 0, .int 0, .int 0, .int 0, .int 0, .int 0, .int 0, .int 1]))] := by rw [← hAe]; exact rg1_D
            obtain rfl : r22 = 1 := hw
            refine lv_if_ne (tgt := 111) hx hb dX7_area_56 (by decide) (fun _ => ?_) (fun c => by first | exact absurd (by decide) c | exact absurd c (by decide))
            refine lv_iconst (v := 0) hx hb dX7_area_111 (by decide) ?_
            have hP9 := hP
            exact W.iret (v := 0) hx hb hr (fun t ht hW => ⟨⟨0, [.ref (r 0), .ref (r 1), .ref (r 2), .ref (r 3), .ref (r 4), .ref (r 5), .ref (r 6), .ref (r 7), .ref (r 8), .ref (r 9), .ref (r 10), .ref (r 11), .ref (r 12), .ref (r 13), .ref (r 14), .ref (r 15), .int 0, .int 0, .int 1, .int 110, .int 0, .int 0, .int 0, .int 0, .int 0, .int 0, .int 0, .int 0, .int 0, .int 0, .int 1], rfl, rfl, by rw [← ht] at hP9; exact hP9⟩, hS.F ht⟩) hS.2.2 dX7_area_112
          · skip
            refine lv_iconst (v := 1) hx hb dX7_area_39 (by decide) ?_
            refine lv_goto (tgt := 44) hx hb dX7_area_40 (by decide) ?_
            refine lv_istore (lv' := [(7, .int 1), (0, .ref h0), (1, .int a1), (2, .int a2), (3, .int a3), (4, .int a4), (5, .int a5), (6, .int a6)]) hx hb dX7_area_44 hl (by decide) rfl (fun ls hl => ?_)
            refine lv_aload_n hx hb dX7_area_46 rfl (lv_at hl 1 rfl) ?_
            refine lv_aload_n hx hb dX7_area_47 rfl (lv_at hl 1 rfl) ?_
            refine lv_iload_n hx hb dX7_area_48 rfl (lv_at hl 2 rfl) ?_
            refine va_calli (va_runV (As := [.int a1]) (rest := [.ref h0]) ⟨hx, hb, hml, hown, hts⟩ (c_X7_isNoHole l D h0 r 0 H.size a1) (cwV 1 hts gX7_area_X7_isNoHole rfl rfl rfl (by decide +kernel) ⟨Nat.le_of_ble_eq_true rfl, Nat.le_of_ble_eq_true rfl⟩) ⟨fun a U g mk q => ⟨q.1, PX7.blind q.2⟩, va_recv hK hP (ci := 13) (q0 := 0) rfl rfl, fun U hU hW => ⟨rfl, PX7.go hP hK hU hW⟩⟩ rfl rfl hl.1 rfl (lv_room (Nat.le_of_ble_eq_true rfl)) dX7_area_49 ⟨Nat.le_of_ble_eq_true rfl, Nat.le_of_ble_eq_true rfl⟩) hS (fun q h1 h2 => absurd h1 (Nat.not_lt.mpr h2)) (fun q h => hA q (Nat.le_trans hS.1 h)) (fun r24 u t H1 locs ht hvm hw hB hz1 hk1 hS => ?_)
            have hP := va_kept0 hP hk1
            generalize H1 = H at hP hS ⊢
            have hP : va_P D vwCl [(h0, .inr (13, [.ref (r 0), .ref (r 1), .ref (r 2), .ref (r 3), .ref (r 4), .ref (r 5), .ref (r 6), .ref (r 7), .ref (r 8), .ref (r 9), .ref (r 10), .ref (r 11), .ref (r 12), .ref (r 13), .ref (r 14), .ref (r 15), .int 0, .int 0, .int 1, .int 110, .int 0, .int 0, .int 0, .int 0, .int 0, .int 0, .int 0, .int 0, .int 0, .int 0, .int 0]))] H := hP
            obtain rfl : r24 = 1 := hw
            refine lv_iconst (v := 1) hx hb dX7_area_52 (by decide) ?_
            have hFc : ∀ q : Nat, rg1 h0 H.size q → A q := fun q h => h.elim (fun e => by rw [e]; exact hD.2 0 _ rfl) (fun h => hA q (Nat.le_trans hS.1 h))
            refine va_calli (va_runV (As := [.int 1, .int 1]) (rest := []) ⟨hx, hb, hml, hown, hts⟩ (c_X7_isThrown l D h0 r 0 H.size 1 1 (Or.inr rfl)) (cwV 2 hts gX7_area_X7_isThrown rfl rfl rfl (by decide +kernel) ⟨Nat.le_of_ble_eq_true rfl, Nat.le_of_ble_eq_true rfl⟩) ⟨fun a U g mk q => ⟨q.1, PX7.blind q.2⟩, va_recv hK hP (ci := 13) (q0 := 0) rfl rfl, fun U hU hW => ⟨rfl, PX7.go hP hK hU hW⟩⟩ rfl rfl hl.1 rfl (lv_room (Nat.le_of_ble_eq_true rfl)) dX7_area_53 ⟨Nat.le_of_ble_eq_true rfl, Nat.le_of_ble_eq_true rfl⟩) hS (fun q _ h => hFc q h) hFc (fun r25 u t H1 locs ht hvm hw hB hz1 hk1 hS => ?_)
            rw [ht, if_neg (by decide)] at hB
            have hP := hB
            generalize H1 = H at hP hS ⊢
            have hP : va_P D vwCl [(h0, .inr (13, [.ref (r 0), .ref (r 1), .ref (r 2), .ref (r 3), .ref (r 4), .ref (r 5), .ref (r 6), .ref (r 7), .ref (r 8), .ref (r 9), .ref (r 10), .ref (r 11), .ref (r 12), .ref (r 13), .ref (r 14), .ref (r 15), .int 0, .int 0, .int 1, .int 110, .int 0, .int 0, .int 0, .int 0, .int 0, .int 0, .int 0, .int 0, .int 0, .int 0, .int 1]))] H := hP
            have hD : va_D A [(h0, .inr (13, [.ref (r 0), .ref (r 1), .ref (r 2), .ref (r 3), .ref (r 4), .ref (r 5), .ref (r 6), .ref (r 7), .ref (r 8), .ref (r 9), .ref (r 10), .ref (r 11), .ref (r 12), .ref (r 13), .ref (r 14), .ref (r 15), .int 0, .int 0, .int 1, .int 110, .int 0, .int 0, .int 0, .int 0, .int 0, .int 0, .int 0, .int 0, .int 0, .int 0, .int 1]))] := by rw [← hAe]; exact rg1_D
            obtain rfl : r25 = 1 := hw
            refine lv_if_ne (tgt := 111) hx hb dX7_area_56 (by decide) (fun _ => ?_) (fun c => by first | exact absurd (by decide) c | exact absurd c (by decide))
            refine lv_iconst (v := 0) hx hb dX7_area_111 (by decide) ?_
            have hP9 := hP
            exact W.iret (v := 0) hx hb hr (fun t ht hW => ⟨⟨0, [.ref (r 0), .ref (r 1), .ref (r 2), .ref (r 3), .ref (r 4), .ref (r 5), .ref (r 6), .ref (r 7), .ref (r 8), .ref (r 9), .ref (r 10), .ref (r 11), .ref (r 12), .ref (r 13), .ref (r 14), .ref (r 15), .int 0, .int 0, .int 1, .int 110, .int 0, .int 0, .int 0, .int 0, .int 0, .int 0, .int 0, .int 0, .int 0, .int 0, .int 1], rfl, rfl, by rw [← ht] at hP9; exact hP9⟩, hS.F ht⟩) hS.2.2 dX7_area_112
set_option maxHeartbeats 4000000 in
set_option maxRecDepth 100000 in
theorem c_X7_kindAt (l : Launch) (D : va_G) (h0 : Nat) (r : Nat → Nat) (sz : Nat) (a1 a2 a3 : Int32) : Met l yX7_kindAt wsX7_kindAt ({ frames := 60, cells := 0, slots := 0, locals := 600 }) (va_Pc [.ref h0, .int a1, .int a2, .int a3] (PX7 D h0 r 0 sz)) (va_Qi (fun (r9 : Int32) (u : List Value) => u[30]? = some (.int 1)) (fun u t => va_P D vwCl [(h0, .inr (13, u))] t.heap) (rg1 h0 sz)) 0 0 (rg1 h0 sz) := by
  refine Met.ofW (cc := cX7_kindAt) (maxL := 4) (ret := (some .char)) (by decide +kernel) rfl ?_
  intro p e s m args below meth c s₁ B hml hv
  obtain ⟨rfl, hsz, hP, hK⟩ := hv
  have hx := B.exec
  have hb := B.bytes
  have hr := B.returns
  have hts := atoms_spec (ws := wsX7_kindAt) B.pre
  have hown : s.vm.findClass RX7 = some m.cls := findClass_of_methodNamed B.named
  have hlocks := B.notSynchronized
  subst hsz
  have hD : va_D (rg1 h0 s.heap.size) [(h0, .inr (13, [.ref (r 0), .ref (r 1), .ref (r 2), .ref (r 3), .ref (r 4), .ref (r 5), .ref (r 6), .ref (r 7), .ref (r 8), .ref (r 9), .ref (r 10), .ref (r 11), .ref (r 12), .ref (r 13), .ref (r 14), .ref (r 15), .int 0, .int 0, .int 1, .int 110, .int 0, .int 0, .int 0, .int 0, .int 0, .int 0, .int 0, .int 0, .int 0, .int 0, .int 0]))] := rg1_D
  generalize hAe : rg1 h0 s.heap.size = A at hD ⊢
  have hA : ∀ q : Nat, s.heap.size ≤ q → A q := fun q h => by rw [← hAe]; exact Or.inr h
  have hS : va_S A s.heap s.heap [] := va_S.rf
  have hP : va_P D vwCl [(h0, .inr (13, [.ref (r 0), .ref (r 1), .ref (r 2), .ref (r 3), .ref (r 4), .ref (r 5), .ref (r 6), .ref (r 7), .ref (r 8), .ref (r 9), .ref (r 10), .ref (r 11), .ref (r 12), .ref (r 13), .ref (r 14), .ref (r 15), .int 0, .int 0, .int 1, .int 110, .int 0, .int 0, .int 0, .int 0, .int 0, .int 0, .int 0, .int 0, .int 0, .int 0, .int 0]))] s.heap := hP
  have hl := lv_entry ([.ref h0, .int a1, .int a2, .int a3]) (n := 4) (Nat.le_of_ble_eq_true rfl)
  rw [lg_entry_eq]
  generalize (lg_sl ([.ref h0, .int a1, .int a2, .int a3]) ++ List.replicate (4 - (lg_sl ([.ref h0, .int a1, .int a2, .int a3])).length) Slot.unset).toArray = ls at hl ⊢
  have hl : lv_has ls 4 [(0, .ref h0), (1, .int a1), (2, .int a2), (3, .int a3)] := hl
  refine lv_aload_n hx hb dX7_kindAt_0 rfl (lv_at hl 0 rfl) ?_
  refine lv_aload_n hx hb dX7_kindAt_1 rfl (lv_at hl 0 rfl) ?_
  refine lv_iload_n hx hb dX7_kindAt_2 rfl (lv_at hl 1 rfl) ?_
  refine va_calli (va_runV (As := [.int a1]) (rest := [.ref h0]) ⟨hx, hb, hml, hown, hts⟩ (c_X7_isNoHole l D h0 r 0 s.heap.size a1) (cwV 1 hts gX7_kindAt_X7_isNoHole rfl rfl rfl (by decide +kernel) ⟨Nat.le_of_ble_eq_true rfl, Nat.le_of_ble_eq_true rfl⟩) ⟨fun a U g mk q => ⟨q.1, PX7.blind q.2⟩, va_recv hK hP (ci := 13) (q0 := 0) rfl rfl, fun U hU hW => ⟨rfl, PX7.go hP hK hU hW⟩⟩ rfl rfl hl.1 rfl (lv_room (Nat.le_of_ble_eq_true rfl)) dX7_kindAt_3 ⟨Nat.le_of_ble_eq_true rfl, Nat.le_of_ble_eq_true rfl⟩) hS (fun q h1 h2 => absurd h1 (Nat.not_lt.mpr h2)) (fun q h => hA q (Nat.le_trans hS.1 h)) (fun r1 u t H1 locs ht hvm hw hB hz1 hk1 hS => ?_)
  have hP := va_kept0 hP hk1
  generalize H1 = H at hP hS ⊢
  have hP : va_P D vwCl [(h0, .inr (13, [.ref (r 0), .ref (r 1), .ref (r 2), .ref (r 3), .ref (r 4), .ref (r 5), .ref (r 6), .ref (r 7), .ref (r 8), .ref (r 9), .ref (r 10), .ref (r 11), .ref (r 12), .ref (r 13), .ref (r 14), .ref (r 15), .int 0, .int 0, .int 1, .int 110, .int 0, .int 0, .int 0, .int 0, .int 0, .int 0, .int 0, .int 0, .int 0, .int 0, .int 0]))] H := hP
  obtain rfl : r1 = 1 := hw
  refine lv_if_ne (tgt := 17) hx hb dX7_kindAt_6 (by decide) (fun _ => ?_) (fun c => by first | exact absurd (by decide) c | exact absurd c (by decide))
  refine lv_iconst (v := 1) hx hb dX7_kindAt_17 (by decide) ?_
  refine lv_goto (tgt := 22) hx hb dX7_kindAt_18 (by decide) ?_
  refine lv_iconst (v := 1) hx hb dX7_kindAt_22 (by decide) ?_
  have hFc : ∀ q : Nat, rg1 h0 H.size q → A q := fun q h => h.elim (fun e => by rw [e]; exact hD.2 0 _ rfl) (fun h => hA q (Nat.le_trans hS.1 h))
  refine va_calli (va_runV (As := [.int 1, .int 1]) (rest := []) ⟨hx, hb, hml, hown, hts⟩ (c_X7_isThrown l D h0 r 0 H.size 1 1 (Or.inr rfl)) (cwV 2 hts gX7_kindAt_X7_isThrown rfl rfl rfl (by decide +kernel) ⟨Nat.le_of_ble_eq_true rfl, Nat.le_of_ble_eq_true rfl⟩) ⟨fun a U g mk q => ⟨q.1, PX7.blind q.2⟩, va_recv hK hP (ci := 13) (q0 := 0) rfl rfl, fun U hU hW => ⟨rfl, PX7.go hP hK hU hW⟩⟩ rfl rfl hl.1 rfl (lv_room (Nat.le_of_ble_eq_true rfl)) dX7_kindAt_23 ⟨Nat.le_of_ble_eq_true rfl, Nat.le_of_ble_eq_true rfl⟩) hS (fun q _ h => hFc q h) hFc (fun r3 u t H1 locs ht hvm hw hB hz1 hk1 hS => ?_)
  rw [ht, if_neg (by decide)] at hB
  have hP := hB
  generalize H1 = H at hP hS ⊢
  have hP : va_P D vwCl [(h0, .inr (13, [.ref (r 0), .ref (r 1), .ref (r 2), .ref (r 3), .ref (r 4), .ref (r 5), .ref (r 6), .ref (r 7), .ref (r 8), .ref (r 9), .ref (r 10), .ref (r 11), .ref (r 12), .ref (r 13), .ref (r 14), .ref (r 15), .int 0, .int 0, .int 1, .int 110, .int 0, .int 0, .int 0, .int 0, .int 0, .int 0, .int 0, .int 0, .int 0, .int 0, .int 1]))] H := hP
  have hD : va_D A [(h0, .inr (13, [.ref (r 0), .ref (r 1), .ref (r 2), .ref (r 3), .ref (r 4), .ref (r 5), .ref (r 6), .ref (r 7), .ref (r 8), .ref (r 9), .ref (r 10), .ref (r 11), .ref (r 12), .ref (r 13), .ref (r 14), .ref (r 15), .int 0, .int 0, .int 1, .int 110, .int 0, .int 0, .int 0, .int 0, .int 0, .int 0, .int 0, .int 0, .int 0, .int 0, .int 1]))] := by rw [← hAe]; exact rg1_D
  obtain rfl : r3 = 1 := hw
  refine lv_if_eq (tgt := 34) hx hb dX7_kindAt_26 (by decide) (fun c => by first | exact absurd c (by decide) | exact absurd (by decide) c) (fun _ => ?_)
  refine lv_bipush (v := 32) hx hb dX7_kindAt_29 (by decide) ?_
  refine lv_goto (tgt := 47) hx hb dX7_kindAt_31 (by decide) ?_
  have hP9 := hP
  exact W.zret (v := 32) (ty := .char) hx hb hr (by decide) (fun t ht hW => ⟨⟨32, [.ref (r 0), .ref (r 1), .ref (r 2), .ref (r 3), .ref (r 4), .ref (r 5), .ref (r 6), .ref (r 7), .ref (r 8), .ref (r 9), .ref (r 10), .ref (r 11), .ref (r 12), .ref (r 13), .ref (r 14), .ref (r 15), .int 0, .int 0, .int 1, .int 110, .int 0, .int 0, .int 0, .int 0, .int 0, .int 0, .int 0, .int 0, .int 0, .int 0, .int 1], rfl, rfl, by rw [← ht] at hP9; exact hP9⟩, hS.F ht⟩) hS.2.2 dX7_kindAt_47
set_option maxHeartbeats 4000000 in
set_option maxRecDepth 100000 in
theorem c_X7_setHandicap (l : Launch) (D : va_G) (h0 : Nat) (r : Nat → Nat) (sz : Nat) (a1 a2 : Int32) : Met l yX7_setHandicap wsX7_setHandicap ({ frames := 60, cells := 0, slots := 0, locals := 600 }) (va_Pc [.ref h0, .int a1, .int a2] (PX7 D h0 r 0 sz)) (va_Qi (fun (r9 : Int32) (u : List Value) => u[30]? = some (.int 1)) (fun u t => va_P D vwCl [(h0, .inr (13, u))] t.heap) (rg1 h0 sz)) 0 0 (rg1 h0 sz) := by
  refine Met.ofW (cc := cX7_setHandicap) (maxL := 4) (ret := (some .int)) (by decide +kernel) rfl ?_
  intro p e s m args below meth c s₁ B hml hv
  obtain ⟨rfl, hsz, hP, hK⟩ := hv
  have hx := B.exec
  have hb := B.bytes
  have hr := B.returns
  have hts := atoms_spec (ws := wsX7_setHandicap) B.pre
  have hown : s.vm.findClass RX7 = some m.cls := findClass_of_methodNamed B.named
  have hlocks := B.notSynchronized
  subst hsz
  have hD : va_D (rg1 h0 s.heap.size) [(h0, .inr (13, [.ref (r 0), .ref (r 1), .ref (r 2), .ref (r 3), .ref (r 4), .ref (r 5), .ref (r 6), .ref (r 7), .ref (r 8), .ref (r 9), .ref (r 10), .ref (r 11), .ref (r 12), .ref (r 13), .ref (r 14), .ref (r 15), .int 0, .int 0, .int 1, .int 110, .int 0, .int 0, .int 0, .int 0, .int 0, .int 0, .int 0, .int 0, .int 0, .int 0, .int 0]))] := rg1_D
  generalize hAe : rg1 h0 s.heap.size = A at hD ⊢
  have hA : ∀ q : Nat, s.heap.size ≤ q → A q := fun q h => by rw [← hAe]; exact Or.inr h
  have hS : va_S A s.heap s.heap [] := va_S.rf
  have hP : va_P D vwCl [(h0, .inr (13, [.ref (r 0), .ref (r 1), .ref (r 2), .ref (r 3), .ref (r 4), .ref (r 5), .ref (r 6), .ref (r 7), .ref (r 8), .ref (r 9), .ref (r 10), .ref (r 11), .ref (r 12), .ref (r 13), .ref (r 14), .ref (r 15), .int 0, .int 0, .int 1, .int 110, .int 0, .int 0, .int 0, .int 0, .int 0, .int 0, .int 0, .int 0, .int 0, .int 0, .int 0]))] s.heap := hP
  have hl := lv_entry ([.ref h0, .int a1, .int a2]) (n := 4) (Nat.le_of_ble_eq_true rfl)
  rw [lg_entry_eq]
  generalize (lg_sl ([.ref h0, .int a1, .int a2]) ++ List.replicate (4 - (lg_sl ([.ref h0, .int a1, .int a2])).length) Slot.unset).toArray = ls at hl ⊢
  have hl : lv_has ls 4 [(0, .ref h0), (1, .int a1), (2, .int a2)] := hl
  refine lv_aload_n hx hb dX7_setHandicap_0 rfl (lv_at hl 0 rfl) ?_
  refine lv_aload_n hx hb dX7_setHandicap_1 rfl (lv_at hl 0 rfl) ?_
  refine lv_iload_n hx hb dX7_setHandicap_2 rfl (lv_at hl 1 rfl) ?_
  refine va_calli (va_runV (As := [.int a1]) (rest := [.ref h0]) ⟨hx, hb, hml, hown, hts⟩ (c_X7_isNoPlayer l D h0 r 0 s.heap.size a1) (cwV 1 hts gX7_setHandicap_X7_isNoPlayer rfl rfl rfl (by decide +kernel) ⟨Nat.le_of_ble_eq_true rfl, Nat.le_of_ble_eq_true rfl⟩) ⟨fun a U g mk q => ⟨q.1, PX7.blind q.2⟩, va_recv hK hP (ci := 13) (q0 := 0) rfl rfl, fun U hU hW => ⟨rfl, PX7.go hP hK hU hW⟩⟩ rfl rfl hl.1 rfl (lv_room (Nat.le_of_ble_eq_true rfl)) dX7_setHandicap_3 ⟨Nat.le_of_ble_eq_true rfl, Nat.le_of_ble_eq_true rfl⟩) hS (fun q h1 h2 => absurd h1 (Nat.not_lt.mpr h2)) (fun q h => hA q (Nat.le_trans hS.1 h)) (fun r1 u t H1 locs ht hvm hw hB hz1 hk1 hS => ?_)
  have hP := va_kept0 hP hk1
  generalize H1 = H at hP hS ⊢
  have hP : va_P D vwCl [(h0, .inr (13, [.ref (r 0), .ref (r 1), .ref (r 2), .ref (r 3), .ref (r 4), .ref (r 5), .ref (r 6), .ref (r 7), .ref (r 8), .ref (r 9), .ref (r 10), .ref (r 11), .ref (r 12), .ref (r 13), .ref (r 14), .ref (r 15), .int 0, .int 0, .int 1, .int 110, .int 0, .int 0, .int 0, .int 0, .int 0, .int 0, .int 0, .int 0, .int 0, .int 0, .int 0]))] H := hP
  obtain rfl : r1 = 1 := hw
  refine lv_iconst (v := 1) hx hb dX7_setHandicap_6 (by decide) ?_
  have hFc : ∀ q : Nat, rg1 h0 H.size q → A q := fun q h => h.elim (fun e => by rw [e]; exact hD.2 0 _ rfl) (fun h => hA q (Nat.le_trans hS.1 h))
  refine va_calli (va_runV (As := [.int 1, .int 1]) (rest := []) ⟨hx, hb, hml, hown, hts⟩ (c_X7_isThrown l D h0 r 0 H.size 1 1 (Or.inr rfl)) (cwV 2 hts gX7_setHandicap_X7_isThrown rfl rfl rfl (by decide +kernel) ⟨Nat.le_of_ble_eq_true rfl, Nat.le_of_ble_eq_true rfl⟩) ⟨fun a U g mk q => ⟨q.1, PX7.blind q.2⟩, va_recv hK hP (ci := 13) (q0 := 0) rfl rfl, fun U hU hW => ⟨rfl, PX7.go hP hK hU hW⟩⟩ rfl rfl hl.1 rfl (lv_room (Nat.le_of_ble_eq_true rfl)) dX7_setHandicap_7 ⟨Nat.le_of_ble_eq_true rfl, Nat.le_of_ble_eq_true rfl⟩) hS (fun q _ h => hFc q h) hFc (fun r2 u t H1 locs ht hvm hw hB hz1 hk1 hS => ?_)
  rw [ht, if_neg (by decide)] at hB
  have hP := hB
  generalize H1 = H at hP hS ⊢
  have hP : va_P D vwCl [(h0, .inr (13, [.ref (r 0), .ref (r 1), .ref (r 2), .ref (r 3), .ref (r 4), .ref (r 5), .ref (r 6), .ref (r 7), .ref (r 8), .ref (r 9), .ref (r 10), .ref (r 11), .ref (r 12), .ref (r 13), .ref (r 14), .ref (r 15), .int 0, .int 0, .int 1, .int 110, .int 0, .int 0, .int 0, .int 0, .int 0, .int 0, .int 0, .int 0, .int 0, .int 0, .int 1]))] H := hP
  have hD : va_D A [(h0, .inr (13, [.ref (r 0), .ref (r 1), .ref (r 2), .ref (r 3), .ref (r 4), .ref (r 5), .ref (r 6), .ref (r 7), .ref (r 8), .ref (r 9), .ref (r 10), .ref (r 11), .ref (r 12), .ref (r 13), .ref (r 14), .ref (r 15), .int 0, .int 0, .int 1, .int 110, .int 0, .int 0, .int 0, .int 0, .int 0, .int 0, .int 0, .int 0, .int 0, .int 0, .int 1]))] := by rw [← hAe]; exact rg1_D
  obtain rfl : r2 = 1 := hw
  refine lv_if_ne (tgt := 48) hx hb dX7_setHandicap_10 (by decide) (fun _ => ?_) (fun c => by first | exact absurd (by decide) c | exact absurd c (by decide))
  refine lv_iconst (v := 0) hx hb dX7_setHandicap_48 (by decide) ?_
  have hP9 := hP
  exact W.iret (v := 0) hx hb hr (fun t ht hW => ⟨⟨0, [.ref (r 0), .ref (r 1), .ref (r 2), .ref (r 3), .ref (r 4), .ref (r 5), .ref (r 6), .ref (r 7), .ref (r 8), .ref (r 9), .ref (r 10), .ref (r 11), .ref (r 12), .ref (r 13), .ref (r 14), .ref (r 15), .int 0, .int 0, .int 1, .int 110, .int 0, .int 0, .int 0, .int 0, .int 0, .int 0, .int 0, .int 0, .int 0, .int 0, .int 1], rfl, rfl, by rw [← ht] at hP9; exact hP9⟩, hS.F ht⟩) hS.2.2 dX7_setHandicap_49
set_option maxHeartbeats 4000000 in
set_option maxRecDepth 100000 in
theorem c_X7_gets (l : Launch) (D : va_G) (h0 : Nat) (r : Nat → Nat) (sz : Nat) (a1 a2 : Int32) : Met l yX7_gets wsX7_gets ({ frames := 60, cells := 0, slots := 0, locals := 600 }) (va_Pc [.ref h0, .int a1, .int a2] (PX7 D h0 r 0 sz)) (va_Qi (fun (r9 : Int32) (u : List Value) => u[30]? = some (.int 1)) (fun u t => va_P D vwCl [(h0, .inr (13, u))] t.heap) (rg1 h0 sz)) 0 0 (rg1 h0 sz) := by
  refine Met.ofW (cc := cX7_gets) (maxL := 3) (ret := (some .int)) (by decide +kernel) rfl ?_
  intro p e s m args below meth c s₁ B hml hv
  obtain ⟨rfl, hsz, hP, hK⟩ := hv
  have hx := B.exec
  have hb := B.bytes
  have hr := B.returns
  have hts := atoms_spec (ws := wsX7_gets) B.pre
  have hown : s.vm.findClass RX7 = some m.cls := findClass_of_methodNamed B.named
  have hlocks := B.notSynchronized
  subst hsz
  have hD : va_D (rg1 h0 s.heap.size) [(h0, .inr (13, [.ref (r 0), .ref (r 1), .ref (r 2), .ref (r 3), .ref (r 4), .ref (r 5), .ref (r 6), .ref (r 7), .ref (r 8), .ref (r 9), .ref (r 10), .ref (r 11), .ref (r 12), .ref (r 13), .ref (r 14), .ref (r 15), .int 0, .int 0, .int 1, .int 110, .int 0, .int 0, .int 0, .int 0, .int 0, .int 0, .int 0, .int 0, .int 0, .int 0, .int 0]))] := rg1_D
  generalize hAe : rg1 h0 s.heap.size = A at hD ⊢
  have hA : ∀ q : Nat, s.heap.size ≤ q → A q := fun q h => by rw [← hAe]; exact Or.inr h
  have hS : va_S A s.heap s.heap [] := va_S.rf
  have hP : va_P D vwCl [(h0, .inr (13, [.ref (r 0), .ref (r 1), .ref (r 2), .ref (r 3), .ref (r 4), .ref (r 5), .ref (r 6), .ref (r 7), .ref (r 8), .ref (r 9), .ref (r 10), .ref (r 11), .ref (r 12), .ref (r 13), .ref (r 14), .ref (r 15), .int 0, .int 0, .int 1, .int 110, .int 0, .int 0, .int 0, .int 0, .int 0, .int 0, .int 0, .int 0, .int 0, .int 0, .int 0]))] s.heap := hP
  have hl := lv_entry ([.ref h0, .int a1, .int a2]) (n := 3) (Nat.le_of_ble_eq_true rfl)
  rw [lg_entry_eq]
  generalize (lg_sl ([.ref h0, .int a1, .int a2]) ++ List.replicate (3 - (lg_sl ([.ref h0, .int a1, .int a2])).length) Slot.unset).toArray = ls at hl ⊢
  have hl : lv_has ls 3 [(0, .ref h0), (1, .int a1), (2, .int a2)] := hl
  refine lv_aload_n hx hb dX7_gets_0 rfl (lv_at hl 0 rfl) ?_
  refine lv_aload_n hx hb dX7_gets_1 rfl (lv_at hl 0 rfl) ?_
  refine lv_iload_n hx hb dX7_gets_2 rfl (lv_at hl 1 rfl) ?_
  refine va_calli (va_runV (As := [.int a1]) (rest := [.ref h0]) ⟨hx, hb, hml, hown, hts⟩ (c_X7_isNoPlayer l D h0 r 0 s.heap.size a1) (cwV 1 hts gX7_gets_X7_isNoPlayer rfl rfl rfl (by decide +kernel) ⟨Nat.le_of_ble_eq_true rfl, Nat.le_of_ble_eq_true rfl⟩) ⟨fun a U g mk q => ⟨q.1, PX7.blind q.2⟩, va_recv hK hP (ci := 13) (q0 := 0) rfl rfl, fun U hU hW => ⟨rfl, PX7.go hP hK hU hW⟩⟩ rfl rfl hl.1 rfl (lv_room (Nat.le_of_ble_eq_true rfl)) dX7_gets_3 ⟨Nat.le_of_ble_eq_true rfl, Nat.le_of_ble_eq_true rfl⟩) hS (fun q h1 h2 => absurd h1 (Nat.not_lt.mpr h2)) (fun q h => hA q (Nat.le_trans hS.1 h)) (fun r1 u t H1 locs ht hvm hw hB hz1 hk1 hS => ?_)
  have hP := va_kept0 hP hk1
  generalize H1 = H at hP hS ⊢
  have hP : va_P D vwCl [(h0, .inr (13, [.ref (r 0), .ref (r 1), .ref (r 2), .ref (r 3), .ref (r 4), .ref (r 5), .ref (r 6), .ref (r 7), .ref (r 8), .ref (r 9), .ref (r 10), .ref (r 11), .ref (r 12), .ref (r 13), .ref (r 14), .ref (r 15), .int 0, .int 0, .int 1, .int 110, .int 0, .int 0, .int 0, .int 0, .int 0, .int 0, .int 0, .int 0, .int 0, .int 0, .int 0]))] H := hP
  obtain rfl : r1 = 1 := hw
  refine lv_if_ne (tgt := 17) hx hb dX7_gets_6 (by decide) (fun _ => ?_) (fun c => by first | exact absurd (by decide) c | exact absurd c (by decide))
  refine lv_iconst (v := 1) hx hb dX7_gets_17 (by decide) ?_
  refine lv_goto (tgt := 22) hx hb dX7_gets_18 (by decide) ?_
  refine lv_iconst (v := 1) hx hb dX7_gets_22 (by decide) ?_
  have hFc : ∀ q : Nat, rg1 h0 H.size q → A q := fun q h => h.elim (fun e => by rw [e]; exact hD.2 0 _ rfl) (fun h => hA q (Nat.le_trans hS.1 h))
  refine va_calli (va_runV (As := [.int 1, .int 1]) (rest := []) ⟨hx, hb, hml, hown, hts⟩ (c_X7_isThrown l D h0 r 0 H.size 1 1 (Or.inr rfl)) (cwV 2 hts gX7_gets_X7_isThrown rfl rfl rfl (by decide +kernel) ⟨Nat.le_of_ble_eq_true rfl, Nat.le_of_ble_eq_true rfl⟩) ⟨fun a U g mk q => ⟨q.1, PX7.blind q.2⟩, va_recv hK hP (ci := 13) (q0 := 0) rfl rfl, fun U hU hW => ⟨rfl, PX7.go hP hK hU hW⟩⟩ rfl rfl hl.1 rfl (lv_room (Nat.le_of_ble_eq_true rfl)) dX7_gets_23 ⟨Nat.le_of_ble_eq_true rfl, Nat.le_of_ble_eq_true rfl⟩) hS (fun q _ h => hFc q h) hFc (fun r3 u t H1 locs ht hvm hw hB hz1 hk1 hS => ?_)
  rw [ht, if_neg (by decide)] at hB
  have hP := hB
  generalize H1 = H at hP hS ⊢
  have hP : va_P D vwCl [(h0, .inr (13, [.ref (r 0), .ref (r 1), .ref (r 2), .ref (r 3), .ref (r 4), .ref (r 5), .ref (r 6), .ref (r 7), .ref (r 8), .ref (r 9), .ref (r 10), .ref (r 11), .ref (r 12), .ref (r 13), .ref (r 14), .ref (r 15), .int 0, .int 0, .int 1, .int 110, .int 0, .int 0, .int 0, .int 0, .int 0, .int 0, .int 0, .int 0, .int 0, .int 0, .int 1]))] H := hP
  have hD : va_D A [(h0, .inr (13, [.ref (r 0), .ref (r 1), .ref (r 2), .ref (r 3), .ref (r 4), .ref (r 5), .ref (r 6), .ref (r 7), .ref (r 8), .ref (r 9), .ref (r 10), .ref (r 11), .ref (r 12), .ref (r 13), .ref (r 14), .ref (r 15), .int 0, .int 0, .int 1, .int 110, .int 0, .int 0, .int 0, .int 0, .int 0, .int 0, .int 0, .int 0, .int 0, .int 0, .int 1]))] := by rw [← hAe]; exact rg1_D
  obtain rfl : r3 = 1 := hw
  refine lv_if_eq (tgt := 33) hx hb dX7_gets_26 (by decide) (fun c => by first | exact absurd c (by decide) | exact absurd (by decide) c) (fun _ => ?_)
  refine lv_iconst (v := 0) hx hb dX7_gets_29 (by decide) ?_
  refine lv_goto (tgt := 44) hx hb dX7_gets_30 (by decide) ?_
  have hP9 := hP
  exact W.iret (v := 0) hx hb hr (fun t ht hW => ⟨⟨0, [.ref (r 0), .ref (r 1), .ref (r 2), .ref (r 3), .ref (r 4), .ref (r 5), .ref (r 6), .ref (r 7), .ref (r 8), .ref (r 9), .ref (r 10), .ref (r 11), .ref (r 12), .ref (r 13), .ref (r 14), .ref (r 15), .int 0, .int 0, .int 1, .int 110, .int 0, .int 0, .int 0, .int 0, .int 0, .int 0, .int 0, .int 0, .int 0, .int 0, .int 1], rfl, rfl, by rw [← ht] at hP9; exact hP9⟩, hS.F ht⟩) hS.2.2 dX7_gets_44
set_option maxHeartbeats 4000000 in
set_option maxRecDepth 100000 in
theorem c_X7_holeOn (l : Launch) (D : va_G) (h0 : Nat) (r : Nat → Nat) (sz : Nat) : Met l yX7_holeOn wsX7_holeOn ({ frames := 60, cells := 0, slots := 0, locals := 600 }) (va_Pc [.ref h0] (PX7 D h0 r 0 sz)) (va_Qi (fun (r9 : Int32) (u : List Value) => u[30]? = some (.int 1)) (fun u t => va_P D vwCl [(h0, .inr (13, u))] t.heap) (rg1 h0 sz)) 0 0 (rg1 h0 sz) := by
  refine Met.ofW (cc := cX7_holeOn) (maxL := 1) (ret := (some .int)) (by decide +kernel) rfl ?_
  intro p e s m args below meth c s₁ B hml hv
  obtain ⟨rfl, hsz, hP, hK⟩ := hv
  have hx := B.exec
  have hb := B.bytes
  have hr := B.returns
  have hts := atoms_spec (ws := wsX7_holeOn) B.pre
  have hown : s.vm.findClass RX7 = some m.cls := findClass_of_methodNamed B.named
  have hlocks := B.notSynchronized
  subst hsz
  have hD : va_D (rg1 h0 s.heap.size) [(h0, .inr (13, [.ref (r 0), .ref (r 1), .ref (r 2), .ref (r 3), .ref (r 4), .ref (r 5), .ref (r 6), .ref (r 7), .ref (r 8), .ref (r 9), .ref (r 10), .ref (r 11), .ref (r 12), .ref (r 13), .ref (r 14), .ref (r 15), .int 0, .int 0, .int 1, .int 110, .int 0, .int 0, .int 0, .int 0, .int 0, .int 0, .int 0, .int 0, .int 0, .int 0, .int 0]))] := rg1_D
  generalize hAe : rg1 h0 s.heap.size = A at hD ⊢
  have hA : ∀ q : Nat, s.heap.size ≤ q → A q := fun q h => by rw [← hAe]; exact Or.inr h
  have hS : va_S A s.heap s.heap [] := va_S.rf
  have hP : va_P D vwCl [(h0, .inr (13, [.ref (r 0), .ref (r 1), .ref (r 2), .ref (r 3), .ref (r 4), .ref (r 5), .ref (r 6), .ref (r 7), .ref (r 8), .ref (r 9), .ref (r 10), .ref (r 11), .ref (r 12), .ref (r 13), .ref (r 14), .ref (r 15), .int 0, .int 0, .int 1, .int 110, .int 0, .int 0, .int 0, .int 0, .int 0, .int 0, .int 0, .int 0, .int 0, .int 0, .int 0]))] s.heap := hP
  have hl := lv_entry ([.ref h0]) (n := 1) (Nat.le_of_ble_eq_true rfl)
  rw [lg_entry_eq]
  generalize (lg_sl ([.ref h0]) ++ List.replicate (1 - (lg_sl ([.ref h0])).length) Slot.unset).toArray = ls at hl ⊢
  have hl : lv_has ls 1 [(0, .ref h0)] := hl
  refine lv_aload_n hx hb dX7_holeOn_0 rfl (lv_at hl 0 rfl) ?_
  refine lv_aload_n hx hb dX7_holeOn_1 rfl (lv_at hl 0 rfl) ?_
  refine va_get (D := D) (ci := 13) (v := .int 0) (C := RX7) (T := TX7) (N := 31) hx hb hts (by decide +kernel) hown hK hP 0 rfl rfl 22 (by decide) (hts (.fieldLink RX7 135 "FairwayChanceryModel" "isOn" "Z") (by decide +kernel)) (fun _ h9 => h9) rfl dX7_holeOn_2 ?_
  refine lv_if_ne (tgt := 12) hx hb dX7_holeOn_5 (by decide) (fun c => by first | exact absurd c (by decide) | exact absurd (by decide) c) (fun _ => ?_)
  refine lv_iconst (v := 1) hx hb dX7_holeOn_8 (by decide) ?_
  refine lv_goto (tgt := 13) hx hb dX7_holeOn_9 (by decide) ?_
  refine lv_iconst (v := 1) hx hb dX7_holeOn_13 (by decide) ?_
  have hFc : ∀ q : Nat, rg1 h0 s.heap.size q → A q := fun q h => h.elim (fun e => by rw [e]; exact hD.2 0 _ rfl) (fun h => hA q (Nat.le_trans hS.1 h))
  refine va_calli (va_runV (As := [.int 1, .int 1]) (rest := []) ⟨hx, hb, hml, hown, hts⟩ (c_X7_isThrown l D h0 r 0 s.heap.size 1 1 (Or.inr rfl)) (cwV 2 hts gX7_holeOn_X7_isThrown rfl rfl rfl (by decide +kernel) ⟨Nat.le_of_ble_eq_true rfl, Nat.le_of_ble_eq_true rfl⟩) ⟨fun a U g mk q => ⟨q.1, PX7.blind q.2⟩, va_recv hK hP (ci := 13) (q0 := 0) rfl rfl, fun U hU hW => ⟨rfl, PX7.go hP hK hU hW⟩⟩ rfl rfl hl.1 rfl (lv_room (Nat.le_of_ble_eq_true rfl)) dX7_holeOn_14 ⟨Nat.le_of_ble_eq_true rfl, Nat.le_of_ble_eq_true rfl⟩) hS (fun q _ h => hFc q h) hFc (fun r2 u t H1 locs ht hvm hw hB hz1 hk1 hS => ?_)
  rw [ht, if_neg (by decide)] at hB
  have hP := hB
  generalize H1 = H at hP hS ⊢
  have hP : va_P D vwCl [(h0, .inr (13, [.ref (r 0), .ref (r 1), .ref (r 2), .ref (r 3), .ref (r 4), .ref (r 5), .ref (r 6), .ref (r 7), .ref (r 8), .ref (r 9), .ref (r 10), .ref (r 11), .ref (r 12), .ref (r 13), .ref (r 14), .ref (r 15), .int 0, .int 0, .int 1, .int 110, .int 0, .int 0, .int 0, .int 0, .int 0, .int 0, .int 0, .int 0, .int 0, .int 0, .int 1]))] H := hP
  have hD : va_D A [(h0, .inr (13, [.ref (r 0), .ref (r 1), .ref (r 2), .ref (r 3), .ref (r 4), .ref (r 5), .ref (r 6), .ref (r 7), .ref (r 8), .ref (r 9), .ref (r 10), .ref (r 11), .ref (r 12), .ref (r 13), .ref (r 14), .ref (r 15), .int 0, .int 0, .int 1, .int 110, .int 0, .int 0, .int 0, .int 0, .int 0, .int 0, .int 0, .int 0, .int 0, .int 0, .int 1]))] := by rw [← hAe]; exact rg1_D
  obtain rfl : r2 = 1 := hw
  refine lv_if_eq (tgt := 24) hx hb dX7_holeOn_17 (by decide) (fun c => by first | exact absurd c (by decide) | exact absurd (by decide) c) (fun _ => ?_)
  refine lv_iconst (v := 0) hx hb dX7_holeOn_20 (by decide) ?_
  refine lv_goto (tgt := 28) hx hb dX7_holeOn_21 (by decide) ?_
  have hP9 := hP
  exact W.iret (v := 0) hx hb hr (fun t ht hW => ⟨⟨0, [.ref (r 0), .ref (r 1), .ref (r 2), .ref (r 3), .ref (r 4), .ref (r 5), .ref (r 6), .ref (r 7), .ref (r 8), .ref (r 9), .ref (r 10), .ref (r 11), .ref (r 12), .ref (r 13), .ref (r 14), .ref (r 15), .int 0, .int 0, .int 1, .int 110, .int 0, .int 0, .int 0, .int 0, .int 0, .int 0, .int 0, .int 0, .int 0, .int 0, .int 1], rfl, rfl, by rw [← ht] at hP9; exact hP9⟩, hS.F ht⟩) hS.2.2 dX7_holeOn_28
set_option maxHeartbeats 4000000 in
set_option maxRecDepth 100000 in
theorem c_X7_away (l : Launch) (D : va_G) (h0 : Nat) (r : Nat → Nat) (sz : Nat) : Met l yX7_away wsX7_away ({ frames := 60, cells := 0, slots := 0, locals := 600 }) (va_Pc [.ref h0] (PX7 D h0 r 0 sz)) (va_Qi (fun (r9 : Int32) (u : List Value) => u[30]? = some (.int 1)) (fun u t => va_P D vwCl [(h0, .inr (13, u))] t.heap) (rg1 h0 sz)) 0 0 (rg1 h0 sz) := by
  refine Met.ofW (cc := cX7_away) (maxL := 1) (ret := (some .int)) (by decide +kernel) rfl ?_
  intro p e s m args below meth c s₁ B hml hv
  obtain ⟨rfl, hsz, hP, hK⟩ := hv
  have hx := B.exec
  have hb := B.bytes
  have hr := B.returns
  have hts := atoms_spec (ws := wsX7_away) B.pre
  have hown : s.vm.findClass RX7 = some m.cls := findClass_of_methodNamed B.named
  have hlocks := B.notSynchronized
  subst hsz
  have hD : va_D (rg1 h0 s.heap.size) [(h0, .inr (13, [.ref (r 0), .ref (r 1), .ref (r 2), .ref (r 3), .ref (r 4), .ref (r 5), .ref (r 6), .ref (r 7), .ref (r 8), .ref (r 9), .ref (r 10), .ref (r 11), .ref (r 12), .ref (r 13), .ref (r 14), .ref (r 15), .int 0, .int 0, .int 1, .int 110, .int 0, .int 0, .int 0, .int 0, .int 0, .int 0, .int 0, .int 0, .int 0, .int 0, .int 0]))] := rg1_D
  generalize hAe : rg1 h0 s.heap.size = A at hD ⊢
  have hA : ∀ q : Nat, s.heap.size ≤ q → A q := fun q h => by rw [← hAe]; exact Or.inr h
  have hS : va_S A s.heap s.heap [] := va_S.rf
  have hP : va_P D vwCl [(h0, .inr (13, [.ref (r 0), .ref (r 1), .ref (r 2), .ref (r 3), .ref (r 4), .ref (r 5), .ref (r 6), .ref (r 7), .ref (r 8), .ref (r 9), .ref (r 10), .ref (r 11), .ref (r 12), .ref (r 13), .ref (r 14), .ref (r 15), .int 0, .int 0, .int 1, .int 110, .int 0, .int 0, .int 0, .int 0, .int 0, .int 0, .int 0, .int 0, .int 0, .int 0, .int 0]))] s.heap := hP
  have hl := lv_entry ([.ref h0]) (n := 1) (Nat.le_of_ble_eq_true rfl)
  rw [lg_entry_eq]
  generalize (lg_sl ([.ref h0]) ++ List.replicate (1 - (lg_sl ([.ref h0])).length) Slot.unset).toArray = ls at hl ⊢
  have hl : lv_has ls 1 [(0, .ref h0)] := hl
  refine lv_aload_n hx hb dX7_away_0 rfl (lv_at hl 0 rfl) ?_
  refine lv_aload_n hx hb dX7_away_1 rfl (lv_at hl 0 rfl) ?_
  refine va_get (D := D) (ci := 13) (v := .int 0) (C := RX7) (T := TX7) (N := 31) hx hb hts (by decide +kernel) hown hK hP 0 rfl rfl 22 (by decide) (hts (.fieldLink RX7 135 "FairwayChanceryModel" "isOn" "Z") (by decide +kernel)) (fun _ h9 => h9) rfl dX7_away_2 ?_
  refine lv_if_ne (tgt := 12) hx hb dX7_away_5 (by decide) (fun c => by first | exact absurd c (by decide) | exact absurd (by decide) c) (fun _ => ?_)
  refine lv_iconst (v := 1) hx hb dX7_away_8 (by decide) ?_
  refine lv_goto (tgt := 13) hx hb dX7_away_9 (by decide) ?_
  refine lv_iconst (v := 1) hx hb dX7_away_13 (by decide) ?_
  have hFc : ∀ q : Nat, rg1 h0 s.heap.size q → A q := fun q h => h.elim (fun e => by rw [e]; exact hD.2 0 _ rfl) (fun h => hA q (Nat.le_trans hS.1 h))
  refine va_calli (va_runV (As := [.int 1, .int 1]) (rest := []) ⟨hx, hb, hml, hown, hts⟩ (c_X7_isThrown l D h0 r 0 s.heap.size 1 1 (Or.inr rfl)) (cwV 2 hts gX7_away_X7_isThrown rfl rfl rfl (by decide +kernel) ⟨Nat.le_of_ble_eq_true rfl, Nat.le_of_ble_eq_true rfl⟩) ⟨fun a U g mk q => ⟨q.1, PX7.blind q.2⟩, va_recv hK hP (ci := 13) (q0 := 0) rfl rfl, fun U hU hW => ⟨rfl, PX7.go hP hK hU hW⟩⟩ rfl rfl hl.1 rfl (lv_room (Nat.le_of_ble_eq_true rfl)) dX7_away_14 ⟨Nat.le_of_ble_eq_true rfl, Nat.le_of_ble_eq_true rfl⟩) hS (fun q _ h => hFc q h) hFc (fun r2 u t H1 locs ht hvm hw hB hz1 hk1 hS => ?_)
  rw [ht, if_neg (by decide)] at hB
  have hP := hB
  generalize H1 = H at hP hS ⊢
  have hP : va_P D vwCl [(h0, .inr (13, [.ref (r 0), .ref (r 1), .ref (r 2), .ref (r 3), .ref (r 4), .ref (r 5), .ref (r 6), .ref (r 7), .ref (r 8), .ref (r 9), .ref (r 10), .ref (r 11), .ref (r 12), .ref (r 13), .ref (r 14), .ref (r 15), .int 0, .int 0, .int 1, .int 110, .int 0, .int 0, .int 0, .int 0, .int 0, .int 0, .int 0, .int 0, .int 0, .int 0, .int 1]))] H := hP
  have hD : va_D A [(h0, .inr (13, [.ref (r 0), .ref (r 1), .ref (r 2), .ref (r 3), .ref (r 4), .ref (r 5), .ref (r 6), .ref (r 7), .ref (r 8), .ref (r 9), .ref (r 10), .ref (r 11), .ref (r 12), .ref (r 13), .ref (r 14), .ref (r 15), .int 0, .int 0, .int 1, .int 110, .int 0, .int 0, .int 0, .int 0, .int 0, .int 0, .int 0, .int 0, .int 0, .int 0, .int 1]))] := by rw [← hAe]; exact rg1_D
  obtain rfl : r2 = 1 := hw
  refine lv_if_ne (tgt := 40) hx hb dX7_away_17 (by decide) (fun _ => ?_) (fun c => by first | exact absurd (by decide) c | exact absurd c (by decide))
  refine lv_iconst (v := 0) hx hb dX7_away_40 (by decide) ?_
  refine lv_goto (tgt := 48) hx hb dX7_away_41 (by decide) ?_
  have hP9 := hP
  exact W.iret (v := 0) hx hb hr (fun t ht hW => ⟨⟨0, [.ref (r 0), .ref (r 1), .ref (r 2), .ref (r 3), .ref (r 4), .ref (r 5), .ref (r 6), .ref (r 7), .ref (r 8), .ref (r 9), .ref (r 10), .ref (r 11), .ref (r 12), .ref (r 13), .ref (r 14), .ref (r 15), .int 0, .int 0, .int 1, .int 110, .int 0, .int 0, .int 0, .int 0, .int 0, .int 0, .int 0, .int 0, .int 0, .int 0, .int 1], rfl, rfl, by rw [← ht] at hP9; exact hP9⟩, hS.F ht⟩) hS.2.2 dX7_away_48
set_option maxHeartbeats 4000000 in
set_option maxRecDepth 100000 in
theorem c_X7_stroke (l : Launch) (D : va_G) (h0 : Nat) (r : Nat → Nat) (sz : Nat) (a1 a2 a3 : Int32) : Met l yX7_stroke wsX7_stroke ({ frames := 60, cells := 0, slots := 0, locals := 600 }) (va_Pc [.ref h0, .int a1, .int a2, .int a3] (PX7 D h0 r 0 sz)) (va_Qi (fun (r9 : Int32) (u : List Value) => u[30]? = some (.int 1)) (fun u t => va_P D vwCl [(h0, .inr (13, u))] t.heap) (rg1 h0 sz)) 0 0 (rg1 h0 sz) := by
  refine Met.ofW (cc := cX7_stroke) (maxL := 6) (ret := (some .char)) (by decide +kernel) rfl ?_
  intro p e s m args below meth c s₁ B hml hv
  obtain ⟨rfl, hsz, hP, hK⟩ := hv
  have hx := B.exec
  have hb := B.bytes
  have hr := B.returns
  have hts := atoms_spec (ws := wsX7_stroke) B.pre
  have hown : s.vm.findClass RX7 = some m.cls := findClass_of_methodNamed B.named
  have hlocks := B.notSynchronized
  subst hsz
  have hD : va_D (rg1 h0 s.heap.size) [(h0, .inr (13, [.ref (r 0), .ref (r 1), .ref (r 2), .ref (r 3), .ref (r 4), .ref (r 5), .ref (r 6), .ref (r 7), .ref (r 8), .ref (r 9), .ref (r 10), .ref (r 11), .ref (r 12), .ref (r 13), .ref (r 14), .ref (r 15), .int 0, .int 0, .int 1, .int 110, .int 0, .int 0, .int 0, .int 0, .int 0, .int 0, .int 0, .int 0, .int 0, .int 0, .int 0]))] := rg1_D
  generalize hAe : rg1 h0 s.heap.size = A at hD ⊢
  have hA : ∀ q : Nat, s.heap.size ≤ q → A q := fun q h => by rw [← hAe]; exact Or.inr h
  have hS : va_S A s.heap s.heap [] := va_S.rf
  have hP : va_P D vwCl [(h0, .inr (13, [.ref (r 0), .ref (r 1), .ref (r 2), .ref (r 3), .ref (r 4), .ref (r 5), .ref (r 6), .ref (r 7), .ref (r 8), .ref (r 9), .ref (r 10), .ref (r 11), .ref (r 12), .ref (r 13), .ref (r 14), .ref (r 15), .int 0, .int 0, .int 1, .int 110, .int 0, .int 0, .int 0, .int 0, .int 0, .int 0, .int 0, .int 0, .int 0, .int 0, .int 0]))] s.heap := hP
  have hl := lv_entry ([.ref h0, .int a1, .int a2, .int a3]) (n := 6) (Nat.le_of_ble_eq_true rfl)
  rw [lg_entry_eq]
  generalize (lg_sl ([.ref h0, .int a1, .int a2, .int a3]) ++ List.replicate (6 - (lg_sl ([.ref h0, .int a1, .int a2, .int a3])).length) Slot.unset).toArray = ls at hl ⊢
  have hl : lv_has ls 6 [(0, .ref h0), (1, .int a1), (2, .int a2), (3, .int a3)] := hl
  refine lv_aload_n hx hb dX7_stroke_0 rfl (lv_at hl 0 rfl) ?_
  refine lv_aload_n hx hb dX7_stroke_1 rfl (lv_at hl 0 rfl) ?_
  refine lv_iload_n hx hb dX7_stroke_2 rfl (lv_at hl 1 rfl) ?_
  refine va_calli (va_runV (As := [.int a1]) (rest := [.ref h0]) ⟨hx, hb, hml, hown, hts⟩ (c_X7_isNoPlayer l D h0 r 0 s.heap.size a1) (cwV 1 hts gX7_stroke_X7_isNoPlayer rfl rfl rfl (by decide +kernel) ⟨Nat.le_of_ble_eq_true rfl, Nat.le_of_ble_eq_true rfl⟩) ⟨fun a U g mk q => ⟨q.1, PX7.blind q.2⟩, va_recv hK hP (ci := 13) (q0 := 0) rfl rfl, fun U hU hW => ⟨rfl, PX7.go hP hK hU hW⟩⟩ rfl rfl hl.1 rfl (lv_room (Nat.le_of_ble_eq_true rfl)) dX7_stroke_3 ⟨Nat.le_of_ble_eq_true rfl, Nat.le_of_ble_eq_true rfl⟩) hS (fun q h1 h2 => absurd h1 (Nat.not_lt.mpr h2)) (fun q h => hA q (Nat.le_trans hS.1 h)) (fun r1 u t H1 locs ht hvm hw hB hz1 hk1 hS => ?_)
  have hP := va_kept0 hP hk1
  generalize H1 = H at hP hS ⊢
  have hP : va_P D vwCl [(h0, .inr (13, [.ref (r 0), .ref (r 1), .ref (r 2), .ref (r 3), .ref (r 4), .ref (r 5), .ref (r 6), .ref (r 7), .ref (r 8), .ref (r 9), .ref (r 10), .ref (r 11), .ref (r 12), .ref (r 13), .ref (r 14), .ref (r 15), .int 0, .int 0, .int 1, .int 110, .int 0, .int 0, .int 0, .int 0, .int 0, .int 0, .int 0, .int 0, .int 0, .int 0, .int 0]))] H := hP
  obtain rfl : r1 = 1 := hw
  refine lv_if_ne (tgt := 17) hx hb dX7_stroke_6 (by decide) (fun _ => ?_) (fun c => by first | exact absurd (by decide) c | exact absurd c (by decide))
  refine lv_iconst (v := 1) hx hb dX7_stroke_17 (by decide) ?_
  refine lv_goto (tgt := 22) hx hb dX7_stroke_18 (by decide) ?_
  refine lv_iconst (v := 1) hx hb dX7_stroke_22 (by decide) ?_
  have hFc : ∀ q : Nat, rg1 h0 H.size q → A q := fun q h => h.elim (fun e => by rw [e]; exact hD.2 0 _ rfl) (fun h => hA q (Nat.le_trans hS.1 h))
  refine va_calli (va_runV (As := [.int 1, .int 1]) (rest := []) ⟨hx, hb, hml, hown, hts⟩ (c_X7_isThrown l D h0 r 0 H.size 1 1 (Or.inr rfl)) (cwV 2 hts gX7_stroke_X7_isThrown rfl rfl rfl (by decide +kernel) ⟨Nat.le_of_ble_eq_true rfl, Nat.le_of_ble_eq_true rfl⟩) ⟨fun a U g mk q => ⟨q.1, PX7.blind q.2⟩, va_recv hK hP (ci := 13) (q0 := 0) rfl rfl, fun U hU hW => ⟨rfl, PX7.go hP hK hU hW⟩⟩ rfl rfl hl.1 rfl (lv_room (Nat.le_of_ble_eq_true rfl)) dX7_stroke_23 ⟨Nat.le_of_ble_eq_true rfl, Nat.le_of_ble_eq_true rfl⟩) hS (fun q _ h => hFc q h) hFc (fun r3 u t H1 locs ht hvm hw hB hz1 hk1 hS => ?_)
  rw [ht, if_neg (by decide)] at hB
  have hP := hB
  generalize H1 = H at hP hS ⊢
  have hP : va_P D vwCl [(h0, .inr (13, [.ref (r 0), .ref (r 1), .ref (r 2), .ref (r 3), .ref (r 4), .ref (r 5), .ref (r 6), .ref (r 7), .ref (r 8), .ref (r 9), .ref (r 10), .ref (r 11), .ref (r 12), .ref (r 13), .ref (r 14), .ref (r 15), .int 0, .int 0, .int 1, .int 110, .int 0, .int 0, .int 0, .int 0, .int 0, .int 0, .int 0, .int 0, .int 0, .int 0, .int 1]))] H := hP
  have hD : va_D A [(h0, .inr (13, [.ref (r 0), .ref (r 1), .ref (r 2), .ref (r 3), .ref (r 4), .ref (r 5), .ref (r 6), .ref (r 7), .ref (r 8), .ref (r 9), .ref (r 10), .ref (r 11), .ref (r 12), .ref (r 13), .ref (r 14), .ref (r 15), .int 0, .int 0, .int 1, .int 110, .int 0, .int 0, .int 0, .int 0, .int 0, .int 0, .int 0, .int 0, .int 0, .int 0, .int 1]))] := by rw [← hAe]; exact rg1_D
  obtain rfl : r3 = 1 := hw
  refine lv_if_ne (tgt := 76) hx hb dX7_stroke_26 (by decide) (fun _ => ?_) (fun c => by first | exact absurd (by decide) c | exact absurd c (by decide))
  refine lv_bipush (v := 32) hx hb dX7_stroke_76 (by decide) ?_
  have hP9 := hP
  exact W.zret (v := 32) (ty := .char) hx hb hr (by decide) (fun t ht hW => ⟨⟨32, [.ref (r 0), .ref (r 1), .ref (r 2), .ref (r 3), .ref (r 4), .ref (r 5), .ref (r 6), .ref (r 7), .ref (r 8), .ref (r 9), .ref (r 10), .ref (r 11), .ref (r 12), .ref (r 13), .ref (r 14), .ref (r 15), .int 0, .int 0, .int 1, .int 110, .int 0, .int 0, .int 0, .int 0, .int 0, .int 0, .int 0, .int 0, .int 0, .int 0, .int 1], rfl, rfl, by rw [← ht] at hP9; exact hP9⟩, hS.F ht⟩) hS.2.2 dX7_stroke_78
set_option maxHeartbeats 4000000 in
set_option maxRecDepth 100000 in
theorem c_X7_odds (l : Launch) (D : va_G) (h0 : Nat) (r : Nat → Nat) (sz : Nat) (a1 a2 a3 a4 : Int32) : Met l yX7_odds wsX7_odds ({ frames := 60, cells := 1, slots := 9, locals := 600 }) (va_Pc [.ref h0, .int a1, .int a2, .int a3, .int a4] (PX7 D h0 r 0 sz)) (va_Qi (fun (r9 : Int32) (u : List Value) => u[30]? = some (.int 1)) (fun u t => va_P D vwCl [(h0, .inr (13, u))] t.heap) (rg1 h0 sz)) 1 9 (rg1 h0 sz) := by
  refine Met.ofW (cc := cX7_odds) (maxL := 12) (ret := (some .int)) (by decide +kernel) rfl ?_
  intro p e s m args below meth c s₁ B hml hv
  obtain ⟨rfl, hsz, hP, hK⟩ := hv
  have hx := B.exec
  have hb := B.bytes
  have hr := B.returns
  have hts := atoms_spec (ws := wsX7_odds) B.pre
  have hown : s.vm.findClass RX7 = some m.cls := findClass_of_methodNamed B.named
  have hlocks := B.notSynchronized
  subst hsz
  have hD : va_D (rg1 h0 s.heap.size) [(h0, .inr (13, [.ref (r 0), .ref (r 1), .ref (r 2), .ref (r 3), .ref (r 4), .ref (r 5), .ref (r 6), .ref (r 7), .ref (r 8), .ref (r 9), .ref (r 10), .ref (r 11), .ref (r 12), .ref (r 13), .ref (r 14), .ref (r 15), .int 0, .int 0, .int 1, .int 110, .int 0, .int 0, .int 0, .int 0, .int 0, .int 0, .int 0, .int 0, .int 0, .int 0, .int 0]))] := rg1_D
  generalize hAe : rg1 h0 s.heap.size = A at hD ⊢
  have hA : ∀ q : Nat, s.heap.size ≤ q → A q := fun q h => by rw [← hAe]; exact Or.inr h
  have hS : va_S A s.heap s.heap [] := va_S.rf
  have hP : va_P D vwCl [(h0, .inr (13, [.ref (r 0), .ref (r 1), .ref (r 2), .ref (r 3), .ref (r 4), .ref (r 5), .ref (r 6), .ref (r 7), .ref (r 8), .ref (r 9), .ref (r 10), .ref (r 11), .ref (r 12), .ref (r 13), .ref (r 14), .ref (r 15), .int 0, .int 0, .int 1, .int 110, .int 0, .int 0, .int 0, .int 0, .int 0, .int 0, .int 0, .int 0, .int 0, .int 0, .int 0]))] s.heap := hP
  have hl := lv_entry ([.ref h0, .int a1, .int a2, .int a3, .int a4]) (n := 12) (Nat.le_of_ble_eq_true rfl)
  rw [lg_entry_eq]
  generalize (lg_sl ([.ref h0, .int a1, .int a2, .int a3, .int a4]) ++ List.replicate (12 - (lg_sl ([.ref h0, .int a1, .int a2, .int a3, .int a4])).length) Slot.unset).toArray = ls at hl ⊢
  have hl : lv_has ls 12 [(0, .ref h0), (1, .int a1), (2, .int a2), (3, .int a3), (4, .int a4)] := hl
  refine lv_aload_n hx hb dX7_odds_0 rfl (lv_at hl 0 rfl) ?_
  refine lv_aload_n hx hb dX7_odds_1 rfl (lv_at hl 0 rfl) ?_
  refine lv_iload_n hx hb dX7_odds_2 rfl (lv_at hl 1 rfl) ?_
  refine va_calli (va_runV (As := [.int a1]) (rest := [.ref h0]) ⟨hx, hb, hml, hown, hts⟩ (c_X7_isNoPlayer l D h0 r 0 s.heap.size a1) (cwV 1 hts gX7_odds_X7_isNoPlayer rfl rfl rfl (by decide +kernel) ⟨Nat.le_of_ble_eq_true rfl, Nat.le_of_ble_eq_true rfl⟩) ⟨fun a U g mk q => ⟨q.1, PX7.blind q.2⟩, va_recv hK hP (ci := 13) (q0 := 0) rfl rfl, fun U hU hW => ⟨rfl, PX7.go hP hK hU hW⟩⟩ rfl rfl hl.1 rfl (lv_room (Nat.le_of_ble_eq_true rfl)) dX7_odds_3 ⟨Nat.le_of_ble_eq_true rfl, Nat.le_of_ble_eq_true rfl⟩) hS (fun q h1 h2 => absurd h1 (Nat.not_lt.mpr h2)) (fun q h => hA q (Nat.le_trans hS.1 h)) (fun r1 u t H1 locs ht hvm hw hB hz1 hk1 hS => ?_)
  have hP := va_kept0 hP hk1
  generalize H1 = H at hP hS ⊢
  have hP : va_P D vwCl [(h0, .inr (13, [.ref (r 0), .ref (r 1), .ref (r 2), .ref (r 3), .ref (r 4), .ref (r 5), .ref (r 6), .ref (r 7), .ref (r 8), .ref (r 9), .ref (r 10), .ref (r 11), .ref (r 12), .ref (r 13), .ref (r 14), .ref (r 15), .int 0, .int 0, .int 1, .int 110, .int 0, .int 0, .int 0, .int 0, .int 0, .int 0, .int 0, .int 0, .int 0, .int 0, .int 0]))] H := hP
  obtain rfl : r1 = 1 := hw
  refine lv_if_ne (tgt := 17) hx hb dX7_odds_6 (by decide) (fun _ => ?_) (fun c => by first | exact absurd (by decide) c | exact absurd c (by decide))
  refine lv_iconst (v := 1) hx hb dX7_odds_17 (by decide) ?_
  refine lv_goto (tgt := 22) hx hb dX7_odds_18 (by decide) ?_
  refine lv_iconst (v := 1) hx hb dX7_odds_22 (by decide) ?_
  have hFc : ∀ q : Nat, rg1 h0 H.size q → A q := fun q h => h.elim (fun e => by rw [e]; exact hD.2 0 _ rfl) (fun h => hA q (Nat.le_trans hS.1 h))
  refine va_calli (va_runV (As := [.int 1, .int 1]) (rest := []) ⟨hx, hb, hml, hown, hts⟩ (c_X7_isThrown l D h0 r 0 H.size 1 1 (Or.inr rfl)) (cwV 2 hts gX7_odds_X7_isThrown rfl rfl rfl (by decide +kernel) ⟨Nat.le_of_ble_eq_true rfl, Nat.le_of_ble_eq_true rfl⟩) ⟨fun a U g mk q => ⟨q.1, PX7.blind q.2⟩, va_recv hK hP (ci := 13) (q0 := 0) rfl rfl, fun U hU hW => ⟨rfl, PX7.go hP hK hU hW⟩⟩ rfl rfl hl.1 rfl (lv_room (Nat.le_of_ble_eq_true rfl)) dX7_odds_23 ⟨Nat.le_of_ble_eq_true rfl, Nat.le_of_ble_eq_true rfl⟩) hS (fun q _ h => hFc q h) hFc (fun r3 u t H1 locs ht hvm hw hB hz1 hk1 hS => ?_)
  rw [ht, if_neg (by decide)] at hB
  have hP := hB
  generalize H1 = H at hP hS ⊢
  have hP : va_P D vwCl [(h0, .inr (13, [.ref (r 0), .ref (r 1), .ref (r 2), .ref (r 3), .ref (r 4), .ref (r 5), .ref (r 6), .ref (r 7), .ref (r 8), .ref (r 9), .ref (r 10), .ref (r 11), .ref (r 12), .ref (r 13), .ref (r 14), .ref (r 15), .int 0, .int 0, .int 1, .int 110, .int 0, .int 0, .int 0, .int 0, .int 0, .int 0, .int 0, .int 0, .int 0, .int 0, .int 1]))] H := hP
  have hD : va_D A [(h0, .inr (13, [.ref (r 0), .ref (r 1), .ref (r 2), .ref (r 3), .ref (r 4), .ref (r 5), .ref (r 6), .ref (r 7), .ref (r 8), .ref (r 9), .ref (r 10), .ref (r 11), .ref (r 12), .ref (r 13), .ref (r 14), .ref (r 15), .int 0, .int 0, .int 1, .int 110, .int 0, .int 0, .int 0, .int 0, .int 0, .int 0, .int 0, .int 0, .int 0, .int 0, .int 1]))] := by rw [← hAe]; exact rg1_D
  obtain rfl : r3 = 1 := hw
  refine lv_if_ne (tgt := 90) hx hb dX7_odds_26 (by decide) (fun _ => ?_) (fun c => by first | exact absurd (by decide) c | exact absurd c (by decide))
  refine lv_iconst (v := 0) hx hb dX7_odds_90 (by decide) ?_
  have hP9 := hP
  refine W.widen (k := 1) (n := 9) (by decide) (by decide) ?_
  exact W.iret (v := 0) hx hb hr (fun t ht hW => ⟨⟨0, [.ref (r 0), .ref (r 1), .ref (r 2), .ref (r 3), .ref (r 4), .ref (r 5), .ref (r 6), .ref (r 7), .ref (r 8), .ref (r 9), .ref (r 10), .ref (r 11), .ref (r 12), .ref (r 13), .ref (r 14), .ref (r 15), .int 0, .int 0, .int 1, .int 110, .int 0, .int 0, .int 0, .int 0, .int 0, .int 0, .int 0, .int 0, .int 0, .int 0, .int 1], rfl, rfl, by rw [← ht] at hP9; exact hP9⟩, hS.F ht⟩) hS.2.2 dX7_odds_91
set_option maxHeartbeats 4000000 in
set_option maxRecDepth 100000 in
theorem c_X7_provisional (l : Launch) (D : va_G) (h0 : Nat) (r : Nat → Nat) (sz : Nat) (a1 a2 a3 : Int32) : Met l yX7_provisional wsX7_provisional ({ frames := 60, cells := 0, slots := 0, locals := 600 }) (va_Pc [.ref h0, .int a1, .int a2, .int a3] (PX7 D h0 r 0 sz)) (va_Qi (fun (r9 : Int32) (u : List Value) => u[30]? = some (.int 1)) (fun u t => va_P D vwCl [(h0, .inr (13, u))] t.heap) (rg1 h0 sz)) 0 0 (rg1 h0 sz) := by
  refine Met.ofW (cc := cX7_provisional) (maxL := 10) (ret := (some .char)) (by decide +kernel) rfl ?_
  intro p e s m args below meth c s₁ B hml hv
  obtain ⟨rfl, hsz, hP, hK⟩ := hv
  have hx := B.exec
  have hb := B.bytes
  have hr := B.returns
  have hts := atoms_spec (ws := wsX7_provisional) B.pre
  have hown : s.vm.findClass RX7 = some m.cls := findClass_of_methodNamed B.named
  have hlocks := B.notSynchronized
  subst hsz
  have hD : va_D (rg1 h0 s.heap.size) [(h0, .inr (13, [.ref (r 0), .ref (r 1), .ref (r 2), .ref (r 3), .ref (r 4), .ref (r 5), .ref (r 6), .ref (r 7), .ref (r 8), .ref (r 9), .ref (r 10), .ref (r 11), .ref (r 12), .ref (r 13), .ref (r 14), .ref (r 15), .int 0, .int 0, .int 1, .int 110, .int 0, .int 0, .int 0, .int 0, .int 0, .int 0, .int 0, .int 0, .int 0, .int 0, .int 0]))] := rg1_D
  generalize hAe : rg1 h0 s.heap.size = A at hD ⊢
  have hA : ∀ q : Nat, s.heap.size ≤ q → A q := fun q h => by rw [← hAe]; exact Or.inr h
  have hS : va_S A s.heap s.heap [] := va_S.rf
  have hP : va_P D vwCl [(h0, .inr (13, [.ref (r 0), .ref (r 1), .ref (r 2), .ref (r 3), .ref (r 4), .ref (r 5), .ref (r 6), .ref (r 7), .ref (r 8), .ref (r 9), .ref (r 10), .ref (r 11), .ref (r 12), .ref (r 13), .ref (r 14), .ref (r 15), .int 0, .int 0, .int 1, .int 110, .int 0, .int 0, .int 0, .int 0, .int 0, .int 0, .int 0, .int 0, .int 0, .int 0, .int 0]))] s.heap := hP
  have hl := lv_entry ([.ref h0, .int a1, .int a2, .int a3]) (n := 10) (Nat.le_of_ble_eq_true rfl)
  rw [lg_entry_eq]
  generalize (lg_sl ([.ref h0, .int a1, .int a2, .int a3]) ++ List.replicate (10 - (lg_sl ([.ref h0, .int a1, .int a2, .int a3])).length) Slot.unset).toArray = ls at hl ⊢
  have hl : lv_has ls 10 [(0, .ref h0), (1, .int a1), (2, .int a2), (3, .int a3)] := hl
  refine lv_aload_n hx hb dX7_provisional_0 rfl (lv_at hl 0 rfl) ?_
  refine lv_aload_n hx hb dX7_provisional_1 rfl (lv_at hl 0 rfl) ?_
  refine lv_iload_n hx hb dX7_provisional_2 rfl (lv_at hl 1 rfl) ?_
  refine va_calli (va_runV (As := [.int a1]) (rest := [.ref h0]) ⟨hx, hb, hml, hown, hts⟩ (c_X7_isNoPlayer l D h0 r 0 s.heap.size a1) (cwV 1 hts gX7_provisional_X7_isNoPlayer rfl rfl rfl (by decide +kernel) ⟨Nat.le_of_ble_eq_true rfl, Nat.le_of_ble_eq_true rfl⟩) ⟨fun a U g mk q => ⟨q.1, PX7.blind q.2⟩, va_recv hK hP (ci := 13) (q0 := 0) rfl rfl, fun U hU hW => ⟨rfl, PX7.go hP hK hU hW⟩⟩ rfl rfl hl.1 rfl (lv_room (Nat.le_of_ble_eq_true rfl)) dX7_provisional_3 ⟨Nat.le_of_ble_eq_true rfl, Nat.le_of_ble_eq_true rfl⟩) hS (fun q h1 h2 => absurd h1 (Nat.not_lt.mpr h2)) (fun q h => hA q (Nat.le_trans hS.1 h)) (fun r1 u t H1 locs ht hvm hw hB hz1 hk1 hS => ?_)
  have hP := va_kept0 hP hk1
  generalize H1 = H at hP hS ⊢
  have hP : va_P D vwCl [(h0, .inr (13, [.ref (r 0), .ref (r 1), .ref (r 2), .ref (r 3), .ref (r 4), .ref (r 5), .ref (r 6), .ref (r 7), .ref (r 8), .ref (r 9), .ref (r 10), .ref (r 11), .ref (r 12), .ref (r 13), .ref (r 14), .ref (r 15), .int 0, .int 0, .int 1, .int 110, .int 0, .int 0, .int 0, .int 0, .int 0, .int 0, .int 0, .int 0, .int 0, .int 0, .int 0]))] H := hP
  obtain rfl : r1 = 1 := hw
  refine lv_if_ne (tgt := 17) hx hb dX7_provisional_6 (by decide) (fun _ => ?_) (fun c => by first | exact absurd (by decide) c | exact absurd c (by decide))
  refine lv_iconst (v := 1) hx hb dX7_provisional_17 (by decide) ?_
  refine lv_goto (tgt := 22) hx hb dX7_provisional_18 (by decide) ?_
  refine lv_iconst (v := 1) hx hb dX7_provisional_22 (by decide) ?_
  have hFc : ∀ q : Nat, rg1 h0 H.size q → A q := fun q h => h.elim (fun e => by rw [e]; exact hD.2 0 _ rfl) (fun h => hA q (Nat.le_trans hS.1 h))
  refine va_calli (va_runV (As := [.int 1, .int 1]) (rest := []) ⟨hx, hb, hml, hown, hts⟩ (c_X7_isThrown l D h0 r 0 H.size 1 1 (Or.inr rfl)) (cwV 2 hts gX7_provisional_X7_isThrown rfl rfl rfl (by decide +kernel) ⟨Nat.le_of_ble_eq_true rfl, Nat.le_of_ble_eq_true rfl⟩) ⟨fun a U g mk q => ⟨q.1, PX7.blind q.2⟩, va_recv hK hP (ci := 13) (q0 := 0) rfl rfl, fun U hU hW => ⟨rfl, PX7.go hP hK hU hW⟩⟩ rfl rfl hl.1 rfl (lv_room (Nat.le_of_ble_eq_true rfl)) dX7_provisional_23 ⟨Nat.le_of_ble_eq_true rfl, Nat.le_of_ble_eq_true rfl⟩) hS (fun q _ h => hFc q h) hFc (fun r3 u t H1 locs ht hvm hw hB hz1 hk1 hS => ?_)
  rw [ht, if_neg (by decide)] at hB
  have hP := hB
  generalize H1 = H at hP hS ⊢
  have hP : va_P D vwCl [(h0, .inr (13, [.ref (r 0), .ref (r 1), .ref (r 2), .ref (r 3), .ref (r 4), .ref (r 5), .ref (r 6), .ref (r 7), .ref (r 8), .ref (r 9), .ref (r 10), .ref (r 11), .ref (r 12), .ref (r 13), .ref (r 14), .ref (r 15), .int 0, .int 0, .int 1, .int 110, .int 0, .int 0, .int 0, .int 0, .int 0, .int 0, .int 0, .int 0, .int 0, .int 0, .int 1]))] H := hP
  have hD : va_D A [(h0, .inr (13, [.ref (r 0), .ref (r 1), .ref (r 2), .ref (r 3), .ref (r 4), .ref (r 5), .ref (r 6), .ref (r 7), .ref (r 8), .ref (r 9), .ref (r 10), .ref (r 11), .ref (r 12), .ref (r 13), .ref (r 14), .ref (r 15), .int 0, .int 0, .int 1, .int 110, .int 0, .int 0, .int 0, .int 0, .int 0, .int 0, .int 0, .int 0, .int 0, .int 0, .int 1]))] := by rw [← hAe]; exact rg1_D
  obtain rfl : r3 = 1 := hw
  refine lv_if_ne (tgt := 56) hx hb dX7_provisional_26 (by decide) (fun _ => ?_) (fun c => by first | exact absurd (by decide) c | exact absurd c (by decide))
  refine lv_bipush (v := 32) hx hb dX7_provisional_56 (by decide) ?_
  have hP9 := hP
  exact W.zret (v := 32) (ty := .char) hx hb hr (by decide) (fun t ht hW => ⟨⟨32, [.ref (r 0), .ref (r 1), .ref (r 2), .ref (r 3), .ref (r 4), .ref (r 5), .ref (r 6), .ref (r 7), .ref (r 8), .ref (r 9), .ref (r 10), .ref (r 11), .ref (r 12), .ref (r 13), .ref (r 14), .ref (r 15), .int 0, .int 0, .int 1, .int 110, .int 0, .int 0, .int 0, .int 0, .int 0, .int 0, .int 0, .int 0, .int 0, .int 0, .int 1], rfl, rfl, by rw [← ht] at hP9; exact hP9⟩, hS.F ht⟩) hS.2.2 dX7_provisional_58
set_option maxHeartbeats 4000000 in
set_option maxRecDepth 100000 in
theorem c_X7_search (l : Launch) (D : va_G) (h0 : Nat) (r : Nat → Nat) (sz : Nat) (a1 : Int32) : Met l yX7_search wsX7_search ({ frames := 60, cells := 0, slots := 0, locals := 600 }) (va_Pc [.ref h0, .int a1] (PX7 D h0 r 0 sz)) (va_Qi (fun (r9 : Int32) (u : List Value) => u[30]? = some (.int 1)) (fun u t => va_P D vwCl [(h0, .inr (13, u))] t.heap) (rg1 h0 sz)) 0 0 (rg1 h0 sz) := by
  refine Met.ofW (cc := cX7_search) (maxL := 5) (ret := (some .char)) (by decide +kernel) rfl ?_
  intro p e s m args below meth c s₁ B hml hv
  obtain ⟨rfl, hsz, hP, hK⟩ := hv
  have hx := B.exec
  have hb := B.bytes
  have hr := B.returns
  have hts := atoms_spec (ws := wsX7_search) B.pre
  have hown : s.vm.findClass RX7 = some m.cls := findClass_of_methodNamed B.named
  have hlocks := B.notSynchronized
  subst hsz
  have hD : va_D (rg1 h0 s.heap.size) [(h0, .inr (13, [.ref (r 0), .ref (r 1), .ref (r 2), .ref (r 3), .ref (r 4), .ref (r 5), .ref (r 6), .ref (r 7), .ref (r 8), .ref (r 9), .ref (r 10), .ref (r 11), .ref (r 12), .ref (r 13), .ref (r 14), .ref (r 15), .int 0, .int 0, .int 1, .int 110, .int 0, .int 0, .int 0, .int 0, .int 0, .int 0, .int 0, .int 0, .int 0, .int 0, .int 0]))] := rg1_D
  generalize hAe : rg1 h0 s.heap.size = A at hD ⊢
  have hA : ∀ q : Nat, s.heap.size ≤ q → A q := fun q h => by rw [← hAe]; exact Or.inr h
  have hS : va_S A s.heap s.heap [] := va_S.rf
  have hP : va_P D vwCl [(h0, .inr (13, [.ref (r 0), .ref (r 1), .ref (r 2), .ref (r 3), .ref (r 4), .ref (r 5), .ref (r 6), .ref (r 7), .ref (r 8), .ref (r 9), .ref (r 10), .ref (r 11), .ref (r 12), .ref (r 13), .ref (r 14), .ref (r 15), .int 0, .int 0, .int 1, .int 110, .int 0, .int 0, .int 0, .int 0, .int 0, .int 0, .int 0, .int 0, .int 0, .int 0, .int 0]))] s.heap := hP
  have hl := lv_entry ([.ref h0, .int a1]) (n := 5) (Nat.le_of_ble_eq_true rfl)
  rw [lg_entry_eq]
  generalize (lg_sl ([.ref h0, .int a1]) ++ List.replicate (5 - (lg_sl ([.ref h0, .int a1])).length) Slot.unset).toArray = ls at hl ⊢
  have hl : lv_has ls 5 [(0, .ref h0), (1, .int a1)] := hl
  refine lv_aload_n hx hb dX7_search_0 rfl (lv_at hl 0 rfl) ?_
  refine lv_aload_n hx hb dX7_search_1 rfl (lv_at hl 0 rfl) ?_
  refine lv_iload_n hx hb dX7_search_2 rfl (lv_at hl 1 rfl) ?_
  refine va_calli (va_runV (As := [.int a1]) (rest := [.ref h0]) ⟨hx, hb, hml, hown, hts⟩ (c_X7_isNoPlayer l D h0 r 0 s.heap.size a1) (cwV 1 hts gX7_search_X7_isNoPlayer rfl rfl rfl (by decide +kernel) ⟨Nat.le_of_ble_eq_true rfl, Nat.le_of_ble_eq_true rfl⟩) ⟨fun a U g mk q => ⟨q.1, PX7.blind q.2⟩, va_recv hK hP (ci := 13) (q0 := 0) rfl rfl, fun U hU hW => ⟨rfl, PX7.go hP hK hU hW⟩⟩ rfl rfl hl.1 rfl (lv_room (Nat.le_of_ble_eq_true rfl)) dX7_search_3 ⟨Nat.le_of_ble_eq_true rfl, Nat.le_of_ble_eq_true rfl⟩) hS (fun q h1 h2 => absurd h1 (Nat.not_lt.mpr h2)) (fun q h => hA q (Nat.le_trans hS.1 h)) (fun r1 u t H1 locs ht hvm hw hB hz1 hk1 hS => ?_)
  have hP := va_kept0 hP hk1
  generalize H1 = H at hP hS ⊢
  have hP : va_P D vwCl [(h0, .inr (13, [.ref (r 0), .ref (r 1), .ref (r 2), .ref (r 3), .ref (r 4), .ref (r 5), .ref (r 6), .ref (r 7), .ref (r 8), .ref (r 9), .ref (r 10), .ref (r 11), .ref (r 12), .ref (r 13), .ref (r 14), .ref (r 15), .int 0, .int 0, .int 1, .int 110, .int 0, .int 0, .int 0, .int 0, .int 0, .int 0, .int 0, .int 0, .int 0, .int 0, .int 0]))] H := hP
  obtain rfl : r1 = 1 := hw
  refine lv_iconst (v := 1) hx hb dX7_search_6 (by decide) ?_
  have hFc : ∀ q : Nat, rg1 h0 H.size q → A q := fun q h => h.elim (fun e => by rw [e]; exact hD.2 0 _ rfl) (fun h => hA q (Nat.le_trans hS.1 h))
  refine va_calli (va_runV (As := [.int 1, .int 1]) (rest := []) ⟨hx, hb, hml, hown, hts⟩ (c_X7_isThrown l D h0 r 0 H.size 1 1 (Or.inr rfl)) (cwV 2 hts gX7_search_X7_isThrown rfl rfl rfl (by decide +kernel) ⟨Nat.le_of_ble_eq_true rfl, Nat.le_of_ble_eq_true rfl⟩) ⟨fun a U g mk q => ⟨q.1, PX7.blind q.2⟩, va_recv hK hP (ci := 13) (q0 := 0) rfl rfl, fun U hU hW => ⟨rfl, PX7.go hP hK hU hW⟩⟩ rfl rfl hl.1 rfl (lv_room (Nat.le_of_ble_eq_true rfl)) dX7_search_7 ⟨Nat.le_of_ble_eq_true rfl, Nat.le_of_ble_eq_true rfl⟩) hS (fun q _ h => hFc q h) hFc (fun r2 u t H1 locs ht hvm hw hB hz1 hk1 hS => ?_)
  rw [ht, if_neg (by decide)] at hB
  have hP := hB
  generalize H1 = H at hP hS ⊢
  have hP : va_P D vwCl [(h0, .inr (13, [.ref (r 0), .ref (r 1), .ref (r 2), .ref (r 3), .ref (r 4), .ref (r 5), .ref (r 6), .ref (r 7), .ref (r 8), .ref (r 9), .ref (r 10), .ref (r 11), .ref (r 12), .ref (r 13), .ref (r 14), .ref (r 15), .int 0, .int 0, .int 1, .int 110, .int 0, .int 0, .int 0, .int 0, .int 0, .int 0, .int 0, .int 0, .int 0, .int 0, .int 1]))] H := hP
  have hD : va_D A [(h0, .inr (13, [.ref (r 0), .ref (r 1), .ref (r 2), .ref (r 3), .ref (r 4), .ref (r 5), .ref (r 6), .ref (r 7), .ref (r 8), .ref (r 9), .ref (r 10), .ref (r 11), .ref (r 12), .ref (r 13), .ref (r 14), .ref (r 15), .int 0, .int 0, .int 1, .int 110, .int 0, .int 0, .int 0, .int 0, .int 0, .int 0, .int 0, .int 0, .int 0, .int 0, .int 1]))] := by rw [← hAe]; exact rg1_D
  obtain rfl : r2 = 1 := hw
  refine lv_if_ne (tgt := 66) hx hb dX7_search_10 (by decide) (fun _ => ?_) (fun c => by first | exact absurd (by decide) c | exact absurd c (by decide))
  refine lv_bipush (v := 32) hx hb dX7_search_66 (by decide) ?_
  have hP9 := hP
  exact W.zret (v := 32) (ty := .char) hx hb hr (by decide) (fun t ht hW => ⟨⟨32, [.ref (r 0), .ref (r 1), .ref (r 2), .ref (r 3), .ref (r 4), .ref (r 5), .ref (r 6), .ref (r 7), .ref (r 8), .ref (r 9), .ref (r 10), .ref (r 11), .ref (r 12), .ref (r 13), .ref (r 14), .ref (r 15), .int 0, .int 0, .int 1, .int 110, .int 0, .int 0, .int 0, .int 0, .int 0, .int 0, .int 0, .int 0, .int 0, .int 0, .int 1], rfl, rfl, by rw [← ht] at hP9; exact hP9⟩, hS.F ht⟩) hS.2.2 dX7_search_68
set_option maxHeartbeats 4000000 in
set_option maxRecDepth 100000 in
theorem c_X7_again (l : Launch) (D : va_G) (h0 : Nat) (r : Nat → Nat) (sz : Nat) (a1 : Int32) : Met l yX7_again wsX7_again ({ frames := 60, cells := 0, slots := 0, locals := 600 }) (va_Pc [.ref h0, .int a1] (PX7 D h0 r 0 sz)) (va_Qi (fun (r9 : Int32) (u : List Value) => u[30]? = some (.int 1)) (fun u t => va_P D vwCl [(h0, .inr (13, u))] t.heap) (rg1 h0 sz)) 0 0 (rg1 h0 sz) := by
  refine Met.ofW (cc := cX7_again) (maxL := 4) (ret := (some .int)) (by decide +kernel) rfl ?_
  intro p e s m args below meth c s₁ B hml hv
  obtain ⟨rfl, hsz, hP, hK⟩ := hv
  have hx := B.exec
  have hb := B.bytes
  have hr := B.returns
  have hts := atoms_spec (ws := wsX7_again) B.pre
  have hown : s.vm.findClass RX7 = some m.cls := findClass_of_methodNamed B.named
  have hlocks := B.notSynchronized
  subst hsz
  have hD : va_D (rg1 h0 s.heap.size) [(h0, .inr (13, [.ref (r 0), .ref (r 1), .ref (r 2), .ref (r 3), .ref (r 4), .ref (r 5), .ref (r 6), .ref (r 7), .ref (r 8), .ref (r 9), .ref (r 10), .ref (r 11), .ref (r 12), .ref (r 13), .ref (r 14), .ref (r 15), .int 0, .int 0, .int 1, .int 110, .int 0, .int 0, .int 0, .int 0, .int 0, .int 0, .int 0, .int 0, .int 0, .int 0, .int 0]))] := rg1_D
  generalize hAe : rg1 h0 s.heap.size = A at hD ⊢
  have hA : ∀ q : Nat, s.heap.size ≤ q → A q := fun q h => by rw [← hAe]; exact Or.inr h
  have hS : va_S A s.heap s.heap [] := va_S.rf
  have hP : va_P D vwCl [(h0, .inr (13, [.ref (r 0), .ref (r 1), .ref (r 2), .ref (r 3), .ref (r 4), .ref (r 5), .ref (r 6), .ref (r 7), .ref (r 8), .ref (r 9), .ref (r 10), .ref (r 11), .ref (r 12), .ref (r 13), .ref (r 14), .ref (r 15), .int 0, .int 0, .int 1, .int 110, .int 0, .int 0, .int 0, .int 0, .int 0, .int 0, .int 0, .int 0, .int 0, .int 0, .int 0]))] s.heap := hP
  have hl := lv_entry ([.ref h0, .int a1]) (n := 4) (Nat.le_of_ble_eq_true rfl)
  rw [lg_entry_eq]
  generalize (lg_sl ([.ref h0, .int a1]) ++ List.replicate (4 - (lg_sl ([.ref h0, .int a1])).length) Slot.unset).toArray = ls at hl ⊢
  have hl : lv_has ls 4 [(0, .ref h0), (1, .int a1)] := hl
  refine lv_aload_n hx hb dX7_again_0 rfl (lv_at hl 0 rfl) ?_
  refine lv_aload_n hx hb dX7_again_1 rfl (lv_at hl 0 rfl) ?_
  refine lv_iload_n hx hb dX7_again_2 rfl (lv_at hl 1 rfl) ?_
  refine va_calli (va_runV (As := [.int a1]) (rest := [.ref h0]) ⟨hx, hb, hml, hown, hts⟩ (c_X7_isNoPlayer l D h0 r 0 s.heap.size a1) (cwV 1 hts gX7_again_X7_isNoPlayer rfl rfl rfl (by decide +kernel) ⟨Nat.le_of_ble_eq_true rfl, Nat.le_of_ble_eq_true rfl⟩) ⟨fun a U g mk q => ⟨q.1, PX7.blind q.2⟩, va_recv hK hP (ci := 13) (q0 := 0) rfl rfl, fun U hU hW => ⟨rfl, PX7.go hP hK hU hW⟩⟩ rfl rfl hl.1 rfl (lv_room (Nat.le_of_ble_eq_true rfl)) dX7_again_3 ⟨Nat.le_of_ble_eq_true rfl, Nat.le_of_ble_eq_true rfl⟩) hS (fun q h1 h2 => absurd h1 (Nat.not_lt.mpr h2)) (fun q h => hA q (Nat.le_trans hS.1 h)) (fun r1 u t H1 locs ht hvm hw hB hz1 hk1 hS => ?_)
  have hP := va_kept0 hP hk1
  generalize H1 = H at hP hS ⊢
  have hP : va_P D vwCl [(h0, .inr (13, [.ref (r 0), .ref (r 1), .ref (r 2), .ref (r 3), .ref (r 4), .ref (r 5), .ref (r 6), .ref (r 7), .ref (r 8), .ref (r 9), .ref (r 10), .ref (r 11), .ref (r 12), .ref (r 13), .ref (r 14), .ref (r 15), .int 0, .int 0, .int 1, .int 110, .int 0, .int 0, .int 0, .int 0, .int 0, .int 0, .int 0, .int 0, .int 0, .int 0, .int 0]))] H := hP
  obtain rfl : r1 = 1 := hw
  refine lv_iconst (v := 1) hx hb dX7_again_6 (by decide) ?_
  have hFc : ∀ q : Nat, rg1 h0 H.size q → A q := fun q h => h.elim (fun e => by rw [e]; exact hD.2 0 _ rfl) (fun h => hA q (Nat.le_trans hS.1 h))
  refine va_calli (va_runV (As := [.int 1, .int 1]) (rest := []) ⟨hx, hb, hml, hown, hts⟩ (c_X7_isThrown l D h0 r 0 H.size 1 1 (Or.inr rfl)) (cwV 2 hts gX7_again_X7_isThrown rfl rfl rfl (by decide +kernel) ⟨Nat.le_of_ble_eq_true rfl, Nat.le_of_ble_eq_true rfl⟩) ⟨fun a U g mk q => ⟨q.1, PX7.blind q.2⟩, va_recv hK hP (ci := 13) (q0 := 0) rfl rfl, fun U hU hW => ⟨rfl, PX7.go hP hK hU hW⟩⟩ rfl rfl hl.1 rfl (lv_room (Nat.le_of_ble_eq_true rfl)) dX7_again_7 ⟨Nat.le_of_ble_eq_true rfl, Nat.le_of_ble_eq_true rfl⟩) hS (fun q _ h => hFc q h) hFc (fun r2 u t H1 locs ht hvm hw hB hz1 hk1 hS => ?_)
  rw [ht, if_neg (by decide)] at hB
  have hP := hB
  generalize H1 = H at hP hS ⊢
  have hP : va_P D vwCl [(h0, .inr (13, [.ref (r 0), .ref (r 1), .ref (r 2), .ref (r 3), .ref (r 4), .ref (r 5), .ref (r 6), .ref (r 7), .ref (r 8), .ref (r 9), .ref (r 10), .ref (r 11), .ref (r 12), .ref (r 13), .ref (r 14), .ref (r 15), .int 0, .int 0, .int 1, .int 110, .int 0, .int 0, .int 0, .int 0, .int 0, .int 0, .int 0, .int 0, .int 0, .int 0, .int 1]))] H := hP
  have hD : va_D A [(h0, .inr (13, [.ref (r 0), .ref (r 1), .ref (r 2), .ref (r 3), .ref (r 4), .ref (r 5), .ref (r 6), .ref (r 7), .ref (r 8), .ref (r 9), .ref (r 10), .ref (r 11), .ref (r 12), .ref (r 13), .ref (r 14), .ref (r 15), .int 0, .int 0, .int 1, .int 110, .int 0, .int 0, .int 0, .int 0, .int 0, .int 0, .int 0, .int 0, .int 0, .int 0, .int 1]))] := by rw [← hAe]; exact rg1_D
  obtain rfl : r2 = 1 := hw
  refine lv_if_ne (tgt := 33) hx hb dX7_again_10 (by decide) (fun _ => ?_) (fun c => by first | exact absurd (by decide) c | exact absurd c (by decide))
  refine lv_iconst (v := 0) hx hb dX7_again_33 (by decide) ?_
  have hP9 := hP
  exact W.iret (v := 0) hx hb hr (fun t ht hW => ⟨⟨0, [.ref (r 0), .ref (r 1), .ref (r 2), .ref (r 3), .ref (r 4), .ref (r 5), .ref (r 6), .ref (r 7), .ref (r 8), .ref (r 9), .ref (r 10), .ref (r 11), .ref (r 12), .ref (r 13), .ref (r 14), .ref (r 15), .int 0, .int 0, .int 1, .int 110, .int 0, .int 0, .int 0, .int 0, .int 0, .int 0, .int 0, .int 0, .int 0, .int 0, .int 1], rfl, rfl, by rw [← ht] at hP9; exact hP9⟩, hS.F ht⟩) hS.2.2 dX7_again_34
set_option maxHeartbeats 4000000 in
set_option maxRecDepth 100000 in
theorem c_X7_line (l : Launch) (D : va_G) (h0 : Nat) (r : Nat → Nat) (sz : Nat) (a1 a2 : Int32) : Met l yX7_line wsX7_line ({ frames := 60, cells := 0, slots := 0, locals := 600 }) (va_Pc [.ref h0, .int a1, .int a2] (PX7 D h0 r 0 sz)) (va_Qi (fun (r9 : Int32) (u : List Value) => u[30]? = some (.int 1)) (fun u t => va_P D vwCl [(h0, .inr (13, u))] t.heap) (rg1 h0 sz)) 0 0 (rg1 h0 sz) := by
  refine Met.ofW (cc := cX7_line) (maxL := 9) (ret := (some .int)) (by decide +kernel) rfl ?_
  intro p e s m args below meth c s₁ B hml hv
  obtain ⟨rfl, hsz, hP, hK⟩ := hv
  have hx := B.exec
  have hb := B.bytes
  have hr := B.returns
  have hts := atoms_spec (ws := wsX7_line) B.pre
  have hown : s.vm.findClass RX7 = some m.cls := findClass_of_methodNamed B.named
  have hlocks := B.notSynchronized
  subst hsz
  have hD : va_D (rg1 h0 s.heap.size) [(h0, .inr (13, [.ref (r 0), .ref (r 1), .ref (r 2), .ref (r 3), .ref (r 4), .ref (r 5), .ref (r 6), .ref (r 7), .ref (r 8), .ref (r 9), .ref (r 10), .ref (r 11), .ref (r 12), .ref (r 13), .ref (r 14), .ref (r 15), .int 0, .int 0, .int 1, .int 110, .int 0, .int 0, .int 0, .int 0, .int 0, .int 0, .int 0, .int 0, .int 0, .int 0, .int 0]))] := rg1_D
  generalize hAe : rg1 h0 s.heap.size = A at hD ⊢
  have hA : ∀ q : Nat, s.heap.size ≤ q → A q := fun q h => by rw [← hAe]; exact Or.inr h
  have hS : va_S A s.heap s.heap [] := va_S.rf
  have hP : va_P D vwCl [(h0, .inr (13, [.ref (r 0), .ref (r 1), .ref (r 2), .ref (r 3), .ref (r 4), .ref (r 5), .ref (r 6), .ref (r 7), .ref (r 8), .ref (r 9), .ref (r 10), .ref (r 11), .ref (r 12), .ref (r 13), .ref (r 14), .ref (r 15), .int 0, .int 0, .int 1, .int 110, .int 0, .int 0, .int 0, .int 0, .int 0, .int 0, .int 0, .int 0, .int 0, .int 0, .int 0]))] s.heap := hP
  have hl := lv_entry ([.ref h0, .int a1, .int a2]) (n := 9) (Nat.le_of_ble_eq_true rfl)
  rw [lg_entry_eq]
  generalize (lg_sl ([.ref h0, .int a1, .int a2]) ++ List.replicate (9 - (lg_sl ([.ref h0, .int a1, .int a2])).length) Slot.unset).toArray = ls at hl ⊢
  have hl : lv_has ls 9 [(0, .ref h0), (1, .int a1), (2, .int a2)] := hl
  refine lv_aload_n hx hb dX7_line_0 rfl (lv_at hl 0 rfl) ?_
  refine lv_aload_n hx hb dX7_line_1 rfl (lv_at hl 0 rfl) ?_
  refine lv_iload_n hx hb dX7_line_2 rfl (lv_at hl 1 rfl) ?_
  refine va_calli (va_runV (As := [.int a1]) (rest := [.ref h0]) ⟨hx, hb, hml, hown, hts⟩ (c_X7_isNoPlayer l D h0 r 0 s.heap.size a1) (cwV 1 hts gX7_line_X7_isNoPlayer rfl rfl rfl (by decide +kernel) ⟨Nat.le_of_ble_eq_true rfl, Nat.le_of_ble_eq_true rfl⟩) ⟨fun a U g mk q => ⟨q.1, PX7.blind q.2⟩, va_recv hK hP (ci := 13) (q0 := 0) rfl rfl, fun U hU hW => ⟨rfl, PX7.go hP hK hU hW⟩⟩ rfl rfl hl.1 rfl (lv_room (Nat.le_of_ble_eq_true rfl)) dX7_line_3 ⟨Nat.le_of_ble_eq_true rfl, Nat.le_of_ble_eq_true rfl⟩) hS (fun q h1 h2 => absurd h1 (Nat.not_lt.mpr h2)) (fun q h => hA q (Nat.le_trans hS.1 h)) (fun r1 u t H1 locs ht hvm hw hB hz1 hk1 hS => ?_)
  have hP := va_kept0 hP hk1
  generalize H1 = H at hP hS ⊢
  have hP : va_P D vwCl [(h0, .inr (13, [.ref (r 0), .ref (r 1), .ref (r 2), .ref (r 3), .ref (r 4), .ref (r 5), .ref (r 6), .ref (r 7), .ref (r 8), .ref (r 9), .ref (r 10), .ref (r 11), .ref (r 12), .ref (r 13), .ref (r 14), .ref (r 15), .int 0, .int 0, .int 1, .int 110, .int 0, .int 0, .int 0, .int 0, .int 0, .int 0, .int 0, .int 0, .int 0, .int 0, .int 0]))] H := hP
  obtain rfl : r1 = 1 := hw
  refine lv_iconst (v := 1) hx hb dX7_line_6 (by decide) ?_
  have hFc : ∀ q : Nat, rg1 h0 H.size q → A q := fun q h => h.elim (fun e => by rw [e]; exact hD.2 0 _ rfl) (fun h => hA q (Nat.le_trans hS.1 h))
  refine va_calli (va_runV (As := [.int 1, .int 1]) (rest := []) ⟨hx, hb, hml, hown, hts⟩ (c_X7_isThrown l D h0 r 0 H.size 1 1 (Or.inr rfl)) (cwV 2 hts gX7_line_X7_isThrown rfl rfl rfl (by decide +kernel) ⟨Nat.le_of_ble_eq_true rfl, Nat.le_of_ble_eq_true rfl⟩) ⟨fun a U g mk q => ⟨q.1, PX7.blind q.2⟩, va_recv hK hP (ci := 13) (q0 := 0) rfl rfl, fun U hU hW => ⟨rfl, PX7.go hP hK hU hW⟩⟩ rfl rfl hl.1 rfl (lv_room (Nat.le_of_ble_eq_true rfl)) dX7_line_7 ⟨Nat.le_of_ble_eq_true rfl, Nat.le_of_ble_eq_true rfl⟩) hS (fun q _ h => hFc q h) hFc (fun r2 u t H1 locs ht hvm hw hB hz1 hk1 hS => ?_)
  rw [ht, if_neg (by decide)] at hB
  have hP := hB
  generalize H1 = H at hP hS ⊢
  have hP : va_P D vwCl [(h0, .inr (13, [.ref (r 0), .ref (r 1), .ref (r 2), .ref (r 3), .ref (r 4), .ref (r 5), .ref (r 6), .ref (r 7), .ref (r 8), .ref (r 9), .ref (r 10), .ref (r 11), .ref (r 12), .ref (r 13), .ref (r 14), .ref (r 15), .int 0, .int 0, .int 1, .int 110, .int 0, .int 0, .int 0, .int 0, .int 0, .int 0, .int 0, .int 0, .int 0, .int 0, .int 1]))] H := hP
  have hD : va_D A [(h0, .inr (13, [.ref (r 0), .ref (r 1), .ref (r 2), .ref (r 3), .ref (r 4), .ref (r 5), .ref (r 6), .ref (r 7), .ref (r 8), .ref (r 9), .ref (r 10), .ref (r 11), .ref (r 12), .ref (r 13), .ref (r 14), .ref (r 15), .int 0, .int 0, .int 1, .int 110, .int 0, .int 0, .int 0, .int 0, .int 0, .int 0, .int 0, .int 0, .int 0, .int 0, .int 1]))] := by rw [← hAe]; exact rg1_D
  obtain rfl : r2 = 1 := hw
  refine lv_if_ne (tgt := 82) hx hb dX7_line_10 (by decide) (fun _ => ?_) (fun c => by first | exact absurd (by decide) c | exact absurd c (by decide))
  refine lv_iconst (v := 0) hx hb dX7_line_82 (by decide) ?_
  have hP9 := hP
  exact W.iret (v := 0) hx hb hr (fun t ht hW => ⟨⟨0, [.ref (r 0), .ref (r 1), .ref (r 2), .ref (r 3), .ref (r 4), .ref (r 5), .ref (r 6), .ref (r 7), .ref (r 8), .ref (r 9), .ref (r 10), .ref (r 11), .ref (r 12), .ref (r 13), .ref (r 14), .ref (r 15), .int 0, .int 0, .int 1, .int 110, .int 0, .int 0, .int 0, .int 0, .int 0, .int 0, .int 0, .int 0, .int 0, .int 0, .int 1], rfl, rfl, by rw [← ht] at hP9; exact hP9⟩, hS.F ht⟩) hS.2.2 dX7_line_83
set_option maxHeartbeats 4000000 in
set_option maxRecDepth 100000 in
theorem c_X7_aside (l : Launch) (D : va_G) (h0 : Nat) (r : Nat → Nat) (sz : Nat) (a1 a2 a3 : Int32) : Met l yX7_aside wsX7_aside ({ frames := 60, cells := 0, slots := 0, locals := 600 }) (va_Pc [.ref h0, .int a1, .int a2, .int a3] (PX7 D h0 r 0 sz)) (va_Qi (fun (r9 : Int32) (u : List Value) => u[30]? = some (.int 1)) (fun u t => va_P D vwCl [(h0, .inr (13, u))] t.heap) (rg1 h0 sz)) 0 0 (rg1 h0 sz) := by
  refine Met.ofW (cc := cX7_aside) (maxL := 6) (ret := (some .int)) (by decide +kernel) rfl ?_
  intro p e s m args below meth c s₁ B hml hv
  obtain ⟨rfl, hsz, hP, hK⟩ := hv
  have hx := B.exec
  have hb := B.bytes
  have hr := B.returns
  have hts := atoms_spec (ws := wsX7_aside) B.pre
  have hown : s.vm.findClass RX7 = some m.cls := findClass_of_methodNamed B.named
  have hlocks := B.notSynchronized
  subst hsz
  have hD : va_D (rg1 h0 s.heap.size) [(h0, .inr (13, [.ref (r 0), .ref (r 1), .ref (r 2), .ref (r 3), .ref (r 4), .ref (r 5), .ref (r 6), .ref (r 7), .ref (r 8), .ref (r 9), .ref (r 10), .ref (r 11), .ref (r 12), .ref (r 13), .ref (r 14), .ref (r 15), .int 0, .int 0, .int 1, .int 110, .int 0, .int 0, .int 0, .int 0, .int 0, .int 0, .int 0, .int 0, .int 0, .int 0, .int 0]))] := rg1_D
  generalize hAe : rg1 h0 s.heap.size = A at hD ⊢
  have hA : ∀ q : Nat, s.heap.size ≤ q → A q := fun q h => by rw [← hAe]; exact Or.inr h
  have hS : va_S A s.heap s.heap [] := va_S.rf
  have hP : va_P D vwCl [(h0, .inr (13, [.ref (r 0), .ref (r 1), .ref (r 2), .ref (r 3), .ref (r 4), .ref (r 5), .ref (r 6), .ref (r 7), .ref (r 8), .ref (r 9), .ref (r 10), .ref (r 11), .ref (r 12), .ref (r 13), .ref (r 14), .ref (r 15), .int 0, .int 0, .int 1, .int 110, .int 0, .int 0, .int 0, .int 0, .int 0, .int 0, .int 0, .int 0, .int 0, .int 0, .int 0]))] s.heap := hP
  have hl := lv_entry ([.ref h0, .int a1, .int a2, .int a3]) (n := 6) (Nat.le_of_ble_eq_true rfl)
  rw [lg_entry_eq]
  generalize (lg_sl ([.ref h0, .int a1, .int a2, .int a3]) ++ List.replicate (6 - (lg_sl ([.ref h0, .int a1, .int a2, .int a3])).length) Slot.unset).toArray = ls at hl ⊢
  have hl : lv_has ls 6 [(0, .ref h0), (1, .int a1), (2, .int a2), (3, .int a3)] := hl
  refine lv_aload_n hx hb dX7_aside_0 rfl (lv_at hl 0 rfl) ?_
  refine lv_aload_n hx hb dX7_aside_1 rfl (lv_at hl 0 rfl) ?_
  refine lv_iload_n hx hb dX7_aside_2 rfl (lv_at hl 1 rfl) ?_
  refine va_calli (va_runV (As := [.int a1]) (rest := [.ref h0]) ⟨hx, hb, hml, hown, hts⟩ (c_X7_isNoPlayer l D h0 r 0 s.heap.size a1) (cwV 1 hts gX7_aside_X7_isNoPlayer rfl rfl rfl (by decide +kernel) ⟨Nat.le_of_ble_eq_true rfl, Nat.le_of_ble_eq_true rfl⟩) ⟨fun a U g mk q => ⟨q.1, PX7.blind q.2⟩, va_recv hK hP (ci := 13) (q0 := 0) rfl rfl, fun U hU hW => ⟨rfl, PX7.go hP hK hU hW⟩⟩ rfl rfl hl.1 rfl (lv_room (Nat.le_of_ble_eq_true rfl)) dX7_aside_3 ⟨Nat.le_of_ble_eq_true rfl, Nat.le_of_ble_eq_true rfl⟩) hS (fun q h1 h2 => absurd h1 (Nat.not_lt.mpr h2)) (fun q h => hA q (Nat.le_trans hS.1 h)) (fun r1 u t H1 locs ht hvm hw hB hz1 hk1 hS => ?_)
  have hP := va_kept0 hP hk1
  generalize H1 = H at hP hS ⊢
  have hP : va_P D vwCl [(h0, .inr (13, [.ref (r 0), .ref (r 1), .ref (r 2), .ref (r 3), .ref (r 4), .ref (r 5), .ref (r 6), .ref (r 7), .ref (r 8), .ref (r 9), .ref (r 10), .ref (r 11), .ref (r 12), .ref (r 13), .ref (r 14), .ref (r 15), .int 0, .int 0, .int 1, .int 110, .int 0, .int 0, .int 0, .int 0, .int 0, .int 0, .int 0, .int 0, .int 0, .int 0, .int 0]))] H := hP
  obtain rfl : r1 = 1 := hw
  refine lv_if_ne (tgt := 17) hx hb dX7_aside_6 (by decide) (fun _ => ?_) (fun c => by first | exact absurd (by decide) c | exact absurd c (by decide))
  refine lv_iconst (v := 1) hx hb dX7_aside_17 (by decide) ?_
  refine lv_goto (tgt := 22) hx hb dX7_aside_18 (by decide) ?_
  refine lv_iconst (v := 1) hx hb dX7_aside_22 (by decide) ?_
  have hFc : ∀ q : Nat, rg1 h0 H.size q → A q := fun q h => h.elim (fun e => by rw [e]; exact hD.2 0 _ rfl) (fun h => hA q (Nat.le_trans hS.1 h))
  refine va_calli (va_runV (As := [.int 1, .int 1]) (rest := []) ⟨hx, hb, hml, hown, hts⟩ (c_X7_isThrown l D h0 r 0 H.size 1 1 (Or.inr rfl)) (cwV 2 hts gX7_aside_X7_isThrown rfl rfl rfl (by decide +kernel) ⟨Nat.le_of_ble_eq_true rfl, Nat.le_of_ble_eq_true rfl⟩) ⟨fun a U g mk q => ⟨q.1, PX7.blind q.2⟩, va_recv hK hP (ci := 13) (q0 := 0) rfl rfl, fun U hU hW => ⟨rfl, PX7.go hP hK hU hW⟩⟩ rfl rfl hl.1 rfl (lv_room (Nat.le_of_ble_eq_true rfl)) dX7_aside_23 ⟨Nat.le_of_ble_eq_true rfl, Nat.le_of_ble_eq_true rfl⟩) hS (fun q _ h => hFc q h) hFc (fun r3 u t H1 locs ht hvm hw hB hz1 hk1 hS => ?_)
  rw [ht, if_neg (by decide)] at hB
  have hP := hB
  generalize H1 = H at hP hS ⊢
  have hP : va_P D vwCl [(h0, .inr (13, [.ref (r 0), .ref (r 1), .ref (r 2), .ref (r 3), .ref (r 4), .ref (r 5), .ref (r 6), .ref (r 7), .ref (r 8), .ref (r 9), .ref (r 10), .ref (r 11), .ref (r 12), .ref (r 13), .ref (r 14), .ref (r 15), .int 0, .int 0, .int 1, .int 110, .int 0, .int 0, .int 0, .int 0, .int 0, .int 0, .int 0, .int 0, .int 0, .int 0, .int 1]))] H := hP
  have hD : va_D A [(h0, .inr (13, [.ref (r 0), .ref (r 1), .ref (r 2), .ref (r 3), .ref (r 4), .ref (r 5), .ref (r 6), .ref (r 7), .ref (r 8), .ref (r 9), .ref (r 10), .ref (r 11), .ref (r 12), .ref (r 13), .ref (r 14), .ref (r 15), .int 0, .int 0, .int 1, .int 110, .int 0, .int 0, .int 0, .int 0, .int 0, .int 0, .int 0, .int 0, .int 0, .int 0, .int 1]))] := by rw [← hAe]; exact rg1_D
  obtain rfl : r3 = 1 := hw
  refine lv_if_ne (tgt := 75) hx hb dX7_aside_26 (by decide) (fun _ => ?_) (fun c => by first | exact absurd (by decide) c | exact absurd c (by decide))
  refine lv_iconst (v := 0) hx hb dX7_aside_75 (by decide) ?_
  have hP9 := hP
  exact W.iret (v := 0) hx hb hr (fun t ht hW => ⟨⟨0, [.ref (r 0), .ref (r 1), .ref (r 2), .ref (r 3), .ref (r 4), .ref (r 5), .ref (r 6), .ref (r 7), .ref (r 8), .ref (r 9), .ref (r 10), .ref (r 11), .ref (r 12), .ref (r 13), .ref (r 14), .ref (r 15), .int 0, .int 0, .int 1, .int 110, .int 0, .int 0, .int 0, .int 0, .int 0, .int 0, .int 0, .int 0, .int 0, .int 0, .int 1], rfl, rfl, by rw [← ht] at hP9; exact hP9⟩, hS.F ht⟩) hS.2.2 dX7_aside_76
set_option maxHeartbeats 4000000 in
set_option maxRecDepth 100000 in
theorem c_X7_point (l : Launch) (D : va_G) (h0 : Nat) (r : Nat → Nat) (sz : Nat) (a1 a2 : Int32) : Met l yX7_point wsX7_point ({ frames := 60, cells := 0, slots := 0, locals := 600 }) (va_Pc [.ref h0, .int a1, .int a2] (PX7 D h0 r 0 sz)) (va_Qi (fun (r9 : Int32) (u : List Value) => u[30]? = some (.int 1)) (fun u t => va_P D vwCl [(h0, .inr (13, u))] t.heap) (rg1 h0 sz)) 0 0 (rg1 h0 sz) := by
  refine Met.ofW (cc := cX7_point) (maxL := 4) (ret := (some .int)) (by decide +kernel) rfl ?_
  intro p e s m args below meth c s₁ B hml hv
  obtain ⟨rfl, hsz, hP, hK⟩ := hv
  have hx := B.exec
  have hb := B.bytes
  have hr := B.returns
  have hts := atoms_spec (ws := wsX7_point) B.pre
  have hown : s.vm.findClass RX7 = some m.cls := findClass_of_methodNamed B.named
  have hlocks := B.notSynchronized
  subst hsz
  have hD : va_D (rg1 h0 s.heap.size) [(h0, .inr (13, [.ref (r 0), .ref (r 1), .ref (r 2), .ref (r 3), .ref (r 4), .ref (r 5), .ref (r 6), .ref (r 7), .ref (r 8), .ref (r 9), .ref (r 10), .ref (r 11), .ref (r 12), .ref (r 13), .ref (r 14), .ref (r 15), .int 0, .int 0, .int 1, .int 110, .int 0, .int 0, .int 0, .int 0, .int 0, .int 0, .int 0, .int 0, .int 0, .int 0, .int 0]))] := rg1_D
  generalize hAe : rg1 h0 s.heap.size = A at hD ⊢
  have hA : ∀ q : Nat, s.heap.size ≤ q → A q := fun q h => by rw [← hAe]; exact Or.inr h
  have hS : va_S A s.heap s.heap [] := va_S.rf
  have hP : va_P D vwCl [(h0, .inr (13, [.ref (r 0), .ref (r 1), .ref (r 2), .ref (r 3), .ref (r 4), .ref (r 5), .ref (r 6), .ref (r 7), .ref (r 8), .ref (r 9), .ref (r 10), .ref (r 11), .ref (r 12), .ref (r 13), .ref (r 14), .ref (r 15), .int 0, .int 0, .int 1, .int 110, .int 0, .int 0, .int 0, .int 0, .int 0, .int 0, .int 0, .int 0, .int 0, .int 0, .int 0]))] s.heap := hP
  have hl := lv_entry ([.ref h0, .int a1, .int a2]) (n := 4) (Nat.le_of_ble_eq_true rfl)
  rw [lg_entry_eq]
  generalize (lg_sl ([.ref h0, .int a1, .int a2]) ++ List.replicate (4 - (lg_sl ([.ref h0, .int a1, .int a2])).length) Slot.unset).toArray = ls at hl ⊢
  have hl : lv_has ls 4 [(0, .ref h0), (1, .int a1), (2, .int a2)] := hl
  refine lv_aload_n hx hb dX7_point_0 rfl (lv_at hl 0 rfl) ?_
  refine lv_aload_n hx hb dX7_point_1 rfl (lv_at hl 0 rfl) ?_
  refine lv_iload_n hx hb dX7_point_2 rfl (lv_at hl 1 rfl) ?_
  refine va_calli (va_runV (As := [.int a1]) (rest := [.ref h0]) ⟨hx, hb, hml, hown, hts⟩ (c_X7_isNoPlayer l D h0 r 0 s.heap.size a1) (cwV 1 hts gX7_point_X7_isNoPlayer rfl rfl rfl (by decide +kernel) ⟨Nat.le_of_ble_eq_true rfl, Nat.le_of_ble_eq_true rfl⟩) ⟨fun a U g mk q => ⟨q.1, PX7.blind q.2⟩, va_recv hK hP (ci := 13) (q0 := 0) rfl rfl, fun U hU hW => ⟨rfl, PX7.go hP hK hU hW⟩⟩ rfl rfl hl.1 rfl (lv_room (Nat.le_of_ble_eq_true rfl)) dX7_point_3 ⟨Nat.le_of_ble_eq_true rfl, Nat.le_of_ble_eq_true rfl⟩) hS (fun q h1 h2 => absurd h1 (Nat.not_lt.mpr h2)) (fun q h => hA q (Nat.le_trans hS.1 h)) (fun r1 u t H1 locs ht hvm hw hB hz1 hk1 hS => ?_)
  have hP := va_kept0 hP hk1
  generalize H1 = H at hP hS ⊢
  have hP : va_P D vwCl [(h0, .inr (13, [.ref (r 0), .ref (r 1), .ref (r 2), .ref (r 3), .ref (r 4), .ref (r 5), .ref (r 6), .ref (r 7), .ref (r 8), .ref (r 9), .ref (r 10), .ref (r 11), .ref (r 12), .ref (r 13), .ref (r 14), .ref (r 15), .int 0, .int 0, .int 1, .int 110, .int 0, .int 0, .int 0, .int 0, .int 0, .int 0, .int 0, .int 0, .int 0, .int 0, .int 0]))] H := hP
  obtain rfl : r1 = 1 := hw
  refine lv_iconst (v := 1) hx hb dX7_point_6 (by decide) ?_
  have hFc : ∀ q : Nat, rg1 h0 H.size q → A q := fun q h => h.elim (fun e => by rw [e]; exact hD.2 0 _ rfl) (fun h => hA q (Nat.le_trans hS.1 h))
  refine va_calli (va_runV (As := [.int 1, .int 1]) (rest := []) ⟨hx, hb, hml, hown, hts⟩ (c_X7_isThrown l D h0 r 0 H.size 1 1 (Or.inr rfl)) (cwV 2 hts gX7_point_X7_isThrown rfl rfl rfl (by decide +kernel) ⟨Nat.le_of_ble_eq_true rfl, Nat.le_of_ble_eq_true rfl⟩) ⟨fun a U g mk q => ⟨q.1, PX7.blind q.2⟩, va_recv hK hP (ci := 13) (q0 := 0) rfl rfl, fun U hU hW => ⟨rfl, PX7.go hP hK hU hW⟩⟩ rfl rfl hl.1 rfl (lv_room (Nat.le_of_ble_eq_true rfl)) dX7_point_7 ⟨Nat.le_of_ble_eq_true rfl, Nat.le_of_ble_eq_true rfl⟩) hS (fun q _ h => hFc q h) hFc (fun r2 u t H1 locs ht hvm hw hB hz1 hk1 hS => ?_)
  rw [ht, if_neg (by decide)] at hB
  have hP := hB
  generalize H1 = H at hP hS ⊢
  have hP : va_P D vwCl [(h0, .inr (13, [.ref (r 0), .ref (r 1), .ref (r 2), .ref (r 3), .ref (r 4), .ref (r 5), .ref (r 6), .ref (r 7), .ref (r 8), .ref (r 9), .ref (r 10), .ref (r 11), .ref (r 12), .ref (r 13), .ref (r 14), .ref (r 15), .int 0, .int 0, .int 1, .int 110, .int 0, .int 0, .int 0, .int 0, .int 0, .int 0, .int 0, .int 0, .int 0, .int 0, .int 1]))] H := hP
  have hD : va_D A [(h0, .inr (13, [.ref (r 0), .ref (r 1), .ref (r 2), .ref (r 3), .ref (r 4), .ref (r 5), .ref (r 6), .ref (r 7), .ref (r 8), .ref (r 9), .ref (r 10), .ref (r 11), .ref (r 12), .ref (r 13), .ref (r 14), .ref (r 15), .int 0, .int 0, .int 1, .int 110, .int 0, .int 0, .int 0, .int 0, .int 0, .int 0, .int 0, .int 0, .int 0, .int 0, .int 1]))] := by rw [← hAe]; exact rg1_D
  obtain rfl : r2 = 1 := hw
  refine lv_if_ne (tgt := 59) hx hb dX7_point_10 (by decide) (fun _ => ?_) (fun c => by first | exact absurd (by decide) c | exact absurd c (by decide))
  refine lv_iconst (v := 0) hx hb dX7_point_59 (by decide) ?_
  have hP9 := hP
  exact W.iret (v := 0) hx hb hr (fun t ht hW => ⟨⟨0, [.ref (r 0), .ref (r 1), .ref (r 2), .ref (r 3), .ref (r 4), .ref (r 5), .ref (r 6), .ref (r 7), .ref (r 8), .ref (r 9), .ref (r 10), .ref (r 11), .ref (r 12), .ref (r 13), .ref (r 14), .ref (r 15), .int 0, .int 0, .int 1, .int 110, .int 0, .int 0, .int 0, .int 0, .int 0, .int 0, .int 0, .int 0, .int 0, .int 0, .int 1], rfl, rfl, by rw [← ht] at hP9; exact hP9⟩, hS.F ht⟩) hS.2.2 dX7_point_60
set_option maxHeartbeats 4000000 in
set_option maxRecDepth 100000 in
theorem c_X7_free (l : Launch) (D : va_G) (h0 : Nat) (r : Nat → Nat) (sz : Nat) (a1 a2 a3 : Int32) : Met l yX7_free wsX7_free ({ frames := 60, cells := 0, slots := 0, locals := 600 }) (va_Pc [.ref h0, .int a1, .int a2, .int a3] (PX7 D h0 r 0 sz)) (va_Qi (fun (r9 : Int32) (u : List Value) => u[30]? = some (.int 1)) (fun u t => va_P D vwCl [(h0, .inr (13, u))] t.heap) (rg1 h0 sz)) 0 0 (rg1 h0 sz) := by
  refine Met.ofW (cc := cX7_free) (maxL := 10) (ret := (some .char)) (by decide +kernel) rfl ?_
  intro p e s m args below meth c s₁ B hml hv
  obtain ⟨rfl, hsz, hP, hK⟩ := hv
  have hx := B.exec
  have hb := B.bytes
  have hr := B.returns
  have hts := atoms_spec (ws := wsX7_free) B.pre
  have hown : s.vm.findClass RX7 = some m.cls := findClass_of_methodNamed B.named
  have hlocks := B.notSynchronized
  subst hsz
  have hD : va_D (rg1 h0 s.heap.size) [(h0, .inr (13, [.ref (r 0), .ref (r 1), .ref (r 2), .ref (r 3), .ref (r 4), .ref (r 5), .ref (r 6), .ref (r 7), .ref (r 8), .ref (r 9), .ref (r 10), .ref (r 11), .ref (r 12), .ref (r 13), .ref (r 14), .ref (r 15), .int 0, .int 0, .int 1, .int 110, .int 0, .int 0, .int 0, .int 0, .int 0, .int 0, .int 0, .int 0, .int 0, .int 0, .int 0]))] := rg1_D
  generalize hAe : rg1 h0 s.heap.size = A at hD ⊢
  have hA : ∀ q : Nat, s.heap.size ≤ q → A q := fun q h => by rw [← hAe]; exact Or.inr h
  have hS : va_S A s.heap s.heap [] := va_S.rf
  have hP : va_P D vwCl [(h0, .inr (13, [.ref (r 0), .ref (r 1), .ref (r 2), .ref (r 3), .ref (r 4), .ref (r 5), .ref (r 6), .ref (r 7), .ref (r 8), .ref (r 9), .ref (r 10), .ref (r 11), .ref (r 12), .ref (r 13), .ref (r 14), .ref (r 15), .int 0, .int 0, .int 1, .int 110, .int 0, .int 0, .int 0, .int 0, .int 0, .int 0, .int 0, .int 0, .int 0, .int 0, .int 0]))] s.heap := hP
  have hl := lv_entry ([.ref h0, .int a1, .int a2, .int a3]) (n := 10) (Nat.le_of_ble_eq_true rfl)
  rw [lg_entry_eq]
  generalize (lg_sl ([.ref h0, .int a1, .int a2, .int a3]) ++ List.replicate (10 - (lg_sl ([.ref h0, .int a1, .int a2, .int a3])).length) Slot.unset).toArray = ls at hl ⊢
  have hl : lv_has ls 10 [(0, .ref h0), (1, .int a1), (2, .int a2), (3, .int a3)] := hl
  refine lv_aload_n hx hb dX7_free_0 rfl (lv_at hl 0 rfl) ?_
  refine lv_aload_n hx hb dX7_free_1 rfl (lv_at hl 0 rfl) ?_
  refine lv_iload_n hx hb dX7_free_2 rfl (lv_at hl 1 rfl) ?_
  refine va_calli (va_runV (As := [.int a1]) (rest := [.ref h0]) ⟨hx, hb, hml, hown, hts⟩ (c_X7_isNoPlayer l D h0 r 0 s.heap.size a1) (cwV 1 hts gX7_free_X7_isNoPlayer rfl rfl rfl (by decide +kernel) ⟨Nat.le_of_ble_eq_true rfl, Nat.le_of_ble_eq_true rfl⟩) ⟨fun a U g mk q => ⟨q.1, PX7.blind q.2⟩, va_recv hK hP (ci := 13) (q0 := 0) rfl rfl, fun U hU hW => ⟨rfl, PX7.go hP hK hU hW⟩⟩ rfl rfl hl.1 rfl (lv_room (Nat.le_of_ble_eq_true rfl)) dX7_free_3 ⟨Nat.le_of_ble_eq_true rfl, Nat.le_of_ble_eq_true rfl⟩) hS (fun q h1 h2 => absurd h1 (Nat.not_lt.mpr h2)) (fun q h => hA q (Nat.le_trans hS.1 h)) (fun r1 u t H1 locs ht hvm hw hB hz1 hk1 hS => ?_)
  have hP := va_kept0 hP hk1
  generalize H1 = H at hP hS ⊢
  have hP : va_P D vwCl [(h0, .inr (13, [.ref (r 0), .ref (r 1), .ref (r 2), .ref (r 3), .ref (r 4), .ref (r 5), .ref (r 6), .ref (r 7), .ref (r 8), .ref (r 9), .ref (r 10), .ref (r 11), .ref (r 12), .ref (r 13), .ref (r 14), .ref (r 15), .int 0, .int 0, .int 1, .int 110, .int 0, .int 0, .int 0, .int 0, .int 0, .int 0, .int 0, .int 0, .int 0, .int 0, .int 0]))] H := hP
  obtain rfl : r1 = 1 := hw
  refine lv_if_ne (tgt := 17) hx hb dX7_free_6 (by decide) (fun _ => ?_) (fun c => by first | exact absurd (by decide) c | exact absurd c (by decide))
  refine lv_iconst (v := 1) hx hb dX7_free_17 (by decide) ?_
  refine lv_goto (tgt := 22) hx hb dX7_free_18 (by decide) ?_
  refine lv_iconst (v := 1) hx hb dX7_free_22 (by decide) ?_
  have hFc : ∀ q : Nat, rg1 h0 H.size q → A q := fun q h => h.elim (fun e => by rw [e]; exact hD.2 0 _ rfl) (fun h => hA q (Nat.le_trans hS.1 h))
  refine va_calli (va_runV (As := [.int 1, .int 1]) (rest := []) ⟨hx, hb, hml, hown, hts⟩ (c_X7_isThrown l D h0 r 0 H.size 1 1 (Or.inr rfl)) (cwV 2 hts gX7_free_X7_isThrown rfl rfl rfl (by decide +kernel) ⟨Nat.le_of_ble_eq_true rfl, Nat.le_of_ble_eq_true rfl⟩) ⟨fun a U g mk q => ⟨q.1, PX7.blind q.2⟩, va_recv hK hP (ci := 13) (q0 := 0) rfl rfl, fun U hU hW => ⟨rfl, PX7.go hP hK hU hW⟩⟩ rfl rfl hl.1 rfl (lv_room (Nat.le_of_ble_eq_true rfl)) dX7_free_23 ⟨Nat.le_of_ble_eq_true rfl, Nat.le_of_ble_eq_true rfl⟩) hS (fun q _ h => hFc q h) hFc (fun r3 u t H1 locs ht hvm hw hB hz1 hk1 hS => ?_)
  rw [ht, if_neg (by decide)] at hB
  have hP := hB
  generalize H1 = H at hP hS ⊢
  have hP : va_P D vwCl [(h0, .inr (13, [.ref (r 0), .ref (r 1), .ref (r 2), .ref (r 3), .ref (r 4), .ref (r 5), .ref (r 6), .ref (r 7), .ref (r 8), .ref (r 9), .ref (r 10), .ref (r 11), .ref (r 12), .ref (r 13), .ref (r 14), .ref (r 15), .int 0, .int 0, .int 1, .int 110, .int 0, .int 0, .int 0, .int 0, .int 0, .int 0, .int 0, .int 0, .int 0, .int 0, .int 1]))] H := hP
  have hD : va_D A [(h0, .inr (13, [.ref (r 0), .ref (r 1), .ref (r 2), .ref (r 3), .ref (r 4), .ref (r 5), .ref (r 6), .ref (r 7), .ref (r 8), .ref (r 9), .ref (r 10), .ref (r 11), .ref (r 12), .ref (r 13), .ref (r 14), .ref (r 15), .int 0, .int 0, .int 1, .int 110, .int 0, .int 0, .int 0, .int 0, .int 0, .int 0, .int 0, .int 0, .int 0, .int 0, .int 1]))] := by rw [← hAe]; exact rg1_D
  obtain rfl : r3 = 1 := hw
  refine lv_if_ne (tgt := 75) hx hb dX7_free_26 (by decide) (fun _ => ?_) (fun c => by first | exact absurd (by decide) c | exact absurd c (by decide))
  refine lv_bipush (v := 32) hx hb dX7_free_75 (by decide) ?_
  have hP9 := hP
  exact W.zret (v := 32) (ty := .char) hx hb hr (by decide) (fun t ht hW => ⟨⟨32, [.ref (r 0), .ref (r 1), .ref (r 2), .ref (r 3), .ref (r 4), .ref (r 5), .ref (r 6), .ref (r 7), .ref (r 8), .ref (r 9), .ref (r 10), .ref (r 11), .ref (r 12), .ref (r 13), .ref (r 14), .ref (r 15), .int 0, .int 0, .int 1, .int 110, .int 0, .int 0, .int 0, .int 0, .int 0, .int 0, .int 0, .int 0, .int 0, .int 0, .int 1], rfl, rfl, by rw [← ht] at hP9; exact hP9⟩, hS.F ht⟩) hS.2.2 dX7_free_77
set_option maxHeartbeats 4000000 in
set_option maxRecDepth 100000 in
theorem c_X7_wrongPlace (l : Launch) (D : va_G) (h0 : Nat) (r : Nat → Nat) (sz : Nat) (a1 a2 a3 : Int32) : Met l yX7_wrongPlace wsX7_wrongPlace ({ frames := 60, cells := 0, slots := 0, locals := 600 }) (va_Pc [.ref h0, .int a1, .int a2, .int a3] (PX7 D h0 r 0 sz)) (va_Qi (fun (r9 : Int32) (u : List Value) => u[30]? = some (.int 1)) (fun u t => va_P D vwCl [(h0, .inr (13, u))] t.heap) (rg1 h0 sz)) 0 0 (rg1 h0 sz) := by
  refine Met.ofW (cc := cX7_wrongPlace) (maxL := 6) (ret := (some .boolean)) (by decide +kernel) rfl ?_
  intro p e s m args below meth c s₁ B hml hv
  obtain ⟨rfl, hsz, hP, hK⟩ := hv
  have hx := B.exec
  have hb := B.bytes
  have hr := B.returns
  have hts := atoms_spec (ws := wsX7_wrongPlace) B.pre
  have hown : s.vm.findClass RX7 = some m.cls := findClass_of_methodNamed B.named
  have hlocks := B.notSynchronized
  subst hsz
  have hD : va_D (rg1 h0 s.heap.size) [(h0, .inr (13, [.ref (r 0), .ref (r 1), .ref (r 2), .ref (r 3), .ref (r 4), .ref (r 5), .ref (r 6), .ref (r 7), .ref (r 8), .ref (r 9), .ref (r 10), .ref (r 11), .ref (r 12), .ref (r 13), .ref (r 14), .ref (r 15), .int 0, .int 0, .int 1, .int 110, .int 0, .int 0, .int 0, .int 0, .int 0, .int 0, .int 0, .int 0, .int 0, .int 0, .int 0]))] := rg1_D
  generalize hAe : rg1 h0 s.heap.size = A at hD ⊢
  have hA : ∀ q : Nat, s.heap.size ≤ q → A q := fun q h => by rw [← hAe]; exact Or.inr h
  have hS : va_S A s.heap s.heap [] := va_S.rf
  have hP : va_P D vwCl [(h0, .inr (13, [.ref (r 0), .ref (r 1), .ref (r 2), .ref (r 3), .ref (r 4), .ref (r 5), .ref (r 6), .ref (r 7), .ref (r 8), .ref (r 9), .ref (r 10), .ref (r 11), .ref (r 12), .ref (r 13), .ref (r 14), .ref (r 15), .int 0, .int 0, .int 1, .int 110, .int 0, .int 0, .int 0, .int 0, .int 0, .int 0, .int 0, .int 0, .int 0, .int 0, .int 0]))] s.heap := hP
  have hl := lv_entry ([.ref h0, .int a1, .int a2, .int a3]) (n := 6) (Nat.le_of_ble_eq_true rfl)
  rw [lg_entry_eq]
  generalize (lg_sl ([.ref h0, .int a1, .int a2, .int a3]) ++ List.replicate (6 - (lg_sl ([.ref h0, .int a1, .int a2, .int a3])).length) Slot.unset).toArray = ls at hl ⊢
  have hl : lv_has ls 6 [(0, .ref h0), (1, .int a1), (2, .int a2), (3, .int a3)] := hl
  refine lv_aload_n hx hb dX7_wrongPlace_0 rfl (lv_at hl 0 rfl) ?_
  refine lv_aload_n hx hb dX7_wrongPlace_1 rfl (lv_at hl 0 rfl) ?_
  refine lv_iload_n hx hb dX7_wrongPlace_2 rfl (lv_at hl 1 rfl) ?_
  refine va_calli (va_runV (As := [.int a1]) (rest := [.ref h0]) ⟨hx, hb, hml, hown, hts⟩ (c_X7_isNoPlayer l D h0 r 0 s.heap.size a1) (cwV 1 hts gX7_wrongPlace_X7_isNoPlayer rfl rfl rfl (by decide +kernel) ⟨Nat.le_of_ble_eq_true rfl, Nat.le_of_ble_eq_true rfl⟩) ⟨fun a U g mk q => ⟨q.1, PX7.blind q.2⟩, va_recv hK hP (ci := 13) (q0 := 0) rfl rfl, fun U hU hW => ⟨rfl, PX7.go hP hK hU hW⟩⟩ rfl rfl hl.1 rfl (lv_room (Nat.le_of_ble_eq_true rfl)) dX7_wrongPlace_3 ⟨Nat.le_of_ble_eq_true rfl, Nat.le_of_ble_eq_true rfl⟩) hS (fun q h1 h2 => absurd h1 (Nat.not_lt.mpr h2)) (fun q h => hA q (Nat.le_trans hS.1 h)) (fun r1 u t H1 locs ht hvm hw hB hz1 hk1 hS => ?_)
  have hP := va_kept0 hP hk1
  generalize H1 = H at hP hS ⊢
  have hP : va_P D vwCl [(h0, .inr (13, [.ref (r 0), .ref (r 1), .ref (r 2), .ref (r 3), .ref (r 4), .ref (r 5), .ref (r 6), .ref (r 7), .ref (r 8), .ref (r 9), .ref (r 10), .ref (r 11), .ref (r 12), .ref (r 13), .ref (r 14), .ref (r 15), .int 0, .int 0, .int 1, .int 110, .int 0, .int 0, .int 0, .int 0, .int 0, .int 0, .int 0, .int 0, .int 0, .int 0, .int 0]))] H := hP
  obtain rfl : r1 = 1 := hw
  refine lv_if_ne (tgt := 17) hx hb dX7_wrongPlace_6 (by decide) (fun _ => ?_) (fun c => by first | exact absurd (by decide) c | exact absurd c (by decide))
  refine lv_iconst (v := 1) hx hb dX7_wrongPlace_17 (by decide) ?_
  refine lv_goto (tgt := 22) hx hb dX7_wrongPlace_18 (by decide) ?_
  refine lv_iconst (v := 1) hx hb dX7_wrongPlace_22 (by decide) ?_
  have hFc : ∀ q : Nat, rg1 h0 H.size q → A q := fun q h => h.elim (fun e => by rw [e]; exact hD.2 0 _ rfl) (fun h => hA q (Nat.le_trans hS.1 h))
  refine va_calli (va_runV (As := [.int 1, .int 1]) (rest := []) ⟨hx, hb, hml, hown, hts⟩ (c_X7_isThrown l D h0 r 0 H.size 1 1 (Or.inr rfl)) (cwV 2 hts gX7_wrongPlace_X7_isThrown rfl rfl rfl (by decide +kernel) ⟨Nat.le_of_ble_eq_true rfl, Nat.le_of_ble_eq_true rfl⟩) ⟨fun a U g mk q => ⟨q.1, PX7.blind q.2⟩, va_recv hK hP (ci := 13) (q0 := 0) rfl rfl, fun U hU hW => ⟨rfl, PX7.go hP hK hU hW⟩⟩ rfl rfl hl.1 rfl (lv_room (Nat.le_of_ble_eq_true rfl)) dX7_wrongPlace_23 ⟨Nat.le_of_ble_eq_true rfl, Nat.le_of_ble_eq_true rfl⟩) hS (fun q _ h => hFc q h) hFc (fun r3 u t H1 locs ht hvm hw hB hz1 hk1 hS => ?_)
  rw [ht, if_neg (by decide)] at hB
  have hP := hB
  generalize H1 = H at hP hS ⊢
  have hP : va_P D vwCl [(h0, .inr (13, [.ref (r 0), .ref (r 1), .ref (r 2), .ref (r 3), .ref (r 4), .ref (r 5), .ref (r 6), .ref (r 7), .ref (r 8), .ref (r 9), .ref (r 10), .ref (r 11), .ref (r 12), .ref (r 13), .ref (r 14), .ref (r 15), .int 0, .int 0, .int 1, .int 110, .int 0, .int 0, .int 0, .int 0, .int 0, .int 0, .int 0, .int 0, .int 0, .int 0, .int 1]))] H := hP
  have hD : va_D A [(h0, .inr (13, [.ref (r 0), .ref (r 1), .ref (r 2), .ref (r 3), .ref (r 4), .ref (r 5), .ref (r 6), .ref (r 7), .ref (r 8), .ref (r 9), .ref (r 10), .ref (r 11), .ref (r 12), .ref (r 13), .ref (r 14), .ref (r 15), .int 0, .int 0, .int 1, .int 110, .int 0, .int 0, .int 0, .int 0, .int 0, .int 0, .int 0, .int 0, .int 0, .int 0, .int 1]))] := by rw [← hAe]; exact rg1_D
  obtain rfl : r3 = 1 := hw
  refine lv_if_ne (tgt := 49) hx hb dX7_wrongPlace_26 (by decide) (fun _ => ?_) (fun c => by first | exact absurd (by decide) c | exact absurd c (by decide))
  refine lv_iconst (v := 0) hx hb dX7_wrongPlace_49 (by decide) ?_
  have hP9 := hP
  exact W.zret (v := 0) (ty := .boolean) hx hb hr (by decide) (fun t ht hW => ⟨⟨0, [.ref (r 0), .ref (r 1), .ref (r 2), .ref (r 3), .ref (r 4), .ref (r 5), .ref (r 6), .ref (r 7), .ref (r 8), .ref (r 9), .ref (r 10), .ref (r 11), .ref (r 12), .ref (r 13), .ref (r 14), .ref (r 15), .int 0, .int 0, .int 1, .int 110, .int 0, .int 0, .int 0, .int 0, .int 0, .int 0, .int 0, .int 0, .int 0, .int 0, .int 1], rfl, rfl, by rw [← ht] at hP9; exact hP9⟩, hS.F ht⟩) hS.2.2 dX7_wrongPlace_50
set_option maxHeartbeats 4000000 in
set_option maxRecDepth 100000 in
theorem c_X7_correct (l : Launch) (D : va_G) (h0 : Nat) (r : Nat → Nat) (sz : Nat) (a1 : Int32) : Met l yX7_correct wsX7_correct ({ frames := 60, cells := 0, slots := 0, locals := 600 }) (va_Pc [.ref h0, .int a1] (PX7 D h0 r 0 sz)) (va_Qi (fun (r9 : Int32) (u : List Value) => u[30]? = some (.int 1)) (fun u t => va_P D vwCl [(h0, .inr (13, u))] t.heap) (rg1 h0 sz)) 0 0 (rg1 h0 sz) := by
  refine Met.ofW (cc := cX7_correct) (maxL := 3) (ret := (some .int)) (by decide +kernel) rfl ?_
  intro p e s m args below meth c s₁ B hml hv
  obtain ⟨rfl, hsz, hP, hK⟩ := hv
  have hx := B.exec
  have hb := B.bytes
  have hr := B.returns
  have hts := atoms_spec (ws := wsX7_correct) B.pre
  have hown : s.vm.findClass RX7 = some m.cls := findClass_of_methodNamed B.named
  have hlocks := B.notSynchronized
  subst hsz
  have hD : va_D (rg1 h0 s.heap.size) [(h0, .inr (13, [.ref (r 0), .ref (r 1), .ref (r 2), .ref (r 3), .ref (r 4), .ref (r 5), .ref (r 6), .ref (r 7), .ref (r 8), .ref (r 9), .ref (r 10), .ref (r 11), .ref (r 12), .ref (r 13), .ref (r 14), .ref (r 15), .int 0, .int 0, .int 1, .int 110, .int 0, .int 0, .int 0, .int 0, .int 0, .int 0, .int 0, .int 0, .int 0, .int 0, .int 0]))] := rg1_D
  generalize hAe : rg1 h0 s.heap.size = A at hD ⊢
  have hA : ∀ q : Nat, s.heap.size ≤ q → A q := fun q h => by rw [← hAe]; exact Or.inr h
  have hS : va_S A s.heap s.heap [] := va_S.rf
  have hP : va_P D vwCl [(h0, .inr (13, [.ref (r 0), .ref (r 1), .ref (r 2), .ref (r 3), .ref (r 4), .ref (r 5), .ref (r 6), .ref (r 7), .ref (r 8), .ref (r 9), .ref (r 10), .ref (r 11), .ref (r 12), .ref (r 13), .ref (r 14), .ref (r 15), .int 0, .int 0, .int 1, .int 110, .int 0, .int 0, .int 0, .int 0, .int 0, .int 0, .int 0, .int 0, .int 0, .int 0, .int 0]))] s.heap := hP
  have hl := lv_entry ([.ref h0, .int a1]) (n := 3) (Nat.le_of_ble_eq_true rfl)
  rw [lg_entry_eq]
  generalize (lg_sl ([.ref h0, .int a1]) ++ List.replicate (3 - (lg_sl ([.ref h0, .int a1])).length) Slot.unset).toArray = ls at hl ⊢
  have hl : lv_has ls 3 [(0, .ref h0), (1, .int a1)] := hl
  refine lv_aload_n hx hb dX7_correct_0 rfl (lv_at hl 0 rfl) ?_
  refine lv_aload_n hx hb dX7_correct_1 rfl (lv_at hl 0 rfl) ?_
  refine lv_iload_n hx hb dX7_correct_2 rfl (lv_at hl 1 rfl) ?_
  refine va_calli (va_runV (As := [.int a1]) (rest := [.ref h0]) ⟨hx, hb, hml, hown, hts⟩ (c_X7_isNoPlayer l D h0 r 0 s.heap.size a1) (cwV 1 hts gX7_correct_X7_isNoPlayer rfl rfl rfl (by decide +kernel) ⟨Nat.le_of_ble_eq_true rfl, Nat.le_of_ble_eq_true rfl⟩) ⟨fun a U g mk q => ⟨q.1, PX7.blind q.2⟩, va_recv hK hP (ci := 13) (q0 := 0) rfl rfl, fun U hU hW => ⟨rfl, PX7.go hP hK hU hW⟩⟩ rfl rfl hl.1 rfl (lv_room (Nat.le_of_ble_eq_true rfl)) dX7_correct_3 ⟨Nat.le_of_ble_eq_true rfl, Nat.le_of_ble_eq_true rfl⟩) hS (fun q h1 h2 => absurd h1 (Nat.not_lt.mpr h2)) (fun q h => hA q (Nat.le_trans hS.1 h)) (fun r1 u t H1 locs ht hvm hw hB hz1 hk1 hS => ?_)
  have hP := va_kept0 hP hk1
  generalize H1 = H at hP hS ⊢
  have hP : va_P D vwCl [(h0, .inr (13, [.ref (r 0), .ref (r 1), .ref (r 2), .ref (r 3), .ref (r 4), .ref (r 5), .ref (r 6), .ref (r 7), .ref (r 8), .ref (r 9), .ref (r 10), .ref (r 11), .ref (r 12), .ref (r 13), .ref (r 14), .ref (r 15), .int 0, .int 0, .int 1, .int 110, .int 0, .int 0, .int 0, .int 0, .int 0, .int 0, .int 0, .int 0, .int 0, .int 0, .int 0]))] H := hP
  obtain rfl : r1 = 1 := hw
  refine lv_iconst (v := 1) hx hb dX7_correct_6 (by decide) ?_
  have hFc : ∀ q : Nat, rg1 h0 H.size q → A q := fun q h => h.elim (fun e => by rw [e]; exact hD.2 0 _ rfl) (fun h => hA q (Nat.le_trans hS.1 h))
  refine va_calli (va_runV (As := [.int 1, .int 1]) (rest := []) ⟨hx, hb, hml, hown, hts⟩ (c_X7_isThrown l D h0 r 0 H.size 1 1 (Or.inr rfl)) (cwV 2 hts gX7_correct_X7_isThrown rfl rfl rfl (by decide +kernel) ⟨Nat.le_of_ble_eq_true rfl, Nat.le_of_ble_eq_true rfl⟩) ⟨fun a U g mk q => ⟨q.1, PX7.blind q.2⟩, va_recv hK hP (ci := 13) (q0 := 0) rfl rfl, fun U hU hW => ⟨rfl, PX7.go hP hK hU hW⟩⟩ rfl rfl hl.1 rfl (lv_room (Nat.le_of_ble_eq_true rfl)) dX7_correct_7 ⟨Nat.le_of_ble_eq_true rfl, Nat.le_of_ble_eq_true rfl⟩) hS (fun q _ h => hFc q h) hFc (fun r2 u t H1 locs ht hvm hw hB hz1 hk1 hS => ?_)
  rw [ht, if_neg (by decide)] at hB
  have hP := hB
  generalize H1 = H at hP hS ⊢
  have hP : va_P D vwCl [(h0, .inr (13, [.ref (r 0), .ref (r 1), .ref (r 2), .ref (r 3), .ref (r 4), .ref (r 5), .ref (r 6), .ref (r 7), .ref (r 8), .ref (r 9), .ref (r 10), .ref (r 11), .ref (r 12), .ref (r 13), .ref (r 14), .ref (r 15), .int 0, .int 0, .int 1, .int 110, .int 0, .int 0, .int 0, .int 0, .int 0, .int 0, .int 0, .int 0, .int 0, .int 0, .int 1]))] H := hP
  have hD : va_D A [(h0, .inr (13, [.ref (r 0), .ref (r 1), .ref (r 2), .ref (r 3), .ref (r 4), .ref (r 5), .ref (r 6), .ref (r 7), .ref (r 8), .ref (r 9), .ref (r 10), .ref (r 11), .ref (r 12), .ref (r 13), .ref (r 14), .ref (r 15), .int 0, .int 0, .int 1, .int 110, .int 0, .int 0, .int 0, .int 0, .int 0, .int 0, .int 0, .int 0, .int 0, .int 0, .int 1]))] := by rw [← hAe]; exact rg1_D
  obtain rfl : r2 = 1 := hw
  refine lv_if_ne (tgt := 58) hx hb dX7_correct_10 (by decide) (fun _ => ?_) (fun c => by first | exact absurd (by decide) c | exact absurd c (by decide))
  refine lv_iconst (v := 0) hx hb dX7_correct_58 (by decide) ?_
  have hP9 := hP
  exact W.iret (v := 0) hx hb hr (fun t ht hW => ⟨⟨0, [.ref (r 0), .ref (r 1), .ref (r 2), .ref (r 3), .ref (r 4), .ref (r 5), .ref (r 6), .ref (r 7), .ref (r 8), .ref (r 9), .ref (r 10), .ref (r 11), .ref (r 12), .ref (r 13), .ref (r 14), .ref (r 15), .int 0, .int 0, .int 1, .int 110, .int 0, .int 0, .int 0, .int 0, .int 0, .int 0, .int 0, .int 0, .int 0, .int 0, .int 1], rfl, rfl, by rw [← ht] at hP9; exact hP9⟩, hS.F ht⟩) hS.2.2 dX7_correct_59
set_option maxHeartbeats 4000000 in
set_option maxRecDepth 100000 in
theorem c_X7_move (l : Launch) (D : va_G) (h0 : Nat) (r : Nat → Nat) (sz : Nat) (a1 a2 a3 a4 : Int32) : Met l yX7_move wsX7_move ({ frames := 60, cells := 0, slots := 0, locals := 600 }) (va_Pc [.ref h0, .int a1, .int a2, .int a3, .int a4] (PX7 D h0 r 0 sz)) (va_Qi (fun (r9 : Int32) (u : List Value) => u[30]? = some (.int 1)) (fun u t => va_P D vwCl [(h0, .inr (13, u))] t.heap) (rg1 h0 sz)) 0 0 (rg1 h0 sz) := by
  refine Met.ofW (cc := cX7_move) (maxL := 9) (ret := (some .int)) (by decide +kernel) rfl ?_
  intro p e s m args below meth c s₁ B hml hv
  obtain ⟨rfl, hsz, hP, hK⟩ := hv
  have hx := B.exec
  have hb := B.bytes
  have hr := B.returns
  have hts := atoms_spec (ws := wsX7_move) B.pre
  have hown : s.vm.findClass RX7 = some m.cls := findClass_of_methodNamed B.named
  have hlocks := B.notSynchronized
  subst hsz
  have hD : va_D (rg1 h0 s.heap.size) [(h0, .inr (13, [.ref (r 0), .ref (r 1), .ref (r 2), .ref (r 3), .ref (r 4), .ref (r 5), .ref (r 6), .ref (r 7), .ref (r 8), .ref (r 9), .ref (r 10), .ref (r 11), .ref (r 12), .ref (r 13), .ref (r 14), .ref (r 15), .int 0, .int 0, .int 1, .int 110, .int 0, .int 0, .int 0, .int 0, .int 0, .int 0, .int 0, .int 0, .int 0, .int 0, .int 0]))] := rg1_D
  generalize hAe : rg1 h0 s.heap.size = A at hD ⊢
  have hA : ∀ q : Nat, s.heap.size ≤ q → A q := fun q h => by rw [← hAe]; exact Or.inr h
  have hS : va_S A s.heap s.heap [] := va_S.rf
  have hP : va_P D vwCl [(h0, .inr (13, [.ref (r 0), .ref (r 1), .ref (r 2), .ref (r 3), .ref (r 4), .ref (r 5), .ref (r 6), .ref (r 7), .ref (r 8), .ref (r 9), .ref (r 10), .ref (r 11), .ref (r 12), .ref (r 13), .ref (r 14), .ref (r 15), .int 0, .int 0, .int 1, .int 110, .int 0, .int 0, .int 0, .int 0, .int 0, .int 0, .int 0, .int 0, .int 0, .int 0, .int 0]))] s.heap := hP
  have hl := lv_entry ([.ref h0, .int a1, .int a2, .int a3, .int a4]) (n := 9) (Nat.le_of_ble_eq_true rfl)
  rw [lg_entry_eq]
  generalize (lg_sl ([.ref h0, .int a1, .int a2, .int a3, .int a4]) ++ List.replicate (9 - (lg_sl ([.ref h0, .int a1, .int a2, .int a3, .int a4])).length) Slot.unset).toArray = ls at hl ⊢
  have hl : lv_has ls 9 [(0, .ref h0), (1, .int a1), (2, .int a2), (3, .int a3), (4, .int a4)] := hl
  refine lv_iload_n hx hb dX7_move_0 rfl (lv_at hl 2 rfl) ?_
  refine lv_bipush (v := 112) hx hb dX7_move_1 (by decide) ?_
  refine lv_icmp_eq (tgt := 24) hx hb dX7_move_3 (by decide) (fun c_1 => ?_) (fun c_1 => ?_)
  · skip
    refine lv_iconst (v := 1) hx hb dX7_move_24 (by decide) ?_
    refine lv_goto (tgt := 29) hx hb dX7_move_25 (by decide) ?_
    refine lv_istore (lv' := [(5, .int 1), (0, .ref h0), (1, .int a1), (2, .int a2), (3, .int a3), (4, .int a4)]) hx hb dX7_move_29 hl (by decide) rfl (fun ls hl => ?_)
    refine lv_aload_n hx hb dX7_move_31 rfl (lv_at hl 1 rfl) ?_
    refine lv_aload_n hx hb dX7_move_32 rfl (lv_at hl 1 rfl) ?_
    refine lv_iload_n hx hb dX7_move_33 rfl (lv_at hl 2 rfl) ?_
    refine va_calli (va_runV (As := [.int a1]) (rest := [.ref h0]) ⟨hx, hb, hml, hown, hts⟩ (c_X7_isNoPlayer l D h0 r 0 s.heap.size a1) (cwV 1 hts gX7_move_X7_isNoPlayer rfl rfl rfl (by decide +kernel) ⟨Nat.le_of_ble_eq_true rfl, Nat.le_of_ble_eq_true rfl⟩) ⟨fun a U g mk q => ⟨q.1, PX7.blind q.2⟩, va_recv hK hP (ci := 13) (q0 := 0) rfl rfl, fun U hU hW => ⟨rfl, PX7.go hP hK hU hW⟩⟩ rfl rfl hl.1 rfl (lv_room (Nat.le_of_ble_eq_true rfl)) dX7_move_34 ⟨Nat.le_of_ble_eq_true rfl, Nat.le_of_ble_eq_true rfl⟩) hS (fun q h1 h2 => absurd h1 (Nat.not_lt.mpr h2)) (fun q h => hA q (Nat.le_trans hS.1 h)) (fun r2 u t H1 locs ht hvm hw hB hz1 hk1 hS => ?_)
    have hP := va_kept0 hP hk1
    generalize H1 = H at hP hS ⊢
    have hP : va_P D vwCl [(h0, .inr (13, [.ref (r 0), .ref (r 1), .ref (r 2), .ref (r 3), .ref (r 4), .ref (r 5), .ref (r 6), .ref (r 7), .ref (r 8), .ref (r 9), .ref (r 10), .ref (r 11), .ref (r 12), .ref (r 13), .ref (r 14), .ref (r 15), .int 0, .int 0, .int 1, .int 110, .int 0, .int 0, .int 0, .int 0, .int 0, .int 0, .int 0, .int 0, .int 0, .int 0, .int 0]))] H := hP
    obtain rfl : r2 = 1 := hw
    refine lv_iconst (v := 1) hx hb dX7_move_37 (by decide) ?_
    have hFc : ∀ q : Nat, rg1 h0 H.size q → A q := fun q h => h.elim (fun e => by rw [e]; exact hD.2 0 _ rfl) (fun h => hA q (Nat.le_trans hS.1 h))
    refine va_calli (va_runV (As := [.int 1, .int 1]) (rest := []) ⟨hx, hb, hml, hown, hts⟩ (c_X7_isThrown l D h0 r 0 H.size 1 1 (Or.inr rfl)) (cwV 2 hts gX7_move_X7_isThrown rfl rfl rfl (by decide +kernel) ⟨Nat.le_of_ble_eq_true rfl, Nat.le_of_ble_eq_true rfl⟩) ⟨fun a U g mk q => ⟨q.1, PX7.blind q.2⟩, va_recv hK hP (ci := 13) (q0 := 0) rfl rfl, fun U hU hW => ⟨rfl, PX7.go hP hK hU hW⟩⟩ rfl rfl hl.1 rfl (lv_room (Nat.le_of_ble_eq_true rfl)) dX7_move_38 ⟨Nat.le_of_ble_eq_true rfl, Nat.le_of_ble_eq_true rfl⟩) hS (fun q _ h => hFc q h) hFc (fun r3 u t H1 locs ht hvm hw hB hz1 hk1 hS => ?_)
    rw [ht, if_neg (by decide)] at hB
    have hP := hB
    generalize H1 = H at hP hS ⊢
    have hP : va_P D vwCl [(h0, .inr (13, [.ref (r 0), .ref (r 1), .ref (r 2), .ref (r 3), .ref (r 4), .ref (r 5), .ref (r 6), .ref (r 7), .ref (r 8), .ref (r 9), .ref (r 10), .ref (r 11), .ref (r 12), .ref (r 13), .ref (r 14), .ref (r 15), .int 0, .int 0, .int 1, .int 110, .int 0, .int 0, .int 0, .int 0, .int 0, .int 0, .int 0, .int 0, .int 0, .int 0, .int 1]))] H := hP
    have hD : va_D A [(h0, .inr (13, [.ref (r 0), .ref (r 1), .ref (r 2), .ref (r 3), .ref (r 4), .ref (r 5), .ref (r 6), .ref (r 7), .ref (r 8), .ref (r 9), .ref (r 10), .ref (r 11), .ref (r 12), .ref (r 13), .ref (r 14), .ref (r 15), .int 0, .int 0, .int 1, .int 110, .int 0, .int 0, .int 0, .int 0, .int 0, .int 0, .int 0, .int 0, .int 0, .int 0, .int 1]))] := by rw [← hAe]; exact rg1_D
    obtain rfl : r3 = 1 := hw
    refine lv_if_ne (tgt := 82) hx hb dX7_move_41 (by decide) (fun _ => ?_) (fun c => by first | exact absurd (by decide) c | exact absurd c (by decide))
    refine lv_iconst (v := 0) hx hb dX7_move_82 (by decide) ?_
    have hP9 := hP
    exact W.iret (v := 0) hx hb hr (fun t ht hW => ⟨⟨0, [.ref (r 0), .ref (r 1), .ref (r 2), .ref (r 3), .ref (r 4), .ref (r 5), .ref (r 6), .ref (r 7), .ref (r 8), .ref (r 9), .ref (r 10), .ref (r 11), .ref (r 12), .ref (r 13), .ref (r 14), .ref (r 15), .int 0, .int 0, .int 1, .int 110, .int 0, .int 0, .int 0, .int 0, .int 0, .int 0, .int 0, .int 0, .int 0, .int 0, .int 1], rfl, rfl, by rw [← ht] at hP9; exact hP9⟩, hS.F ht⟩) hS.2.2 dX7_move_83
  · skip
    refine lv_iload_n hx hb dX7_move_6 rfl (lv_at hl 2 rfl) ?_
    refine lv_bipush (v := 101) hx hb dX7_move_7 (by decide) ?_
    refine lv_icmp_eq (tgt := 24) hx hb dX7_move_9 (by decide) (fun c_5 => ?_) (fun c_5 => ?_)
    · skip
      refine lv_iconst (v := 1) hx hb dX7_move_24 (by decide) ?_
      refine lv_goto (tgt := 29) hx hb dX7_move_25 (by decide) ?_
      refine lv_istore (lv' := [(5, .int 1), (0, .ref h0), (1, .int a1), (2, .int a2), (3, .int a3), (4, .int a4)]) hx hb dX7_move_29 hl (by decide) rfl (fun ls hl => ?_)
      refine lv_aload_n hx hb dX7_move_31 rfl (lv_at hl 1 rfl) ?_
      refine lv_aload_n hx hb dX7_move_32 rfl (lv_at hl 1 rfl) ?_
      refine lv_iload_n hx hb dX7_move_33 rfl (lv_at hl 2 rfl) ?_
      refine va_calli (va_runV (As := [.int a1]) (rest := [.ref h0]) ⟨hx, hb, hml, hown, hts⟩ (c_X7_isNoPlayer l D h0 r 0 s.heap.size a1) (cwV 1 hts gX7_move_X7_isNoPlayer rfl rfl rfl (by decide +kernel) ⟨Nat.le_of_ble_eq_true rfl, Nat.le_of_ble_eq_true rfl⟩) ⟨fun a U g mk q => ⟨q.1, PX7.blind q.2⟩, va_recv hK hP (ci := 13) (q0 := 0) rfl rfl, fun U hU hW => ⟨rfl, PX7.go hP hK hU hW⟩⟩ rfl rfl hl.1 rfl (lv_room (Nat.le_of_ble_eq_true rfl)) dX7_move_34 ⟨Nat.le_of_ble_eq_true rfl, Nat.le_of_ble_eq_true rfl⟩) hS (fun q h1 h2 => absurd h1 (Nat.not_lt.mpr h2)) (fun q h => hA q (Nat.le_trans hS.1 h)) (fun r6 u t H1 locs ht hvm hw hB hz1 hk1 hS => ?_)
      have hP := va_kept0 hP hk1
      generalize H1 = H at hP hS ⊢
      have hP : va_P D vwCl [(h0, .inr (13, [.ref (r 0), .ref (r 1), .ref (r 2), .ref (r 3), .ref (r 4), .ref (r 5), .ref (r 6), .ref (r 7), .ref (r 8), .ref (r 9), .ref (r 10), .ref (r 11), .ref (r 12), .ref (r 13), .ref (r 14), .ref (r 15), .int 0, .int 0, .int 1, .int 110, .int 0, .int 0, .int 0, .int 0, .int 0, .int 0, .int 0, .int 0, .int 0, .int 0, .int 0]))] H := hP
      obtain rfl : r6 = 1 := hw
      refine lv_iconst (v := 1) hx hb dX7_move_37 (by decide) ?_
      have hFc : ∀ q : Nat, rg1 h0 H.size q → A q := fun q h => h.elim (fun e => by rw [e]; exact hD.2 0 _ rfl) (fun h => hA q (Nat.le_trans hS.1 h))
      refine va_calli (va_runV (As := [.int 1, .int 1]) (rest := []) ⟨hx, hb, hml, hown, hts⟩ (c_X7_isThrown l D h0 r 0 H.size 1 1 (Or.inr rfl)) (cwV 2 hts gX7_move_X7_isThrown rfl rfl rfl (by decide +kernel) ⟨Nat.le_of_ble_eq_true rfl, Nat.le_of_ble_eq_true rfl⟩) ⟨fun a U g mk q => ⟨q.1, PX7.blind q.2⟩, va_recv hK hP (ci := 13) (q0 := 0) rfl rfl, fun U hU hW => ⟨rfl, PX7.go hP hK hU hW⟩⟩ rfl rfl hl.1 rfl (lv_room (Nat.le_of_ble_eq_true rfl)) dX7_move_38 ⟨Nat.le_of_ble_eq_true rfl, Nat.le_of_ble_eq_true rfl⟩) hS (fun q _ h => hFc q h) hFc (fun r7 u t H1 locs ht hvm hw hB hz1 hk1 hS => ?_)
      rw [ht, if_neg (by decide)] at hB
      have hP := hB
      generalize H1 = H at hP hS ⊢
      have hP : va_P D vwCl [(h0, .inr (13, [.ref (r 0), .ref (r 1), .ref (r 2), .ref (r 3), .ref (r 4), .ref (r 5), .ref (r 6), .ref (r 7), .ref (r 8), .ref (r 9), .ref (r 10), .ref (r 11), .ref (r 12), .ref (r 13), .ref (r 14), .ref (r 15), .int 0, .int 0, .int 1, .int 110, .int 0, .int 0, .int 0, .int 0, .int 0, .int 0, .int 0, .int 0, .int 0, .int 0, .int 1]))] H := hP
      have hD : va_D A [(h0, .inr (13, [.ref (r 0), .ref (r 1), .ref (r 2), .ref (r 3), .ref (r 4), .ref (r 5), .ref (r 6), .ref (r 7), .ref (r 8), .ref (r 9), .ref (r 10), .ref (r 11), .ref (r 12), .ref (r 13), .ref (r 14), .ref (r 15), .int 0, .int 0, .int 1, .int 110, .int 0, .int 0, .int 0, .int 0, .int 0, .int 0, .int 0, .int 0, .int 0, .int 0, .int 1]))] := by rw [← hAe]; exact rg1_D
      obtain rfl : r7 = 1 := hw
      refine lv_if_ne (tgt := 82) hx hb dX7_move_41 (by decide) (fun _ => ?_) (fun c => by first | exact absurd (by decide) c | exact absurd c (by decide))
      refine lv_iconst (v := 0) hx hb dX7_move_82 (by decide) ?_
      have hP9 := hP
      exact W.iret (v := 0) hx hb hr (fun t ht hW => ⟨⟨0, [.ref (r 0), .ref (r 1), .ref (r 2), .ref (r 3), .ref (r 4), .ref (r 5), .ref (r 6), .ref (r 7), .ref (r 8), .ref (r 9), .ref (r 10), .ref (r 11), .ref (r 12), .ref (r 13), .ref (r 14), .ref (r 15), .int 0, .int 0, .int 1, .int 110, .int 0, .int 0, .int 0, .int 0, .int 0, .int 0, .int 0, .int 0, .int 0, .int 0, .int 1], rfl, rfl, by rw [← ht] at hP9; exact hP9⟩, hS.F ht⟩) hS.2.2 dX7_move_83
    · skip
      refine lv_iload_n hx hb dX7_move_12 rfl (lv_at hl 2 rfl) ?_
      refine lv_bipush (v := 107) hx hb dX7_move_13 (by decide) ?_
      refine lv_icmp_eq (tgt := 24) hx hb dX7_move_15 (by decide) (fun c_9 => ?_) (fun c_9 => ?_)
      · skip
        refine lv_iconst (v := 1) hx hb dX7_move_24 (by decide) ?_
        refine lv_goto (tgt := 29) hx hb dX7_move_25 (by decide) ?_
        refine lv_istore (lv' := [(5, .int 1), (0, .ref h0), (1, .int a1), (2, .int a2), (3, .int a3), (4, .int a4)]) hx hb dX7_move_29 hl (by decide) rfl (fun ls hl => ?_)
        refine lv_aload_n hx hb dX7_move_31 rfl (lv_at hl 1 rfl) ?_
        refine lv_aload_n hx hb dX7_move_32 rfl (lv_at hl 1 rfl) ?_
        refine lv_iload_n hx hb dX7_move_33 rfl (lv_at hl 2 rfl) ?_
        refine va_calli (va_runV (As := [.int a1]) (rest := [.ref h0]) ⟨hx, hb, hml, hown, hts⟩ (c_X7_isNoPlayer l D h0 r 0 s.heap.size a1) (cwV 1 hts gX7_move_X7_isNoPlayer rfl rfl rfl (by decide +kernel) ⟨Nat.le_of_ble_eq_true rfl, Nat.le_of_ble_eq_true rfl⟩) ⟨fun a U g mk q => ⟨q.1, PX7.blind q.2⟩, va_recv hK hP (ci := 13) (q0 := 0) rfl rfl, fun U hU hW => ⟨rfl, PX7.go hP hK hU hW⟩⟩ rfl rfl hl.1 rfl (lv_room (Nat.le_of_ble_eq_true rfl)) dX7_move_34 ⟨Nat.le_of_ble_eq_true rfl, Nat.le_of_ble_eq_true rfl⟩) hS (fun q h1 h2 => absurd h1 (Nat.not_lt.mpr h2)) (fun q h => hA q (Nat.le_trans hS.1 h)) (fun r10 u t H1 locs ht hvm hw hB hz1 hk1 hS => ?_)
        have hP := va_kept0 hP hk1
        generalize H1 = H at hP hS ⊢
        have hP : va_P D vwCl [(h0, .inr (13, [.ref (r 0), .ref (r 1), .ref (r 2), .ref (r 3), .ref (r 4), .ref (r 5), .ref (r 6), .ref (r 7), .ref (r 8), .ref (r 9), .ref (r 10), .ref (r 11), .ref (r 12), .ref (r 13), .ref (r 14), .ref (r 15), .int 0, .int 0, .int 1, .int 110, .int 0, .int 0, .int 0, .int 0, .int 0, .int 0, .int 0, .int 0, .int 0, .int 0, .int 0]))] H := hP
        obtain rfl : r10 = 1 := hw
        refine lv_iconst (v := 1) hx hb dX7_move_37 (by decide) ?_
        have hFc : ∀ q : Nat, rg1 h0 H.size q → A q := fun q h => h.elim (fun e => by rw [e]; exact hD.2 0 _ rfl) (fun h => hA q (Nat.le_trans hS.1 h))
        refine va_calli (va_runV (As := [.int 1, .int 1]) (rest := []) ⟨hx, hb, hml, hown, hts⟩ (c_X7_isThrown l D h0 r 0 H.size 1 1 (Or.inr rfl)) (cwV 2 hts gX7_move_X7_isThrown rfl rfl rfl (by decide +kernel) ⟨Nat.le_of_ble_eq_true rfl, Nat.le_of_ble_eq_true rfl⟩) ⟨fun a U g mk q => ⟨q.1, PX7.blind q.2⟩, va_recv hK hP (ci := 13) (q0 := 0) rfl rfl, fun U hU hW => ⟨rfl, PX7.go hP hK hU hW⟩⟩ rfl rfl hl.1 rfl (lv_room (Nat.le_of_ble_eq_true rfl)) dX7_move_38 ⟨Nat.le_of_ble_eq_true rfl, Nat.le_of_ble_eq_true rfl⟩) hS (fun q _ h => hFc q h) hFc (fun r11 u t H1 locs ht hvm hw hB hz1 hk1 hS => ?_)
        rw [ht, if_neg (by decide)] at hB
        have hP := hB
        generalize H1 = H at hP hS ⊢
        have hP : va_P D vwCl [(h0, .inr (13, [.ref (r 0), .ref (r 1), .ref (r 2), .ref (r 3), .ref (r 4), .ref (r 5), .ref (r 6), .ref (r 7), .ref (r 8), .ref (r 9), .ref (r 10), .ref (r 11), .ref (r 12), .ref (r 13), .ref (r 14), .ref (r 15), .int 0, .int 0, .int 1, .int 110, .int 0, .int 0, .int 0, .int 0, .int 0, .int 0, .int 0, .int 0, .int 0, .int 0, .int 1]))] H := hP
        have hD : va_D A [(h0, .inr (13, [.ref (r 0), .ref (r 1), .ref (r 2), .ref (r 3), .ref (r 4), .ref (r 5), .ref (r 6), .ref (r 7), .ref (r 8), .ref (r 9), .ref (r 10), .ref (r 11), .ref (r 12), .ref (r 13), .ref (r 14), .ref (r 15), .int 0, .int 0, .int 1, .int 110, .int 0, .int 0, .int 0, .int 0, .int 0, .int 0, .int 0, .int 0, .int 0, .int 0, .int 1]))] := by rw [← hAe]; exact rg1_D
        obtain rfl : r11 = 1 := hw
        refine lv_if_ne (tgt := 82) hx hb dX7_move_41 (by decide) (fun _ => ?_) (fun c => by first | exact absurd (by decide) c | exact absurd c (by decide))
        refine lv_iconst (v := 0) hx hb dX7_move_82 (by decide) ?_
        have hP9 := hP
        exact W.iret (v := 0) hx hb hr (fun t ht hW => ⟨⟨0, [.ref (r 0), .ref (r 1), .ref (r 2), .ref (r 3), .ref (r 4), .ref (r 5), .ref (r 6), .ref (r 7), .ref (r 8), .ref (r 9), .ref (r 10), .ref (r 11), .ref (r 12), .ref (r 13), .ref (r 14), .ref (r 15), .int 0, .int 0, .int 1, .int 110, .int 0, .int 0, .int 0, .int 0, .int 0, .int 0, .int 0, .int 0, .int 0, .int 0, .int 1], rfl, rfl, by rw [← ht] at hP9; exact hP9⟩, hS.F ht⟩) hS.2.2 dX7_move_83
      · skip
        refine lv_iload_n hx hb dX7_move_18 rfl (lv_at hl 2 rfl) ?_
        refine lv_bipush (v := 119) hx hb dX7_move_19 (by decide) ?_
        refine lv_icmp_ne (tgt := 28) hx hb dX7_move_21 (by decide) (fun c_13 => ?_) (fun c_13 => ?_)
        · skip
          refine lv_iconst (v := 0) hx hb dX7_move_28 (by decide) ?_
          refine lv_istore (lv' := [(5, .int 0), (0, .ref h0), (1, .int a1), (2, .int a2), (3, .int a3), (4, .int a4)]) hx hb dX7_move_29 hl (by decide) rfl (fun ls hl => ?_)
          refine lv_aload_n hx hb dX7_move_31 rfl (lv_at hl 1 rfl) ?_
          refine lv_aload_n hx hb dX7_move_32 rfl (lv_at hl 1 rfl) ?_
          refine lv_iload_n hx hb dX7_move_33 rfl (lv_at hl 2 rfl) ?_
          refine va_calli (va_runV (As := [.int a1]) (rest := [.ref h0]) ⟨hx, hb, hml, hown, hts⟩ (c_X7_isNoPlayer l D h0 r 0 s.heap.size a1) (cwV 1 hts gX7_move_X7_isNoPlayer rfl rfl rfl (by decide +kernel) ⟨Nat.le_of_ble_eq_true rfl, Nat.le_of_ble_eq_true rfl⟩) ⟨fun a U g mk q => ⟨q.1, PX7.blind q.2⟩, va_recv hK hP (ci := 13) (q0 := 0) rfl rfl, fun U hU hW => ⟨rfl, PX7.go hP hK hU hW⟩⟩ rfl rfl hl.1 rfl (lv_room (Nat.le_of_ble_eq_true rfl)) dX7_move_34 ⟨Nat.le_of_ble_eq_true rfl, Nat.le_of_ble_eq_true rfl⟩) hS (fun q h1 h2 => absurd h1 (Nat.not_lt.mpr h2)) (fun q h => hA q (Nat.le_trans hS.1 h)) (fun r14 u t H1 locs ht hvm hw hB hz1 hk1 hS => ?_)
          have hP := va_kept0 hP hk1
          generalize H1 = H at hP hS ⊢
          have hP : va_P D vwCl [(h0, .inr (13, [.ref (r 0), .ref (r 1), .ref (r 2), .ref (r 3), .ref (r 4), .ref (r 5), .ref (r 6), .ref (r 7), .ref (r 8), .ref (r 9), .ref (r 10), .ref (r 11), .ref (r 12), .ref (r 13), .ref (r 14), .ref (r 15), .int 0, .int 0, .int 1, .int 110, .int 0, .int 0, .int 0, .int 0, .int 0, .int 0, .int 0, .int 0, .int 0, .int 0, .int 0]))] H := hP
          obtain rfl : r14 = 1 := hw
          refine lv_iconst (v := 1) hx hb dX7_move_37 (by decide) ?_
          have hFc : ∀ q : Nat, rg1 h0 H.size q → A q := fun q h => h.elim (fun e => by rw [e]; exact hD.2 0 _ rfl) (fun h => hA q (Nat.le_trans hS.1 h))
          refine va_calli (va_runV (As := [.int 1, .int 1]) (rest := []) ⟨hx, hb, hml, hown, hts⟩ (c_X7_isThrown l D h0 r 0 H.size 1 1 (Or.inr rfl)) (cwV 2 hts gX7_move_X7_isThrown rfl rfl rfl (by decide +kernel) ⟨Nat.le_of_ble_eq_true rfl, Nat.le_of_ble_eq_true rfl⟩) ⟨fun a U g mk q => ⟨q.1, PX7.blind q.2⟩, va_recv hK hP (ci := 13) (q0 := 0) rfl rfl, fun U hU hW => ⟨rfl, PX7.go hP hK hU hW⟩⟩ rfl rfl hl.1 rfl (lv_room (Nat.le_of_ble_eq_true rfl)) dX7_move_38 ⟨Nat.le_of_ble_eq_true rfl, Nat.le_of_ble_eq_true rfl⟩) hS (fun q _ h => hFc q h) hFc (fun r15 u t H1 locs ht hvm hw hB hz1 hk1 hS => ?_)
          rw [ht, if_neg (by decide)] at hB
          have hP := hB
          generalize H1 = H at hP hS ⊢
          have hP : va_P D vwCl [(h0, .inr (13, [.ref (r 0), .ref (r 1), .ref (r 2), .ref (r 3), .ref (r 4), .ref (r 5), .ref (r 6), .ref (r 7), .ref (r 8), .ref (r 9), .ref (r 10), .ref (r 11), .ref (r 12), .ref (r 13), .ref (r 14), .ref (r 15), .int 0, .int 0, .int 1, .int 110, .int 0, .int 0, .int 0, .int 0, .int 0, .int 0, .int 0, .int 0, .int 0, .int 0, .int 1]))] H := hP
          have hD : va_D A [(h0, .inr (13, [.ref (r 0), .ref (r 1), .ref (r 2), .ref (r 3), .ref (r 4), .ref (r 5), .ref (r 6), .ref (r 7), .ref (r 8), .ref (r 9), .ref (r 10), .ref (r 11), .ref (r 12), .ref (r 13), .ref (r 14), .ref (r 15), .int 0, .int 0, .int 1, .int 110, .int 0, .int 0, .int 0, .int 0, .int 0, .int 0, .int 0, .int 0, .int 0, .int 0, .int 1]))] := by rw [← hAe]; exact rg1_D
          obtain rfl : r15 = 1 := hw
          refine lv_if_ne (tgt := 82) hx hb dX7_move_41 (by decide) (fun _ => ?_) (fun c => by first | exact absurd (by decide) c | exact absurd c (by decide))
          refine lv_iconst (v := 0) hx hb dX7_move_82 (by decide) ?_
          have hP9 := hP
          exact W.iret (v := 0) hx hb hr (fun t ht hW => ⟨⟨0, [.ref (r 0), .ref (r 1), .ref (r 2), .ref (r 3), .ref (r 4), .ref (r 5), .ref (r 6), .ref (r 7), .ref (r 8), .ref (r 9), .ref (r 10), .ref (r 11), .ref (r 12), .ref (r 13), .ref (r 14), .ref (r 15), .int 0, .int 0, .int 1, .int 110, .int 0, .int 0, .int 0, .int 0, .int 0, .int 0, .int 0, .int 0, .int 0, .int 0, .int 1], rfl, rfl, by rw [← ht] at hP9; exact hP9⟩, hS.F ht⟩) hS.2.2 dX7_move_83
        · skip
          refine lv_iconst (v := 1) hx hb dX7_move_24 (by decide) ?_
          refine lv_goto (tgt := 29) hx hb dX7_move_25 (by decide) ?_
          refine lv_istore (lv' := [(5, .int 1), (0, .ref h0), (1, .int a1), (2, .int a2), (3, .int a3), (4, .int a4)]) hx hb dX7_move_29 hl (by decide) rfl (fun ls hl => ?_)
          refine lv_aload_n hx hb dX7_move_31 rfl (lv_at hl 1 rfl) ?_
          refine lv_aload_n hx hb dX7_move_32 rfl (lv_at hl 1 rfl) ?_
          refine lv_iload_n hx hb dX7_move_33 rfl (lv_at hl 2 rfl) ?_
          refine va_calli (va_runV (As := [.int a1]) (rest := [.ref h0]) ⟨hx, hb, hml, hown, hts⟩ (c_X7_isNoPlayer l D h0 r 0 s.heap.size a1) (cwV 1 hts gX7_move_X7_isNoPlayer rfl rfl rfl (by decide +kernel) ⟨Nat.le_of_ble_eq_true rfl, Nat.le_of_ble_eq_true rfl⟩) ⟨fun a U g mk q => ⟨q.1, PX7.blind q.2⟩, va_recv hK hP (ci := 13) (q0 := 0) rfl rfl, fun U hU hW => ⟨rfl, PX7.go hP hK hU hW⟩⟩ rfl rfl hl.1 rfl (lv_room (Nat.le_of_ble_eq_true rfl)) dX7_move_34 ⟨Nat.le_of_ble_eq_true rfl, Nat.le_of_ble_eq_true rfl⟩) hS (fun q h1 h2 => absurd h1 (Nat.not_lt.mpr h2)) (fun q h => hA q (Nat.le_trans hS.1 h)) (fun r17 u t H1 locs ht hvm hw hB hz1 hk1 hS => ?_)
          have hP := va_kept0 hP hk1
          generalize H1 = H at hP hS ⊢
          have hP : va_P D vwCl [(h0, .inr (13, [.ref (r 0), .ref (r 1), .ref (r 2), .ref (r 3), .ref (r 4), .ref (r 5), .ref (r 6), .ref (r 7), .ref (r 8), .ref (r 9), .ref (r 10), .ref (r 11), .ref (r 12), .ref (r 13), .ref (r 14), .ref (r 15), .int 0, .int 0, .int 1, .int 110, .int 0, .int 0, .int 0, .int 0, .int 0, .int 0, .int 0, .int 0, .int 0, .int 0, .int 0]))] H := hP
          obtain rfl : r17 = 1 := hw
          refine lv_iconst (v := 1) hx hb dX7_move_37 (by decide) ?_
          have hFc : ∀ q : Nat, rg1 h0 H.size q → A q := fun q h => h.elim (fun e => by rw [e]; exact hD.2 0 _ rfl) (fun h => hA q (Nat.le_trans hS.1 h))
          refine va_calli (va_runV (As := [.int 1, .int 1]) (rest := []) ⟨hx, hb, hml, hown, hts⟩ (c_X7_isThrown l D h0 r 0 H.size 1 1 (Or.inr rfl)) (cwV 2 hts gX7_move_X7_isThrown rfl rfl rfl (by decide +kernel) ⟨Nat.le_of_ble_eq_true rfl, Nat.le_of_ble_eq_true rfl⟩) ⟨fun a U g mk q => ⟨q.1, PX7.blind q.2⟩, va_recv hK hP (ci := 13) (q0 := 0) rfl rfl, fun U hU hW => ⟨rfl, PX7.go hP hK hU hW⟩⟩ rfl rfl hl.1 rfl (lv_room (Nat.le_of_ble_eq_true rfl)) dX7_move_38 ⟨Nat.le_of_ble_eq_true rfl, Nat.le_of_ble_eq_true rfl⟩) hS (fun q _ h => hFc q h) hFc (fun r18 u t H1 locs ht hvm hw hB hz1 hk1 hS => ?_)
          rw [ht, if_neg (by decide)] at hB
          have hP := hB
          generalize H1 = H at hP hS ⊢
          have hP : va_P D vwCl [(h0, .inr (13, [.ref (r 0), .ref (r 1), .ref (r 2), .ref (r 3), .ref (r 4), .ref (r 5), .ref (r 6), .ref (r 7), .ref (r 8), .ref (r 9), .ref (r 10), .ref (r 11), .ref (r 12), .ref (r 13), .ref (r 14), .ref (r 15), .int 0, .int 0, .int 1, .int 110, .int 0, .int 0, .int 0, .int 0, .int 0, .int 0, .int 0, .int 0, .int 0, .int 0, .int 1]))] H := hP
          have hD : va_D A [(h0, .inr (13, [.ref (r 0), .ref (r 1), .ref (r 2), .ref (r 3), .ref (r 4), .ref (r 5), .ref (r 6), .ref (r 7), .ref (r 8), .ref (r 9), .ref (r 10), .ref (r 11), .ref (r 12), .ref (r 13), .ref (r 14), .ref (r 15), .int 0, .int 0, .int 1, .int 110, .int 0, .int 0, .int 0, .int 0, .int 0, .int 0, .int 0, .int 0, .int 0, .int 0, .int 1]))] := by rw [← hAe]; exact rg1_D
          obtain rfl : r18 = 1 := hw
          refine lv_if_ne (tgt := 82) hx hb dX7_move_41 (by decide) (fun _ => ?_) (fun c => by first | exact absurd (by decide) c | exact absurd c (by decide))
          refine lv_iconst (v := 0) hx hb dX7_move_82 (by decide) ?_
          have hP9 := hP
          exact W.iret (v := 0) hx hb hr (fun t ht hW => ⟨⟨0, [.ref (r 0), .ref (r 1), .ref (r 2), .ref (r 3), .ref (r 4), .ref (r 5), .ref (r 6), .ref (r 7), .ref (r 8), .ref (r 9), .ref (r 10), .ref (r 11), .ref (r 12), .ref (r 13), .ref (r 14), .ref (r 15), .int 0, .int 0, .int 1, .int 110, .int 0, .int 0, .int 0, .int 0, .int 0, .int 0, .int 0, .int 0, .int 0, .int 0, .int 1], rfl, rfl, by rw [← ht] at hP9; exact hP9⟩, hS.F ht⟩) hS.2.2 dX7_move_83
set_option maxHeartbeats 4000000 in
set_option maxRecDepth 100000 in
theorem c_X7_wrongBall (l : Launch) (D : va_G) (h0 : Nat) (r : Nat → Nat) (sz : Nat) (a1 a2 : Int32) : Met l yX7_wrongBall wsX7_wrongBall ({ frames := 60, cells := 0, slots := 0, locals := 600 }) (va_Pc [.ref h0, .int a1, .int a2] (PX7 D h0 r 0 sz)) (va_Qi (fun (r9 : Int32) (u : List Value) => u[30]? = some (.int 1)) (fun u t => va_P D vwCl [(h0, .inr (13, u))] t.heap) (rg1 h0 sz)) 0 0 (rg1 h0 sz) := by
  refine Met.ofW (cc := cX7_wrongBall) (maxL := 4) (ret := (some .int)) (by decide +kernel) rfl ?_
  intro p e s m args below meth c s₁ B hml hv
  obtain ⟨rfl, hsz, hP, hK⟩ := hv
  have hx := B.exec
  have hb := B.bytes
  have hr := B.returns
  have hts := atoms_spec (ws := wsX7_wrongBall) B.pre
  have hown : s.vm.findClass RX7 = some m.cls := findClass_of_methodNamed B.named
  have hlocks := B.notSynchronized
  subst hsz
  have hD : va_D (rg1 h0 s.heap.size) [(h0, .inr (13, [.ref (r 0), .ref (r 1), .ref (r 2), .ref (r 3), .ref (r 4), .ref (r 5), .ref (r 6), .ref (r 7), .ref (r 8), .ref (r 9), .ref (r 10), .ref (r 11), .ref (r 12), .ref (r 13), .ref (r 14), .ref (r 15), .int 0, .int 0, .int 1, .int 110, .int 0, .int 0, .int 0, .int 0, .int 0, .int 0, .int 0, .int 0, .int 0, .int 0, .int 0]))] := rg1_D
  generalize hAe : rg1 h0 s.heap.size = A at hD ⊢
  have hA : ∀ q : Nat, s.heap.size ≤ q → A q := fun q h => by rw [← hAe]; exact Or.inr h
  have hS : va_S A s.heap s.heap [] := va_S.rf
  have hP : va_P D vwCl [(h0, .inr (13, [.ref (r 0), .ref (r 1), .ref (r 2), .ref (r 3), .ref (r 4), .ref (r 5), .ref (r 6), .ref (r 7), .ref (r 8), .ref (r 9), .ref (r 10), .ref (r 11), .ref (r 12), .ref (r 13), .ref (r 14), .ref (r 15), .int 0, .int 0, .int 1, .int 110, .int 0, .int 0, .int 0, .int 0, .int 0, .int 0, .int 0, .int 0, .int 0, .int 0, .int 0]))] s.heap := hP
  have hl := lv_entry ([.ref h0, .int a1, .int a2]) (n := 4) (Nat.le_of_ble_eq_true rfl)
  rw [lg_entry_eq]
  generalize (lg_sl ([.ref h0, .int a1, .int a2]) ++ List.replicate (4 - (lg_sl ([.ref h0, .int a1, .int a2])).length) Slot.unset).toArray = ls at hl ⊢
  have hl : lv_has ls 4 [(0, .ref h0), (1, .int a1), (2, .int a2)] := hl
  refine lv_aload_n hx hb dX7_wrongBall_0 rfl (lv_at hl 0 rfl) ?_
  refine lv_aload_n hx hb dX7_wrongBall_1 rfl (lv_at hl 0 rfl) ?_
  refine lv_iload_n hx hb dX7_wrongBall_2 rfl (lv_at hl 1 rfl) ?_
  refine va_calli (va_runV (As := [.int a1]) (rest := [.ref h0]) ⟨hx, hb, hml, hown, hts⟩ (c_X7_isNoPlayer l D h0 r 0 s.heap.size a1) (cwV 1 hts gX7_wrongBall_X7_isNoPlayer rfl rfl rfl (by decide +kernel) ⟨Nat.le_of_ble_eq_true rfl, Nat.le_of_ble_eq_true rfl⟩) ⟨fun a U g mk q => ⟨q.1, PX7.blind q.2⟩, va_recv hK hP (ci := 13) (q0 := 0) rfl rfl, fun U hU hW => ⟨rfl, PX7.go hP hK hU hW⟩⟩ rfl rfl hl.1 rfl (lv_room (Nat.le_of_ble_eq_true rfl)) dX7_wrongBall_3 ⟨Nat.le_of_ble_eq_true rfl, Nat.le_of_ble_eq_true rfl⟩) hS (fun q h1 h2 => absurd h1 (Nat.not_lt.mpr h2)) (fun q h => hA q (Nat.le_trans hS.1 h)) (fun r1 u t H1 locs ht hvm hw hB hz1 hk1 hS => ?_)
  have hP := va_kept0 hP hk1
  generalize H1 = H at hP hS ⊢
  have hP : va_P D vwCl [(h0, .inr (13, [.ref (r 0), .ref (r 1), .ref (r 2), .ref (r 3), .ref (r 4), .ref (r 5), .ref (r 6), .ref (r 7), .ref (r 8), .ref (r 9), .ref (r 10), .ref (r 11), .ref (r 12), .ref (r 13), .ref (r 14), .ref (r 15), .int 0, .int 0, .int 1, .int 110, .int 0, .int 0, .int 0, .int 0, .int 0, .int 0, .int 0, .int 0, .int 0, .int 0, .int 0]))] H := hP
  obtain rfl : r1 = 1 := hw
  refine lv_if_ne (tgt := 17) hx hb dX7_wrongBall_6 (by decide) (fun _ => ?_) (fun c => by first | exact absurd (by decide) c | exact absurd c (by decide))
  refine lv_iconst (v := 1) hx hb dX7_wrongBall_17 (by decide) ?_
  refine lv_goto (tgt := 22) hx hb dX7_wrongBall_18 (by decide) ?_
  refine lv_iconst (v := 1) hx hb dX7_wrongBall_22 (by decide) ?_
  have hFc : ∀ q : Nat, rg1 h0 H.size q → A q := fun q h => h.elim (fun e => by rw [e]; exact hD.2 0 _ rfl) (fun h => hA q (Nat.le_trans hS.1 h))
  refine va_calli (va_runV (As := [.int 1, .int 1]) (rest := []) ⟨hx, hb, hml, hown, hts⟩ (c_X7_isThrown l D h0 r 0 H.size 1 1 (Or.inr rfl)) (cwV 2 hts gX7_wrongBall_X7_isThrown rfl rfl rfl (by decide +kernel) ⟨Nat.le_of_ble_eq_true rfl, Nat.le_of_ble_eq_true rfl⟩) ⟨fun a U g mk q => ⟨q.1, PX7.blind q.2⟩, va_recv hK hP (ci := 13) (q0 := 0) rfl rfl, fun U hU hW => ⟨rfl, PX7.go hP hK hU hW⟩⟩ rfl rfl hl.1 rfl (lv_room (Nat.le_of_ble_eq_true rfl)) dX7_wrongBall_23 ⟨Nat.le_of_ble_eq_true rfl, Nat.le_of_ble_eq_true rfl⟩) hS (fun q _ h => hFc q h) hFc (fun r3 u t H1 locs ht hvm hw hB hz1 hk1 hS => ?_)
  rw [ht, if_neg (by decide)] at hB
  have hP := hB
  generalize H1 = H at hP hS ⊢
  have hP : va_P D vwCl [(h0, .inr (13, [.ref (r 0), .ref (r 1), .ref (r 2), .ref (r 3), .ref (r 4), .ref (r 5), .ref (r 6), .ref (r 7), .ref (r 8), .ref (r 9), .ref (r 10), .ref (r 11), .ref (r 12), .ref (r 13), .ref (r 14), .ref (r 15), .int 0, .int 0, .int 1, .int 110, .int 0, .int 0, .int 0, .int 0, .int 0, .int 0, .int 0, .int 0, .int 0, .int 0, .int 1]))] H := hP
  have hD : va_D A [(h0, .inr (13, [.ref (r 0), .ref (r 1), .ref (r 2), .ref (r 3), .ref (r 4), .ref (r 5), .ref (r 6), .ref (r 7), .ref (r 8), .ref (r 9), .ref (r 10), .ref (r 11), .ref (r 12), .ref (r 13), .ref (r 14), .ref (r 15), .int 0, .int 0, .int 1, .int 110, .int 0, .int 0, .int 0, .int 0, .int 0, .int 0, .int 0, .int 0, .int 0, .int 0, .int 1]))] := by rw [← hAe]; exact rg1_D
  obtain rfl : r3 = 1 := hw
  refine lv_if_ne (tgt := 93) hx hb dX7_wrongBall_26 (by decide) (fun _ => ?_) (fun c => by first | exact absurd (by decide) c | exact absurd c (by decide))
  refine lv_iconst (v := 0) hx hb dX7_wrongBall_93 (by decide) ?_
  have hP9 := hP
  exact W.iret (v := 0) hx hb hr (fun t ht hW => ⟨⟨0, [.ref (r 0), .ref (r 1), .ref (r 2), .ref (r 3), .ref (r 4), .ref (r 5), .ref (r 6), .ref (r 7), .ref (r 8), .ref (r 9), .ref (r 10), .ref (r 11), .ref (r 12), .ref (r 13), .ref (r 14), .ref (r 15), .int 0, .int 0, .int 1, .int 110, .int 0, .int 0, .int 0, .int 0, .int 0, .int 0, .int 0, .int 0, .int 0, .int 0, .int 1], rfl, rfl, by rw [← ht] at hP9; exact hP9⟩, hS.F ht⟩) hS.2.2 dX7_wrongBall_94
set_option maxHeartbeats 4000000 in
set_option maxRecDepth 100000 in
theorem c_X7_pickUp (l : Launch) (D : va_G) (h0 : Nat) (r : Nat → Nat) (sz : Nat) (a1 : Int32) : Met l yX7_pickUp wsX7_pickUp ({ frames := 60, cells := 0, slots := 0, locals := 600 }) (va_Pc [.ref h0, .int a1] (PX7 D h0 r 0 sz)) (va_Qi (fun (r9 : Int32) (u : List Value) => u[30]? = some (.int 1)) (fun u t => va_P D vwCl [(h0, .inr (13, u))] t.heap) (rg1 h0 sz)) 0 0 (rg1 h0 sz) := by
  refine Met.ofW (cc := cX7_pickUp) (maxL := 2) (ret := (some .int)) (by decide +kernel) rfl ?_
  intro p e s m args below meth c s₁ B hml hv
  obtain ⟨rfl, hsz, hP, hK⟩ := hv
  have hx := B.exec
  have hb := B.bytes
  have hr := B.returns
  have hts := atoms_spec (ws := wsX7_pickUp) B.pre
  have hown : s.vm.findClass RX7 = some m.cls := findClass_of_methodNamed B.named
  have hlocks := B.notSynchronized
  subst hsz
  have hD : va_D (rg1 h0 s.heap.size) [(h0, .inr (13, [.ref (r 0), .ref (r 1), .ref (r 2), .ref (r 3), .ref (r 4), .ref (r 5), .ref (r 6), .ref (r 7), .ref (r 8), .ref (r 9), .ref (r 10), .ref (r 11), .ref (r 12), .ref (r 13), .ref (r 14), .ref (r 15), .int 0, .int 0, .int 1, .int 110, .int 0, .int 0, .int 0, .int 0, .int 0, .int 0, .int 0, .int 0, .int 0, .int 0, .int 0]))] := rg1_D
  generalize hAe : rg1 h0 s.heap.size = A at hD ⊢
  have hA : ∀ q : Nat, s.heap.size ≤ q → A q := fun q h => by rw [← hAe]; exact Or.inr h
  have hS : va_S A s.heap s.heap [] := va_S.rf
  have hP : va_P D vwCl [(h0, .inr (13, [.ref (r 0), .ref (r 1), .ref (r 2), .ref (r 3), .ref (r 4), .ref (r 5), .ref (r 6), .ref (r 7), .ref (r 8), .ref (r 9), .ref (r 10), .ref (r 11), .ref (r 12), .ref (r 13), .ref (r 14), .ref (r 15), .int 0, .int 0, .int 1, .int 110, .int 0, .int 0, .int 0, .int 0, .int 0, .int 0, .int 0, .int 0, .int 0, .int 0, .int 0]))] s.heap := hP
  have hl := lv_entry ([.ref h0, .int a1]) (n := 2) (Nat.le_of_ble_eq_true rfl)
  rw [lg_entry_eq]
  generalize (lg_sl ([.ref h0, .int a1]) ++ List.replicate (2 - (lg_sl ([.ref h0, .int a1])).length) Slot.unset).toArray = ls at hl ⊢
  have hl : lv_has ls 2 [(0, .ref h0), (1, .int a1)] := hl
  refine lv_aload_n hx hb dX7_pickUp_0 rfl (lv_at hl 0 rfl) ?_
  refine lv_aload_n hx hb dX7_pickUp_1 rfl (lv_at hl 0 rfl) ?_
  refine lv_iload_n hx hb dX7_pickUp_2 rfl (lv_at hl 1 rfl) ?_
  refine va_calli (va_runV (As := [.int a1]) (rest := [.ref h0]) ⟨hx, hb, hml, hown, hts⟩ (c_X7_isNoPlayer l D h0 r 0 s.heap.size a1) (cwV 1 hts gX7_pickUp_X7_isNoPlayer rfl rfl rfl (by decide +kernel) ⟨Nat.le_of_ble_eq_true rfl, Nat.le_of_ble_eq_true rfl⟩) ⟨fun a U g mk q => ⟨q.1, PX7.blind q.2⟩, va_recv hK hP (ci := 13) (q0 := 0) rfl rfl, fun U hU hW => ⟨rfl, PX7.go hP hK hU hW⟩⟩ rfl rfl hl.1 rfl (lv_room (Nat.le_of_ble_eq_true rfl)) dX7_pickUp_3 ⟨Nat.le_of_ble_eq_true rfl, Nat.le_of_ble_eq_true rfl⟩) hS (fun q h1 h2 => absurd h1 (Nat.not_lt.mpr h2)) (fun q h => hA q (Nat.le_trans hS.1 h)) (fun r1 u t H1 locs ht hvm hw hB hz1 hk1 hS => ?_)
  have hP := va_kept0 hP hk1
  generalize H1 = H at hP hS ⊢
  have hP : va_P D vwCl [(h0, .inr (13, [.ref (r 0), .ref (r 1), .ref (r 2), .ref (r 3), .ref (r 4), .ref (r 5), .ref (r 6), .ref (r 7), .ref (r 8), .ref (r 9), .ref (r 10), .ref (r 11), .ref (r 12), .ref (r 13), .ref (r 14), .ref (r 15), .int 0, .int 0, .int 1, .int 110, .int 0, .int 0, .int 0, .int 0, .int 0, .int 0, .int 0, .int 0, .int 0, .int 0, .int 0]))] H := hP
  obtain rfl : r1 = 1 := hw
  refine lv_iconst (v := 1) hx hb dX7_pickUp_6 (by decide) ?_
  have hFc : ∀ q : Nat, rg1 h0 H.size q → A q := fun q h => h.elim (fun e => by rw [e]; exact hD.2 0 _ rfl) (fun h => hA q (Nat.le_trans hS.1 h))
  refine va_calli (va_runV (As := [.int 1, .int 1]) (rest := []) ⟨hx, hb, hml, hown, hts⟩ (c_X7_isThrown l D h0 r 0 H.size 1 1 (Or.inr rfl)) (cwV 2 hts gX7_pickUp_X7_isThrown rfl rfl rfl (by decide +kernel) ⟨Nat.le_of_ble_eq_true rfl, Nat.le_of_ble_eq_true rfl⟩) ⟨fun a U g mk q => ⟨q.1, PX7.blind q.2⟩, va_recv hK hP (ci := 13) (q0 := 0) rfl rfl, fun U hU hW => ⟨rfl, PX7.go hP hK hU hW⟩⟩ rfl rfl hl.1 rfl (lv_room (Nat.le_of_ble_eq_true rfl)) dX7_pickUp_7 ⟨Nat.le_of_ble_eq_true rfl, Nat.le_of_ble_eq_true rfl⟩) hS (fun q _ h => hFc q h) hFc (fun r2 u t H1 locs ht hvm hw hB hz1 hk1 hS => ?_)
  rw [ht, if_neg (by decide)] at hB
  have hP := hB
  generalize H1 = H at hP hS ⊢
  have hP : va_P D vwCl [(h0, .inr (13, [.ref (r 0), .ref (r 1), .ref (r 2), .ref (r 3), .ref (r 4), .ref (r 5), .ref (r 6), .ref (r 7), .ref (r 8), .ref (r 9), .ref (r 10), .ref (r 11), .ref (r 12), .ref (r 13), .ref (r 14), .ref (r 15), .int 0, .int 0, .int 1, .int 110, .int 0, .int 0, .int 0, .int 0, .int 0, .int 0, .int 0, .int 0, .int 0, .int 0, .int 1]))] H := hP
  have hD : va_D A [(h0, .inr (13, [.ref (r 0), .ref (r 1), .ref (r 2), .ref (r 3), .ref (r 4), .ref (r 5), .ref (r 6), .ref (r 7), .ref (r 8), .ref (r 9), .ref (r 10), .ref (r 11), .ref (r 12), .ref (r 13), .ref (r 14), .ref (r 15), .int 0, .int 0, .int 1, .int 110, .int 0, .int 0, .int 0, .int 0, .int 0, .int 0, .int 0, .int 0, .int 0, .int 0, .int 1]))] := by rw [← hAe]; exact rg1_D
  obtain rfl : r2 = 1 := hw
  refine lv_if_ne (tgt := 46) hx hb dX7_pickUp_10 (by decide) (fun _ => ?_) (fun c => by first | exact absurd (by decide) c | exact absurd c (by decide))
  refine lv_iconst (v := 0) hx hb dX7_pickUp_46 (by decide) ?_
  have hP9 := hP
  exact W.iret (v := 0) hx hb hr (fun t ht hW => ⟨⟨0, [.ref (r 0), .ref (r 1), .ref (r 2), .ref (r 3), .ref (r 4), .ref (r 5), .ref (r 6), .ref (r 7), .ref (r 8), .ref (r 9), .ref (r 10), .ref (r 11), .ref (r 12), .ref (r 13), .ref (r 14), .ref (r 15), .int 0, .int 0, .int 1, .int 110, .int 0, .int 0, .int 0, .int 0, .int 0, .int 0, .int 0, .int 0, .int 0, .int 0, .int 1], rfl, rfl, by rw [← ht] at hP9; exact hP9⟩, hS.F ht⟩) hS.2.2 dX7_pickUp_47
set_option maxHeartbeats 4000000 in
set_option maxRecDepth 100000 in
theorem c_X7_suspend (l : Launch) (D : va_G) (h0 : Nat) (r : Nat → Nat) (sz : Nat) (a1 : Int32) : Met l yX7_suspend wsX7_suspend ({ frames := 60, cells := 0, slots := 0, locals := 600 }) (va_Pc [.ref h0, .int a1] (PX7 D h0 r 0 sz)) (va_Qi (fun (r9 : Int32) (u : List Value) => u[30]? = some (.int 1)) (fun u t => va_P D vwCl [(h0, .inr (13, u))] t.heap) (rg1 h0 sz)) 0 0 (rg1 h0 sz) := by
  refine Met.ofW (cc := cX7_suspend) (maxL := 3) (ret := (some .boolean)) (by decide +kernel) rfl ?_
  intro p e s m args below meth c s₁ B hml hv
  obtain ⟨rfl, hsz, hP, hK⟩ := hv
  have hx := B.exec
  have hb := B.bytes
  have hr := B.returns
  have hts := atoms_spec (ws := wsX7_suspend) B.pre
  have hown : s.vm.findClass RX7 = some m.cls := findClass_of_methodNamed B.named
  have hlocks := B.notSynchronized
  subst hsz
  have hD : va_D (rg1 h0 s.heap.size) [(h0, .inr (13, [.ref (r 0), .ref (r 1), .ref (r 2), .ref (r 3), .ref (r 4), .ref (r 5), .ref (r 6), .ref (r 7), .ref (r 8), .ref (r 9), .ref (r 10), .ref (r 11), .ref (r 12), .ref (r 13), .ref (r 14), .ref (r 15), .int 0, .int 0, .int 1, .int 110, .int 0, .int 0, .int 0, .int 0, .int 0, .int 0, .int 0, .int 0, .int 0, .int 0, .int 0]))] := rg1_D
  generalize hAe : rg1 h0 s.heap.size = A at hD ⊢
  have hA : ∀ q : Nat, s.heap.size ≤ q → A q := fun q h => by rw [← hAe]; exact Or.inr h
  have hS : va_S A s.heap s.heap [] := va_S.rf
  have hP : va_P D vwCl [(h0, .inr (13, [.ref (r 0), .ref (r 1), .ref (r 2), .ref (r 3), .ref (r 4), .ref (r 5), .ref (r 6), .ref (r 7), .ref (r 8), .ref (r 9), .ref (r 10), .ref (r 11), .ref (r 12), .ref (r 13), .ref (r 14), .ref (r 15), .int 0, .int 0, .int 1, .int 110, .int 0, .int 0, .int 0, .int 0, .int 0, .int 0, .int 0, .int 0, .int 0, .int 0, .int 0]))] s.heap := hP
  have hl := lv_entry ([.ref h0, .int a1]) (n := 3) (Nat.le_of_ble_eq_true rfl)
  rw [lg_entry_eq]
  generalize (lg_sl ([.ref h0, .int a1]) ++ List.replicate (3 - (lg_sl ([.ref h0, .int a1])).length) Slot.unset).toArray = ls at hl ⊢
  have hl : lv_has ls 3 [(0, .ref h0), (1, .int a1)] := hl
  refine lv_aload_n hx hb dX7_suspend_0 rfl (lv_at hl 0 rfl) ?_
  refine lv_aload_n hx hb dX7_suspend_1 rfl (lv_at hl 0 rfl) ?_
  refine va_get (D := D) (ci := 13) (v := .int 0) (C := RX7) (T := TX7) (N := 31) hx hb hts (by decide +kernel) hown hK hP 0 rfl rfl 22 (by decide) (hts (.fieldLink RX7 135 "FairwayChanceryModel" "isOn" "Z") (by decide +kernel)) (fun _ h9 => h9) rfl dX7_suspend_2 ?_
  refine lv_if_ne (tgt := 12) hx hb dX7_suspend_5 (by decide) (fun c => by first | exact absurd c (by decide) | exact absurd (by decide) c) (fun _ => ?_)
  refine lv_iconst (v := 1) hx hb dX7_suspend_8 (by decide) ?_
  refine lv_goto (tgt := 13) hx hb dX7_suspend_9 (by decide) ?_
  refine lv_iconst (v := 1) hx hb dX7_suspend_13 (by decide) ?_
  have hFc : ∀ q : Nat, rg1 h0 s.heap.size q → A q := fun q h => h.elim (fun e => by rw [e]; exact hD.2 0 _ rfl) (fun h => hA q (Nat.le_trans hS.1 h))
  refine va_calli (va_runV (As := [.int 1, .int 1]) (rest := []) ⟨hx, hb, hml, hown, hts⟩ (c_X7_isThrown l D h0 r 0 s.heap.size 1 1 (Or.inr rfl)) (cwV 2 hts gX7_suspend_X7_isThrown rfl rfl rfl (by decide +kernel) ⟨Nat.le_of_ble_eq_true rfl, Nat.le_of_ble_eq_true rfl⟩) ⟨fun a U g mk q => ⟨q.1, PX7.blind q.2⟩, va_recv hK hP (ci := 13) (q0 := 0) rfl rfl, fun U hU hW => ⟨rfl, PX7.go hP hK hU hW⟩⟩ rfl rfl hl.1 rfl (lv_room (Nat.le_of_ble_eq_true rfl)) dX7_suspend_14 ⟨Nat.le_of_ble_eq_true rfl, Nat.le_of_ble_eq_true rfl⟩) hS (fun q _ h => hFc q h) hFc (fun r2 u t H1 locs ht hvm hw hB hz1 hk1 hS => ?_)
  rw [ht, if_neg (by decide)] at hB
  have hP := hB
  generalize H1 = H at hP hS ⊢
  have hP : va_P D vwCl [(h0, .inr (13, [.ref (r 0), .ref (r 1), .ref (r 2), .ref (r 3), .ref (r 4), .ref (r 5), .ref (r 6), .ref (r 7), .ref (r 8), .ref (r 9), .ref (r 10), .ref (r 11), .ref (r 12), .ref (r 13), .ref (r 14), .ref (r 15), .int 0, .int 0, .int 1, .int 110, .int 0, .int 0, .int 0, .int 0, .int 0, .int 0, .int 0, .int 0, .int 0, .int 0, .int 1]))] H := hP
  have hD : va_D A [(h0, .inr (13, [.ref (r 0), .ref (r 1), .ref (r 2), .ref (r 3), .ref (r 4), .ref (r 5), .ref (r 6), .ref (r 7), .ref (r 8), .ref (r 9), .ref (r 10), .ref (r 11), .ref (r 12), .ref (r 13), .ref (r 14), .ref (r 15), .int 0, .int 0, .int 1, .int 110, .int 0, .int 0, .int 0, .int 0, .int 0, .int 0, .int 0, .int 0, .int 0, .int 0, .int 1]))] := by rw [← hAe]; exact rg1_D
  obtain rfl : r2 = 1 := hw
  refine lv_if_eq (tgt := 22) hx hb dX7_suspend_17 (by decide) (fun c => by first | exact absurd c (by decide) | exact absurd (by decide) c) (fun _ => ?_)
  refine lv_iconst (v := 0) hx hb dX7_suspend_20 (by decide) ?_
  have hP9 := hP
  exact W.zret (v := 0) (ty := .boolean) hx hb hr (by decide) (fun t ht hW => ⟨⟨0, [.ref (r 0), .ref (r 1), .ref (r 2), .ref (r 3), .ref (r 4), .ref (r 5), .ref (r 6), .ref (r 7), .ref (r 8), .ref (r 9), .ref (r 10), .ref (r 11), .ref (r 12), .ref (r 13), .ref (r 14), .ref (r 15), .int 0, .int 0, .int 1, .int 110, .int 0, .int 0, .int 0, .int 0, .int 0, .int 0, .int 0, .int 0, .int 0, .int 0, .int 1], rfl, rfl, by rw [← ht] at hP9; exact hP9⟩, hS.F ht⟩) hS.2.2 dX7_suspend_21
set_option maxHeartbeats 4000000 in
set_option maxRecDepth 100000 in
theorem c_X7_cancel (l : Launch) (D : va_G) (h0 : Nat) (r : Nat → Nat) (sz : Nat) (a1 : Int32) : Met l yX7_cancel wsX7_cancel ({ frames := 60, cells := 0, slots := 0, locals := 600 }) (va_Pc [.ref h0, .int a1] (PX7 D h0 r 0 sz)) (va_Qi (fun (r9 : Int32) (u : List Value) => u[30]? = some (.int 1)) (fun u t => va_P D vwCl [(h0, .inr (13, u))] t.heap) (rg1 h0 sz)) 0 0 (rg1 h0 sz) := by
  refine Met.ofW (cc := cX7_cancel) (maxL := 2) (ret := (some .boolean)) (by decide +kernel) rfl ?_
  intro p e s m args below meth c s₁ B hml hv
  obtain ⟨rfl, hsz, hP, hK⟩ := hv
  have hx := B.exec
  have hb := B.bytes
  have hr := B.returns
  have hts := atoms_spec (ws := wsX7_cancel) B.pre
  have hown : s.vm.findClass RX7 = some m.cls := findClass_of_methodNamed B.named
  have hlocks := B.notSynchronized
  subst hsz
  have hD : va_D (rg1 h0 s.heap.size) [(h0, .inr (13, [.ref (r 0), .ref (r 1), .ref (r 2), .ref (r 3), .ref (r 4), .ref (r 5), .ref (r 6), .ref (r 7), .ref (r 8), .ref (r 9), .ref (r 10), .ref (r 11), .ref (r 12), .ref (r 13), .ref (r 14), .ref (r 15), .int 0, .int 0, .int 1, .int 110, .int 0, .int 0, .int 0, .int 0, .int 0, .int 0, .int 0, .int 0, .int 0, .int 0, .int 0]))] := rg1_D
  generalize hAe : rg1 h0 s.heap.size = A at hD ⊢
  have hA : ∀ q : Nat, s.heap.size ≤ q → A q := fun q h => by rw [← hAe]; exact Or.inr h
  have hS : va_S A s.heap s.heap [] := va_S.rf
  have hP : va_P D vwCl [(h0, .inr (13, [.ref (r 0), .ref (r 1), .ref (r 2), .ref (r 3), .ref (r 4), .ref (r 5), .ref (r 6), .ref (r 7), .ref (r 8), .ref (r 9), .ref (r 10), .ref (r 11), .ref (r 12), .ref (r 13), .ref (r 14), .ref (r 15), .int 0, .int 0, .int 1, .int 110, .int 0, .int 0, .int 0, .int 0, .int 0, .int 0, .int 0, .int 0, .int 0, .int 0, .int 0]))] s.heap := hP
  have hl := lv_entry ([.ref h0, .int a1]) (n := 2) (Nat.le_of_ble_eq_true rfl)
  rw [lg_entry_eq]
  generalize (lg_sl ([.ref h0, .int a1]) ++ List.replicate (2 - (lg_sl ([.ref h0, .int a1])).length) Slot.unset).toArray = ls at hl ⊢
  have hl : lv_has ls 2 [(0, .ref h0), (1, .int a1)] := hl
  refine lv_aload_n hx hb dX7_cancel_0 rfl (lv_at hl 0 rfl) ?_
  refine lv_aload_n hx hb dX7_cancel_1 rfl (lv_at hl 0 rfl) ?_
  refine lv_iload_n hx hb dX7_cancel_2 rfl (lv_at hl 1 rfl) ?_
  refine va_calli (va_runV (As := [.int a1]) (rest := [.ref h0]) ⟨hx, hb, hml, hown, hts⟩ (c_X7_isNoPlayer l D h0 r 0 s.heap.size a1) (cwV 1 hts gX7_cancel_X7_isNoPlayer rfl rfl rfl (by decide +kernel) ⟨Nat.le_of_ble_eq_true rfl, Nat.le_of_ble_eq_true rfl⟩) ⟨fun a U g mk q => ⟨q.1, PX7.blind q.2⟩, va_recv hK hP (ci := 13) (q0 := 0) rfl rfl, fun U hU hW => ⟨rfl, PX7.go hP hK hU hW⟩⟩ rfl rfl hl.1 rfl (lv_room (Nat.le_of_ble_eq_true rfl)) dX7_cancel_3 ⟨Nat.le_of_ble_eq_true rfl, Nat.le_of_ble_eq_true rfl⟩) hS (fun q h1 h2 => absurd h1 (Nat.not_lt.mpr h2)) (fun q h => hA q (Nat.le_trans hS.1 h)) (fun r1 u t H1 locs ht hvm hw hB hz1 hk1 hS => ?_)
  have hP := va_kept0 hP hk1
  generalize H1 = H at hP hS ⊢
  have hP : va_P D vwCl [(h0, .inr (13, [.ref (r 0), .ref (r 1), .ref (r 2), .ref (r 3), .ref (r 4), .ref (r 5), .ref (r 6), .ref (r 7), .ref (r 8), .ref (r 9), .ref (r 10), .ref (r 11), .ref (r 12), .ref (r 13), .ref (r 14), .ref (r 15), .int 0, .int 0, .int 1, .int 110, .int 0, .int 0, .int 0, .int 0, .int 0, .int 0, .int 0, .int 0, .int 0, .int 0, .int 0]))] H := hP
  obtain rfl : r1 = 1 := hw
  refine lv_iconst (v := 1) hx hb dX7_cancel_6 (by decide) ?_
  have hFc : ∀ q : Nat, rg1 h0 H.size q → A q := fun q h => h.elim (fun e => by rw [e]; exact hD.2 0 _ rfl) (fun h => hA q (Nat.le_trans hS.1 h))
  refine va_calli (va_runV (As := [.int 1, .int 1]) (rest := []) ⟨hx, hb, hml, hown, hts⟩ (c_X7_isThrown l D h0 r 0 H.size 1 1 (Or.inr rfl)) (cwV 2 hts gX7_cancel_X7_isThrown rfl rfl rfl (by decide +kernel) ⟨Nat.le_of_ble_eq_true rfl, Nat.le_of_ble_eq_true rfl⟩) ⟨fun a U g mk q => ⟨q.1, PX7.blind q.2⟩, va_recv hK hP (ci := 13) (q0 := 0) rfl rfl, fun U hU hW => ⟨rfl, PX7.go hP hK hU hW⟩⟩ rfl rfl hl.1 rfl (lv_room (Nat.le_of_ble_eq_true rfl)) dX7_cancel_7 ⟨Nat.le_of_ble_eq_true rfl, Nat.le_of_ble_eq_true rfl⟩) hS (fun q _ h => hFc q h) hFc (fun r2 u t H1 locs ht hvm hw hB hz1 hk1 hS => ?_)
  rw [ht, if_neg (by decide)] at hB
  have hP := hB
  generalize H1 = H at hP hS ⊢
  have hP : va_P D vwCl [(h0, .inr (13, [.ref (r 0), .ref (r 1), .ref (r 2), .ref (r 3), .ref (r 4), .ref (r 5), .ref (r 6), .ref (r 7), .ref (r 8), .ref (r 9), .ref (r 10), .ref (r 11), .ref (r 12), .ref (r 13), .ref (r 14), .ref (r 15), .int 0, .int 0, .int 1, .int 110, .int 0, .int 0, .int 0, .int 0, .int 0, .int 0, .int 0, .int 0, .int 0, .int 0, .int 1]))] H := hP
  have hD : va_D A [(h0, .inr (13, [.ref (r 0), .ref (r 1), .ref (r 2), .ref (r 3), .ref (r 4), .ref (r 5), .ref (r 6), .ref (r 7), .ref (r 8), .ref (r 9), .ref (r 10), .ref (r 11), .ref (r 12), .ref (r 13), .ref (r 14), .ref (r 15), .int 0, .int 0, .int 1, .int 110, .int 0, .int 0, .int 0, .int 0, .int 0, .int 0, .int 0, .int 0, .int 0, .int 0, .int 1]))] := by rw [← hAe]; exact rg1_D
  obtain rfl : r2 = 1 := hw
  refine lv_if_ne (tgt := 63) hx hb dX7_cancel_10 (by decide) (fun _ => ?_) (fun c => by first | exact absurd (by decide) c | exact absurd c (by decide))
  refine lv_iconst (v := 0) hx hb dX7_cancel_63 (by decide) ?_
  have hP9 := hP
  exact W.zret (v := 0) (ty := .boolean) hx hb hr (by decide) (fun t ht hW => ⟨⟨0, [.ref (r 0), .ref (r 1), .ref (r 2), .ref (r 3), .ref (r 4), .ref (r 5), .ref (r 6), .ref (r 7), .ref (r 8), .ref (r 9), .ref (r 10), .ref (r 11), .ref (r 12), .ref (r 13), .ref (r 14), .ref (r 15), .int 0, .int 0, .int 1, .int 110, .int 0, .int 0, .int 0, .int 0, .int 0, .int 0, .int 0, .int 0, .int 0, .int 0, .int 1], rfl, rfl, by rw [← ht] at hP9; exact hP9⟩, hS.F ht⟩) hS.2.2 dX7_cancel_64
set_option maxHeartbeats 4000000 in
set_option maxRecDepth 100000 in
theorem c_X7_concede (l : Launch) (D : va_G) (h0 : Nat) (r : Nat → Nat) (sz : Nat) (a1 a2 : Int32) : Met l yX7_concede wsX7_concede ({ frames := 60, cells := 0, slots := 0, locals := 600 }) (va_Pc [.ref h0, .int a1, .int a2] (PX7 D h0 r 0 sz)) (va_Qi (fun (r9 : Int32) (u : List Value) => u[30]? = some (.int 1)) (fun u t => va_P D vwCl [(h0, .inr (13, u))] t.heap) (rg1 h0 sz)) 0 0 (rg1 h0 sz) := by
  refine Met.ofW (cc := cX7_concede) (maxL := 6) (ret := (some .int)) (by decide +kernel) rfl ?_
  intro p e s m args below meth c s₁ B hml hv
  obtain ⟨rfl, hsz, hP, hK⟩ := hv
  have hx := B.exec
  have hb := B.bytes
  have hr := B.returns
  have hts := atoms_spec (ws := wsX7_concede) B.pre
  have hown : s.vm.findClass RX7 = some m.cls := findClass_of_methodNamed B.named
  have hlocks := B.notSynchronized
  subst hsz
  have hD : va_D (rg1 h0 s.heap.size) [(h0, .inr (13, [.ref (r 0), .ref (r 1), .ref (r 2), .ref (r 3), .ref (r 4), .ref (r 5), .ref (r 6), .ref (r 7), .ref (r 8), .ref (r 9), .ref (r 10), .ref (r 11), .ref (r 12), .ref (r 13), .ref (r 14), .ref (r 15), .int 0, .int 0, .int 1, .int 110, .int 0, .int 0, .int 0, .int 0, .int 0, .int 0, .int 0, .int 0, .int 0, .int 0, .int 0]))] := rg1_D
  generalize hAe : rg1 h0 s.heap.size = A at hD ⊢
  have hA : ∀ q : Nat, s.heap.size ≤ q → A q := fun q h => by rw [← hAe]; exact Or.inr h
  have hS : va_S A s.heap s.heap [] := va_S.rf
  have hP : va_P D vwCl [(h0, .inr (13, [.ref (r 0), .ref (r 1), .ref (r 2), .ref (r 3), .ref (r 4), .ref (r 5), .ref (r 6), .ref (r 7), .ref (r 8), .ref (r 9), .ref (r 10), .ref (r 11), .ref (r 12), .ref (r 13), .ref (r 14), .ref (r 15), .int 0, .int 0, .int 1, .int 110, .int 0, .int 0, .int 0, .int 0, .int 0, .int 0, .int 0, .int 0, .int 0, .int 0, .int 0]))] s.heap := hP
  have hl := lv_entry ([.ref h0, .int a1, .int a2]) (n := 6) (Nat.le_of_ble_eq_true rfl)
  rw [lg_entry_eq]
  generalize (lg_sl ([.ref h0, .int a1, .int a2]) ++ List.replicate (6 - (lg_sl ([.ref h0, .int a1, .int a2])).length) Slot.unset).toArray = ls at hl ⊢
  have hl : lv_has ls 6 [(0, .ref h0), (1, .int a1), (2, .int a2)] := hl
  refine lv_iload_n hx hb dX7_concede_0 rfl (lv_at hl 2 rfl) ?_
  refine lv_bipush (v := 115) hx hb dX7_concede_1 (by decide) ?_
  refine lv_icmp_eq (tgt := 18) hx hb dX7_concede_3 (by decide) (fun c_1 => ?_) (fun c_1 => ?_)
  · skip
    refine lv_iconst (v := 1) hx hb dX7_concede_18 (by decide) ?_
    refine lv_goto (tgt := 23) hx hb dX7_concede_19 (by decide) ?_
    refine lv_istore_n (lv' := [(3, .int 1), (0, .ref h0), (1, .int a1), (2, .int a2)]) hx hb dX7_concede_23 rfl hl (by decide) rfl (fun ls hl => ?_)
    refine lv_aload_n hx hb dX7_concede_24 rfl (lv_at hl 1 rfl) ?_
    refine lv_aload_n hx hb dX7_concede_25 rfl (lv_at hl 1 rfl) ?_
    refine lv_iload_n hx hb dX7_concede_26 rfl (lv_at hl 2 rfl) ?_
    refine va_calli (va_runV (As := [.int a1]) (rest := [.ref h0]) ⟨hx, hb, hml, hown, hts⟩ (c_X7_isNoPlayer l D h0 r 0 s.heap.size a1) (cwV 1 hts gX7_concede_X7_isNoPlayer rfl rfl rfl (by decide +kernel) ⟨Nat.le_of_ble_eq_true rfl, Nat.le_of_ble_eq_true rfl⟩) ⟨fun a U g mk q => ⟨q.1, PX7.blind q.2⟩, va_recv hK hP (ci := 13) (q0 := 0) rfl rfl, fun U hU hW => ⟨rfl, PX7.go hP hK hU hW⟩⟩ rfl rfl hl.1 rfl (lv_room (Nat.le_of_ble_eq_true rfl)) dX7_concede_27 ⟨Nat.le_of_ble_eq_true rfl, Nat.le_of_ble_eq_true rfl⟩) hS (fun q h1 h2 => absurd h1 (Nat.not_lt.mpr h2)) (fun q h => hA q (Nat.le_trans hS.1 h)) (fun r2 u t H1 locs ht hvm hw hB hz1 hk1 hS => ?_)
    have hP := va_kept0 hP hk1
    generalize H1 = H at hP hS ⊢
    have hP : va_P D vwCl [(h0, .inr (13, [.ref (r 0), .ref (r 1), .ref (r 2), .ref (r 3), .ref (r 4), .ref (r 5), .ref (r 6), .ref (r 7), .ref (r 8), .ref (r 9), .ref (r 10), .ref (r 11), .ref (r 12), .ref (r 13), .ref (r 14), .ref (r 15), .int 0, .int 0, .int 1, .int 110, .int 0, .int 0, .int 0, .int 0, .int 0, .int 0, .int 0, .int 0, .int 0, .int 0, .int 0]))] H := hP
    obtain rfl : r2 = 1 := hw
    refine lv_iconst (v := 1) hx hb dX7_concede_30 (by decide) ?_
    have hFc : ∀ q : Nat, rg1 h0 H.size q → A q := fun q h => h.elim (fun e => by rw [e]; exact hD.2 0 _ rfl) (fun h => hA q (Nat.le_trans hS.1 h))
    refine va_calli (va_runV (As := [.int 1, .int 1]) (rest := []) ⟨hx, hb, hml, hown, hts⟩ (c_X7_isThrown l D h0 r 0 H.size 1 1 (Or.inr rfl)) (cwV 2 hts gX7_concede_X7_isThrown rfl rfl rfl (by decide +kernel) ⟨Nat.le_of_ble_eq_true rfl, Nat.le_of_ble_eq_true rfl⟩) ⟨fun a U g mk q => ⟨q.1, PX7.blind q.2⟩, va_recv hK hP (ci := 13) (q0 := 0) rfl rfl, fun U hU hW => ⟨rfl, PX7.go hP hK hU hW⟩⟩ rfl rfl hl.1 rfl (lv_room (Nat.le_of_ble_eq_true rfl)) dX7_concede_31 ⟨Nat.le_of_ble_eq_true rfl, Nat.le_of_ble_eq_true rfl⟩) hS (fun q _ h => hFc q h) hFc (fun r3 u t H1 locs ht hvm hw hB hz1 hk1 hS => ?_)
    rw [ht, if_neg (by decide)] at hB
    have hP := hB
    generalize H1 = H at hP hS ⊢
    have hP : va_P D vwCl [(h0, .inr (13, [.ref (r 0), .ref (r 1), .ref (r 2), .ref (r 3), .ref (r 4), .ref (r 5), .ref (r 6), .ref (r 7), .ref (r 8), .ref (r 9), .ref (r 10), .ref (r 11), .ref (r 12), .ref (r 13), .ref (r 14), .ref (r 15), .int 0, .int 0, .int 1, .int 110, .int 0, .int 0, .int 0, .int 0, .int 0, .int 0, .int 0, .int 0, .int 0, .int 0, .int 1]))] H := hP
    have hD : va_D A [(h0, .inr (13, [.ref (r 0), .ref (r 1), .ref (r 2), .ref (r 3), .ref (r 4), .ref (r 5), .ref (r 6), .ref (r 7), .ref (r 8), .ref (r 9), .ref (r 10), .ref (r 11), .ref (r 12), .ref (r 13), .ref (r 14), .ref (r 15), .int 0, .int 0, .int 1, .int 110, .int 0, .int 0, .int 0, .int 0, .int 0, .int 0, .int 0, .int 0, .int 0, .int 0, .int 1]))] := by rw [← hAe]; exact rg1_D
    obtain rfl : r3 = 1 := hw
    refine lv_if_ne (tgt := 74) hx hb dX7_concede_34 (by decide) (fun _ => ?_) (fun c => by first | exact absurd (by decide) c | exact absurd c (by decide))
    refine lv_iconst (v := 0) hx hb dX7_concede_74 (by decide) ?_
    have hP9 := hP
    exact W.iret (v := 0) hx hb hr (fun t ht hW => ⟨⟨0, [.ref (r 0), .ref (r 1), .ref (r 2), .ref (r 3), .ref (r 4), .ref (r 5), .ref (r 6), .ref (r 7), .ref (r 8), .ref (r 9), .ref (r 10), .ref (r 11), .ref (r 12), .ref (r 13), .ref (r 14), .ref (r 15), .int 0, .int 0, .int 1, .int 110, .int 0, .int 0, .int 0, .int 0, .int 0, .int 0, .int 0, .int 0, .int 0, .int 0, .int 1], rfl, rfl, by rw [← ht] at hP9; exact hP9⟩, hS.F ht⟩) hS.2.2 dX7_concede_75
  · skip
    refine lv_iload_n hx hb dX7_concede_6 rfl (lv_at hl 2 rfl) ?_
    refine lv_bipush (v := 104) hx hb dX7_concede_7 (by decide) ?_
    refine lv_icmp_eq (tgt := 18) hx hb dX7_concede_9 (by decide) (fun c_5 => ?_) (fun c_5 => ?_)
    · skip
      refine lv_iconst (v := 1) hx hb dX7_concede_18 (by decide) ?_
      refine lv_goto (tgt := 23) hx hb dX7_concede_19 (by decide) ?_
      refine lv_istore_n (lv' := [(3, .int 1), (0, .ref h0), (1, .int a1), (2, .int a2)]) hx hb dX7_concede_23 rfl hl (by decide) rfl (fun ls hl => ?_)
      refine lv_aload_n hx hb dX7_concede_24 rfl (lv_at hl 1 rfl) ?_
      refine lv_aload_n hx hb dX7_concede_25 rfl (lv_at hl 1 rfl) ?_
      refine lv_iload_n hx hb dX7_concede_26 rfl (lv_at hl 2 rfl) ?_
      refine va_calli (va_runV (As := [.int a1]) (rest := [.ref h0]) ⟨hx, hb, hml, hown, hts⟩ (c_X7_isNoPlayer l D h0 r 0 s.heap.size a1) (cwV 1 hts gX7_concede_X7_isNoPlayer rfl rfl rfl (by decide +kernel) ⟨Nat.le_of_ble_eq_true rfl, Nat.le_of_ble_eq_true rfl⟩) ⟨fun a U g mk q => ⟨q.1, PX7.blind q.2⟩, va_recv hK hP (ci := 13) (q0 := 0) rfl rfl, fun U hU hW => ⟨rfl, PX7.go hP hK hU hW⟩⟩ rfl rfl hl.1 rfl (lv_room (Nat.le_of_ble_eq_true rfl)) dX7_concede_27 ⟨Nat.le_of_ble_eq_true rfl, Nat.le_of_ble_eq_true rfl⟩) hS (fun q h1 h2 => absurd h1 (Nat.not_lt.mpr h2)) (fun q h => hA q (Nat.le_trans hS.1 h)) (fun r6 u t H1 locs ht hvm hw hB hz1 hk1 hS => ?_)
      have hP := va_kept0 hP hk1
      generalize H1 = H at hP hS ⊢
      have hP : va_P D vwCl [(h0, .inr (13, [.ref (r 0), .ref (r 1), .ref (r 2), .ref (r 3), .ref (r 4), .ref (r 5), .ref (r 6), .ref (r 7), .ref (r 8), .ref (r 9), .ref (r 10), .ref (r 11), .ref (r 12), .ref (r 13), .ref (r 14), .ref (r 15), .int 0, .int 0, .int 1, .int 110, .int 0, .int 0, .int 0, .int 0, .int 0, .int 0, .int 0, .int 0, .int 0, .int 0, .int 0]))] H := hP
      obtain rfl : r6 = 1 := hw
      refine lv_iconst (v := 1) hx hb dX7_concede_30 (by decide) ?_
      have hFc : ∀ q : Nat, rg1 h0 H.size q → A q := fun q h => h.elim (fun e => by rw [e]; exact hD.2 0 _ rfl) (fun h => hA q (Nat.le_trans hS.1 h))
      refine va_calli (va_runV (As := [.int 1, .int 1]) (rest := []) ⟨hx, hb, hml, hown, hts⟩ (c_X7_isThrown l D h0 r 0 H.size 1 1 (Or.inr rfl)) (cwV 2 hts gX7_concede_X7_isThrown rfl rfl rfl (by decide +kernel) ⟨Nat.le_of_ble_eq_true rfl, Nat.le_of_ble_eq_true rfl⟩) ⟨fun a U g mk q => ⟨q.1, PX7.blind q.2⟩, va_recv hK hP (ci := 13) (q0 := 0) rfl rfl, fun U hU hW => ⟨rfl, PX7.go hP hK hU hW⟩⟩ rfl rfl hl.1 rfl (lv_room (Nat.le_of_ble_eq_true rfl)) dX7_concede_31 ⟨Nat.le_of_ble_eq_true rfl, Nat.le_of_ble_eq_true rfl⟩) hS (fun q _ h => hFc q h) hFc (fun r7 u t H1 locs ht hvm hw hB hz1 hk1 hS => ?_)
      rw [ht, if_neg (by decide)] at hB
      have hP := hB
      generalize H1 = H at hP hS ⊢
      have hP : va_P D vwCl [(h0, .inr (13, [.ref (r 0), .ref (r 1), .ref (r 2), .ref (r 3), .ref (r 4), .ref (r 5), .ref (r 6), .ref (r 7), .ref (r 8), .ref (r 9), .ref (r 10), .ref (r 11), .ref (r 12), .ref (r 13), .ref (r 14), .ref (r 15), .int 0, .int 0, .int 1, .int 110, .int 0, .int 0, .int 0, .int 0, .int 0, .int 0, .int 0, .int 0, .int 0, .int 0, .int 1]))] H := hP
      have hD : va_D A [(h0, .inr (13, [.ref (r 0), .ref (r 1), .ref (r 2), .ref (r 3), .ref (r 4), .ref (r 5), .ref (r 6), .ref (r 7), .ref (r 8), .ref (r 9), .ref (r 10), .ref (r 11), .ref (r 12), .ref (r 13), .ref (r 14), .ref (r 15), .int 0, .int 0, .int 1, .int 110, .int 0, .int 0, .int 0, .int 0, .int 0, .int 0, .int 0, .int 0, .int 0, .int 0, .int 1]))] := by rw [← hAe]; exact rg1_D
      obtain rfl : r7 = 1 := hw
      refine lv_if_ne (tgt := 74) hx hb dX7_concede_34 (by decide) (fun _ => ?_) (fun c => by first | exact absurd (by decide) c | exact absurd c (by decide))
      refine lv_iconst (v := 0) hx hb dX7_concede_74 (by decide) ?_
      have hP9 := hP
      exact W.iret (v := 0) hx hb hr (fun t ht hW => ⟨⟨0, [.ref (r 0), .ref (r 1), .ref (r 2), .ref (r 3), .ref (r 4), .ref (r 5), .ref (r 6), .ref (r 7), .ref (r 8), .ref (r 9), .ref (r 10), .ref (r 11), .ref (r 12), .ref (r 13), .ref (r 14), .ref (r 15), .int 0, .int 0, .int 1, .int 110, .int 0, .int 0, .int 0, .int 0, .int 0, .int 0, .int 0, .int 0, .int 0, .int 0, .int 1], rfl, rfl, by rw [← ht] at hP9; exact hP9⟩, hS.F ht⟩) hS.2.2 dX7_concede_75
    · skip
      refine lv_iload_n hx hb dX7_concede_12 rfl (lv_at hl 2 rfl) ?_
      refine lv_bipush (v := 109) hx hb dX7_concede_13 (by decide) ?_
      refine lv_icmp_ne (tgt := 22) hx hb dX7_concede_15 (by decide) (fun c_9 => ?_) (fun c_9 => ?_)
      · skip
        refine lv_iconst (v := 0) hx hb dX7_concede_22 (by decide) ?_
        refine lv_istore_n (lv' := [(3, .int 0), (0, .ref h0), (1, .int a1), (2, .int a2)]) hx hb dX7_concede_23 rfl hl (by decide) rfl (fun ls hl => ?_)
        refine lv_aload_n hx hb dX7_concede_24 rfl (lv_at hl 1 rfl) ?_
        refine lv_aload_n hx hb dX7_concede_25 rfl (lv_at hl 1 rfl) ?_
        refine lv_iload_n hx hb dX7_concede_26 rfl (lv_at hl 2 rfl) ?_
        refine va_calli (va_runV (As := [.int a1]) (rest := [.ref h0]) ⟨hx, hb, hml, hown, hts⟩ (c_X7_isNoPlayer l D h0 r 0 s.heap.size a1) (cwV 1 hts gX7_concede_X7_isNoPlayer rfl rfl rfl (by decide +kernel) ⟨Nat.le_of_ble_eq_true rfl, Nat.le_of_ble_eq_true rfl⟩) ⟨fun a U g mk q => ⟨q.1, PX7.blind q.2⟩, va_recv hK hP (ci := 13) (q0 := 0) rfl rfl, fun U hU hW => ⟨rfl, PX7.go hP hK hU hW⟩⟩ rfl rfl hl.1 rfl (lv_room (Nat.le_of_ble_eq_true rfl)) dX7_concede_27 ⟨Nat.le_of_ble_eq_true rfl, Nat.le_of_ble_eq_true rfl⟩) hS (fun q h1 h2 => absurd h1 (Nat.not_lt.mpr h2)) (fun q h => hA q (Nat.le_trans hS.1 h)) (fun r10 u t H1 locs ht hvm hw hB hz1 hk1 hS => ?_)
        have hP := va_kept0 hP hk1
        generalize H1 = H at hP hS ⊢
        have hP : va_P D vwCl [(h0, .inr (13, [.ref (r 0), .ref (r 1), .ref (r 2), .ref (r 3), .ref (r 4), .ref (r 5), .ref (r 6), .ref (r 7), .ref (r 8), .ref (r 9), .ref (r 10), .ref (r 11), .ref (r 12), .ref (r 13), .ref (r 14), .ref (r 15), .int 0, .int 0, .int 1, .int 110, .int 0, .int 0, .int 0, .int 0, .int 0, .int 0, .int 0, .int 0, .int 0, .int 0, .int 0]))] H := hP
        obtain rfl : r10 = 1 := hw
        refine lv_iconst (v := 1) hx hb dX7_concede_30 (by decide) ?_
        have hFc : ∀ q : Nat, rg1 h0 H.size q → A q := fun q h => h.elim (fun e => by rw [e]; exact hD.2 0 _ rfl) (fun h => hA q (Nat.le_trans hS.1 h))
        refine va_calli (va_runV (As := [.int 1, .int 1]) (rest := []) ⟨hx, hb, hml, hown, hts⟩ (c_X7_isThrown l D h0 r 0 H.size 1 1 (Or.inr rfl)) (cwV 2 hts gX7_concede_X7_isThrown rfl rfl rfl (by decide +kernel) ⟨Nat.le_of_ble_eq_true rfl, Nat.le_of_ble_eq_true rfl⟩) ⟨fun a U g mk q => ⟨q.1, PX7.blind q.2⟩, va_recv hK hP (ci := 13) (q0 := 0) rfl rfl, fun U hU hW => ⟨rfl, PX7.go hP hK hU hW⟩⟩ rfl rfl hl.1 rfl (lv_room (Nat.le_of_ble_eq_true rfl)) dX7_concede_31 ⟨Nat.le_of_ble_eq_true rfl, Nat.le_of_ble_eq_true rfl⟩) hS (fun q _ h => hFc q h) hFc (fun r11 u t H1 locs ht hvm hw hB hz1 hk1 hS => ?_)
        rw [ht, if_neg (by decide)] at hB
        have hP := hB
        generalize H1 = H at hP hS ⊢
        have hP : va_P D vwCl [(h0, .inr (13, [.ref (r 0), .ref (r 1), .ref (r 2), .ref (r 3), .ref (r 4), .ref (r 5), .ref (r 6), .ref (r 7), .ref (r 8), .ref (r 9), .ref (r 10), .ref (r 11), .ref (r 12), .ref (r 13), .ref (r 14), .ref (r 15), .int 0, .int 0, .int 1, .int 110, .int 0, .int 0, .int 0, .int 0, .int 0, .int 0, .int 0, .int 0, .int 0, .int 0, .int 1]))] H := hP
        have hD : va_D A [(h0, .inr (13, [.ref (r 0), .ref (r 1), .ref (r 2), .ref (r 3), .ref (r 4), .ref (r 5), .ref (r 6), .ref (r 7), .ref (r 8), .ref (r 9), .ref (r 10), .ref (r 11), .ref (r 12), .ref (r 13), .ref (r 14), .ref (r 15), .int 0, .int 0, .int 1, .int 110, .int 0, .int 0, .int 0, .int 0, .int 0, .int 0, .int 0, .int 0, .int 0, .int 0, .int 1]))] := by rw [← hAe]; exact rg1_D
        obtain rfl : r11 = 1 := hw
        refine lv_if_ne (tgt := 74) hx hb dX7_concede_34 (by decide) (fun _ => ?_) (fun c => by first | exact absurd (by decide) c | exact absurd c (by decide))
        refine lv_iconst (v := 0) hx hb dX7_concede_74 (by decide) ?_
        have hP9 := hP
        exact W.iret (v := 0) hx hb hr (fun t ht hW => ⟨⟨0, [.ref (r 0), .ref (r 1), .ref (r 2), .ref (r 3), .ref (r 4), .ref (r 5), .ref (r 6), .ref (r 7), .ref (r 8), .ref (r 9), .ref (r 10), .ref (r 11), .ref (r 12), .ref (r 13), .ref (r 14), .ref (r 15), .int 0, .int 0, .int 1, .int 110, .int 0, .int 0, .int 0, .int 0, .int 0, .int 0, .int 0, .int 0, .int 0, .int 0, .int 1], rfl, rfl, by rw [← ht] at hP9; exact hP9⟩, hS.F ht⟩) hS.2.2 dX7_concede_75
      · skip
        refine lv_iconst (v := 1) hx hb dX7_concede_18 (by decide) ?_
        refine lv_goto (tgt := 23) hx hb dX7_concede_19 (by decide) ?_
        refine lv_istore_n (lv' := [(3, .int 1), (0, .ref h0), (1, .int a1), (2, .int a2)]) hx hb dX7_concede_23 rfl hl (by decide) rfl (fun ls hl => ?_)
        refine lv_aload_n hx hb dX7_concede_24 rfl (lv_at hl 1 rfl) ?_
        refine lv_aload_n hx hb dX7_concede_25 rfl (lv_at hl 1 rfl) ?_
        refine lv_iload_n hx hb dX7_concede_26 rfl (lv_at hl 2 rfl) ?_
        refine va_calli (va_runV (As := [.int a1]) (rest := [.ref h0]) ⟨hx, hb, hml, hown, hts⟩ (c_X7_isNoPlayer l D h0 r 0 s.heap.size a1) (cwV 1 hts gX7_concede_X7_isNoPlayer rfl rfl rfl (by decide +kernel) ⟨Nat.le_of_ble_eq_true rfl, Nat.le_of_ble_eq_true rfl⟩) ⟨fun a U g mk q => ⟨q.1, PX7.blind q.2⟩, va_recv hK hP (ci := 13) (q0 := 0) rfl rfl, fun U hU hW => ⟨rfl, PX7.go hP hK hU hW⟩⟩ rfl rfl hl.1 rfl (lv_room (Nat.le_of_ble_eq_true rfl)) dX7_concede_27 ⟨Nat.le_of_ble_eq_true rfl, Nat.le_of_ble_eq_true rfl⟩) hS (fun q h1 h2 => absurd h1 (Nat.not_lt.mpr h2)) (fun q h => hA q (Nat.le_trans hS.1 h)) (fun r13 u t H1 locs ht hvm hw hB hz1 hk1 hS => ?_)
        have hP := va_kept0 hP hk1
        generalize H1 = H at hP hS ⊢
        have hP : va_P D vwCl [(h0, .inr (13, [.ref (r 0), .ref (r 1), .ref (r 2), .ref (r 3), .ref (r 4), .ref (r 5), .ref (r 6), .ref (r 7), .ref (r 8), .ref (r 9), .ref (r 10), .ref (r 11), .ref (r 12), .ref (r 13), .ref (r 14), .ref (r 15), .int 0, .int 0, .int 1, .int 110, .int 0, .int 0, .int 0, .int 0, .int 0, .int 0, .int 0, .int 0, .int 0, .int 0, .int 0]))] H := hP
        obtain rfl : r13 = 1 := hw
        refine lv_iconst (v := 1) hx hb dX7_concede_30 (by decide) ?_
        have hFc : ∀ q : Nat, rg1 h0 H.size q → A q := fun q h => h.elim (fun e => by rw [e]; exact hD.2 0 _ rfl) (fun h => hA q (Nat.le_trans hS.1 h))
        refine va_calli (va_runV (As := [.int 1, .int 1]) (rest := []) ⟨hx, hb, hml, hown, hts⟩ (c_X7_isThrown l D h0 r 0 H.size 1 1 (Or.inr rfl)) (cwV 2 hts gX7_concede_X7_isThrown rfl rfl rfl (by decide +kernel) ⟨Nat.le_of_ble_eq_true rfl, Nat.le_of_ble_eq_true rfl⟩) ⟨fun a U g mk q => ⟨q.1, PX7.blind q.2⟩, va_recv hK hP (ci := 13) (q0 := 0) rfl rfl, fun U hU hW => ⟨rfl, PX7.go hP hK hU hW⟩⟩ rfl rfl hl.1 rfl (lv_room (Nat.le_of_ble_eq_true rfl)) dX7_concede_31 ⟨Nat.le_of_ble_eq_true rfl, Nat.le_of_ble_eq_true rfl⟩) hS (fun q _ h => hFc q h) hFc (fun r14 u t H1 locs ht hvm hw hB hz1 hk1 hS => ?_)
        rw [ht, if_neg (by decide)] at hB
        have hP := hB
        generalize H1 = H at hP hS ⊢
        have hP : va_P D vwCl [(h0, .inr (13, [.ref (r 0), .ref (r 1), .ref (r 2), .ref (r 3), .ref (r 4), .ref (r 5), .ref (r 6), .ref (r 7), .ref (r 8), .ref (r 9), .ref (r 10), .ref (r 11), .ref (r 12), .ref (r 13), .ref (r 14), .ref (r 15), .int 0, .int 0, .int 1, .int 110, .int 0, .int 0, .int 0, .int 0, .int 0, .int 0, .int 0, .int 0, .int 0, .int 0, .int 1]))] H := hP
        have hD : va_D A [(h0, .inr (13, [.ref (r 0), .ref (r 1), .ref (r 2), .ref (r 3), .ref (r 4), .ref (r 5), .ref (r 6), .ref (r 7), .ref (r 8), .ref (r 9), .ref (r 10), .ref (r 11), .ref (r 12), .ref (r 13), .ref (r 14), .ref (r 15), .int 0, .int 0, .int 1, .int 110, .int 0, .int 0, .int 0, .int 0, .int 0, .int 0, .int 0, .int 0, .int 0, .int 0, .int 1]))] := by rw [← hAe]; exact rg1_D
        obtain rfl : r14 = 1 := hw
        refine lv_if_ne (tgt := 74) hx hb dX7_concede_34 (by decide) (fun _ => ?_) (fun c => by first | exact absurd (by decide) c | exact absurd c (by decide))
        refine lv_iconst (v := 0) hx hb dX7_concede_74 (by decide) ?_
        have hP9 := hP
        exact W.iret (v := 0) hx hb hr (fun t ht hW => ⟨⟨0, [.ref (r 0), .ref (r 1), .ref (r 2), .ref (r 3), .ref (r 4), .ref (r 5), .ref (r 6), .ref (r 7), .ref (r 8), .ref (r 9), .ref (r 10), .ref (r 11), .ref (r 12), .ref (r 13), .ref (r 14), .ref (r 15), .int 0, .int 0, .int 1, .int 110, .int 0, .int 0, .int 0, .int 0, .int 0, .int 0, .int 0, .int 0, .int 0, .int 0, .int 1], rfl, rfl, by rw [← ht] at hP9; exact hP9⟩, hS.F ht⟩) hS.2.2 dX7_concede_75
set_option maxHeartbeats 4000000 in
set_option maxRecDepth 100000 in
theorem c_X7_nextHole (l : Launch) (D : va_G) (h0 : Nat) (r : Nat → Nat) (sz : Nat) : Met l yX7_nextHole wsX7_nextHole ({ frames := 60, cells := 0, slots := 0, locals := 600 }) (va_Pc [.ref h0] (PX7 D h0 r 0 sz)) (va_Qi (fun (r9 : Int32) (u : List Value) => u[30]? = some (.int 1)) (fun u t => va_P D vwCl [(h0, .inr (13, u))] t.heap) (rg1 h0 sz)) 0 0 (rg1 h0 sz) := by
  refine Met.ofW (cc := cX7_nextHole) (maxL := 4) (ret := (some .int)) (by decide +kernel) rfl ?_
  intro p e s m args below meth c s₁ B hml hv
  obtain ⟨rfl, hsz, hP, hK⟩ := hv
  have hx := B.exec
  have hb := B.bytes
  have hr := B.returns
  have hts := atoms_spec (ws := wsX7_nextHole) B.pre
  have hown : s.vm.findClass RX7 = some m.cls := findClass_of_methodNamed B.named
  have hlocks := B.notSynchronized
  subst hsz
  have hD : va_D (rg1 h0 s.heap.size) [(h0, .inr (13, [.ref (r 0), .ref (r 1), .ref (r 2), .ref (r 3), .ref (r 4), .ref (r 5), .ref (r 6), .ref (r 7), .ref (r 8), .ref (r 9), .ref (r 10), .ref (r 11), .ref (r 12), .ref (r 13), .ref (r 14), .ref (r 15), .int 0, .int 0, .int 1, .int 110, .int 0, .int 0, .int 0, .int 0, .int 0, .int 0, .int 0, .int 0, .int 0, .int 0, .int 0]))] := rg1_D
  generalize hAe : rg1 h0 s.heap.size = A at hD ⊢
  have hA : ∀ q : Nat, s.heap.size ≤ q → A q := fun q h => by rw [← hAe]; exact Or.inr h
  have hS : va_S A s.heap s.heap [] := va_S.rf
  have hP : va_P D vwCl [(h0, .inr (13, [.ref (r 0), .ref (r 1), .ref (r 2), .ref (r 3), .ref (r 4), .ref (r 5), .ref (r 6), .ref (r 7), .ref (r 8), .ref (r 9), .ref (r 10), .ref (r 11), .ref (r 12), .ref (r 13), .ref (r 14), .ref (r 15), .int 0, .int 0, .int 1, .int 110, .int 0, .int 0, .int 0, .int 0, .int 0, .int 0, .int 0, .int 0, .int 0, .int 0, .int 0]))] s.heap := hP
  have hl := lv_entry ([.ref h0]) (n := 4) (Nat.le_of_ble_eq_true rfl)
  rw [lg_entry_eq]
  generalize (lg_sl ([.ref h0]) ++ List.replicate (4 - (lg_sl ([.ref h0])).length) Slot.unset).toArray = ls at hl ⊢
  have hl : lv_has ls 4 [(0, .ref h0)] := hl
  refine lv_aload_n hx hb dX7_nextHole_0 rfl (lv_at hl 0 rfl) ?_
  refine lv_aload_n hx hb dX7_nextHole_1 rfl (lv_at hl 0 rfl) ?_
  refine va_get (D := D) (ci := 13) (v := .int 0) (C := RX7) (T := TX7) (N := 31) hx hb hts (by decide +kernel) hown hK hP 0 rfl rfl 22 (by decide) (hts (.fieldLink RX7 135 "FairwayChanceryModel" "isOn" "Z") (by decide +kernel)) (fun _ h9 => h9) rfl dX7_nextHole_2 ?_
  refine lv_if_ne (tgt := 12) hx hb dX7_nextHole_5 (by decide) (fun c => by first | exact absurd c (by decide) | exact absurd (by decide) c) (fun _ => ?_)
  refine lv_iconst (v := 1) hx hb dX7_nextHole_8 (by decide) ?_
  refine lv_goto (tgt := 13) hx hb dX7_nextHole_9 (by decide) ?_
  refine lv_iconst (v := 1) hx hb dX7_nextHole_13 (by decide) ?_
  have hFc : ∀ q : Nat, rg1 h0 s.heap.size q → A q := fun q h => h.elim (fun e => by rw [e]; exact hD.2 0 _ rfl) (fun h => hA q (Nat.le_trans hS.1 h))
  refine va_calli (va_runV (As := [.int 1, .int 1]) (rest := []) ⟨hx, hb, hml, hown, hts⟩ (c_X7_isThrown l D h0 r 0 s.heap.size 1 1 (Or.inr rfl)) (cwV 2 hts gX7_nextHole_X7_isThrown rfl rfl rfl (by decide +kernel) ⟨Nat.le_of_ble_eq_true rfl, Nat.le_of_ble_eq_true rfl⟩) ⟨fun a U g mk q => ⟨q.1, PX7.blind q.2⟩, va_recv hK hP (ci := 13) (q0 := 0) rfl rfl, fun U hU hW => ⟨rfl, PX7.go hP hK hU hW⟩⟩ rfl rfl hl.1 rfl (lv_room (Nat.le_of_ble_eq_true rfl)) dX7_nextHole_14 ⟨Nat.le_of_ble_eq_true rfl, Nat.le_of_ble_eq_true rfl⟩) hS (fun q _ h => hFc q h) hFc (fun r2 u t H1 locs ht hvm hw hB hz1 hk1 hS => ?_)
  rw [ht, if_neg (by decide)] at hB
  have hP := hB
  generalize H1 = H at hP hS ⊢
  have hP : va_P D vwCl [(h0, .inr (13, [.ref (r 0), .ref (r 1), .ref (r 2), .ref (r 3), .ref (r 4), .ref (r 5), .ref (r 6), .ref (r 7), .ref (r 8), .ref (r 9), .ref (r 10), .ref (r 11), .ref (r 12), .ref (r 13), .ref (r 14), .ref (r 15), .int 0, .int 0, .int 1, .int 110, .int 0, .int 0, .int 0, .int 0, .int 0, .int 0, .int 0, .int 0, .int 0, .int 0, .int 1]))] H := hP
  have hD : va_D A [(h0, .inr (13, [.ref (r 0), .ref (r 1), .ref (r 2), .ref (r 3), .ref (r 4), .ref (r 5), .ref (r 6), .ref (r 7), .ref (r 8), .ref (r 9), .ref (r 10), .ref (r 11), .ref (r 12), .ref (r 13), .ref (r 14), .ref (r 15), .int 0, .int 0, .int 1, .int 110, .int 0, .int 0, .int 0, .int 0, .int 0, .int 0, .int 0, .int 0, .int 0, .int 0, .int 1]))] := by rw [← hAe]; exact rg1_D
  obtain rfl : r2 = 1 := hw
  refine lv_if_ne (tgt := 40) hx hb dX7_nextHole_17 (by decide) (fun _ => ?_) (fun c => by first | exact absurd (by decide) c | exact absurd c (by decide))
  refine lv_iconst (v := 0) hx hb dX7_nextHole_40 (by decide) ?_
  have hP9 := hP
  exact W.iret (v := 0) hx hb hr (fun t ht hW => ⟨⟨0, [.ref (r 0), .ref (r 1), .ref (r 2), .ref (r 3), .ref (r 4), .ref (r 5), .ref (r 6), .ref (r 7), .ref (r 8), .ref (r 9), .ref (r 10), .ref (r 11), .ref (r 12), .ref (r 13), .ref (r 14), .ref (r 15), .int 0, .int 0, .int 1, .int 110, .int 0, .int 0, .int 0, .int 0, .int 0, .int 0, .int 0, .int 0, .int 0, .int 0, .int 1], rfl, rfl, by rw [← ht] at hP9; exact hP9⟩, hS.F ht⟩) hS.2.2 dX7_nextHole_41
set_option maxHeartbeats 4000000 in
set_option maxRecDepth 100000 in
theorem c_X7_state (l : Launch) (D : va_G) (h0 : Nat) (r : Nat → Nat) (sz : Nat) (a1 : Int32) : Met l yX7_state wsX7_state ({ frames := 60, cells := 0, slots := 0, locals := 600 }) (va_Pc [.ref h0, .int a1] (PX7 D h0 r 0 sz)) (va_Qi (fun (r9 : Int32) (u : List Value) => u[30]? = some (.int 1)) (fun u t => va_P D vwCl [(h0, .inr (13, u))] t.heap) (rg1 h0 sz)) 0 0 (rg1 h0 sz) := by
  refine Met.ofW (cc := cX7_state) (maxL := 2) (ret := (some .char)) (by decide +kernel) rfl ?_
  intro p e s m args below meth c s₁ B hml hv
  obtain ⟨rfl, hsz, hP, hK⟩ := hv
  have hx := B.exec
  have hb := B.bytes
  have hr := B.returns
  have hts := atoms_spec (ws := wsX7_state) B.pre
  have hown : s.vm.findClass RX7 = some m.cls := findClass_of_methodNamed B.named
  have hlocks := B.notSynchronized
  subst hsz
  have hD : va_D (rg1 h0 s.heap.size) [(h0, .inr (13, [.ref (r 0), .ref (r 1), .ref (r 2), .ref (r 3), .ref (r 4), .ref (r 5), .ref (r 6), .ref (r 7), .ref (r 8), .ref (r 9), .ref (r 10), .ref (r 11), .ref (r 12), .ref (r 13), .ref (r 14), .ref (r 15), .int 0, .int 0, .int 1, .int 110, .int 0, .int 0, .int 0, .int 0, .int 0, .int 0, .int 0, .int 0, .int 0, .int 0, .int 0]))] := rg1_D
  generalize hAe : rg1 h0 s.heap.size = A at hD ⊢
  have hA : ∀ q : Nat, s.heap.size ≤ q → A q := fun q h => by rw [← hAe]; exact Or.inr h
  have hS : va_S A s.heap s.heap [] := va_S.rf
  have hP : va_P D vwCl [(h0, .inr (13, [.ref (r 0), .ref (r 1), .ref (r 2), .ref (r 3), .ref (r 4), .ref (r 5), .ref (r 6), .ref (r 7), .ref (r 8), .ref (r 9), .ref (r 10), .ref (r 11), .ref (r 12), .ref (r 13), .ref (r 14), .ref (r 15), .int 0, .int 0, .int 1, .int 110, .int 0, .int 0, .int 0, .int 0, .int 0, .int 0, .int 0, .int 0, .int 0, .int 0, .int 0]))] s.heap := hP
  have hl := lv_entry ([.ref h0, .int a1]) (n := 2) (Nat.le_of_ble_eq_true rfl)
  rw [lg_entry_eq]
  generalize (lg_sl ([.ref h0, .int a1]) ++ List.replicate (2 - (lg_sl ([.ref h0, .int a1])).length) Slot.unset).toArray = ls at hl ⊢
  have hl : lv_has ls 2 [(0, .ref h0), (1, .int a1)] := hl
  refine lv_aload_n hx hb dX7_state_0 rfl (lv_at hl 0 rfl) ?_
  refine lv_iload_n hx hb dX7_state_1 rfl (lv_at hl 1 rfl) ?_
  have hFc : ∀ q : Nat, rg1 h0 s.heap.size q → A q := fun q h => h.elim (fun e => by rw [e]; exact hD.2 0 _ rfl) (fun h => hA q (Nat.le_trans hS.1 h))
  refine va_calli (va_runV (As := [.int a1]) (rest := []) ⟨hx, hb, hml, hown, hts⟩ (c_X7_isNone l D h0 r 0 s.heap.size a1) (cwV 1 hts gX7_state_X7_isNone rfl rfl rfl (by decide +kernel) ⟨Nat.le_of_ble_eq_true rfl, Nat.le_of_ble_eq_true rfl⟩) ⟨fun a U g mk q => ⟨q.1, PX7.blind q.2⟩, va_recv hK hP (ci := 13) (q0 := 0) rfl rfl, fun U hU hW => ⟨rfl, PX7.go hP hK hU hW⟩⟩ rfl rfl hl.1 rfl (lv_room (Nat.le_of_ble_eq_true rfl)) dX7_state_2 ⟨Nat.le_of_ble_eq_true rfl, Nat.le_of_ble_eq_true rfl⟩) hS (fun q _ h => hFc q h) hFc (fun r1 u t H1 locs ht hvm hw hB hz1 hk1 hS => ?_)
  rw [ht] at hB
  have hP := hB
  generalize H1 = H at hP hS ⊢
  have hP : va_P D vwCl [(h0, .inr (13, [.ref (r 0), .ref (r 1), .ref (r 2), .ref (r 3), .ref (r 4), .ref (r 5), .ref (r 6), .ref (r 7), .ref (r 8), .ref (r 9), .ref (r 10), .ref (r 11), .ref (r 12), .ref (r 13), .ref (r 14), .ref (r 15), .int 0, .int 0, .int 1, .int 110, .int 0, .int 0, .int 0, .int 0, .int 0, .int 0, .int 0, .int 0, .int 0, .int 0, .int 1]))] H := hP
  have hD : va_D A [(h0, .inr (13, [.ref (r 0), .ref (r 1), .ref (r 2), .ref (r 3), .ref (r 4), .ref (r 5), .ref (r 6), .ref (r 7), .ref (r 8), .ref (r 9), .ref (r 10), .ref (r 11), .ref (r 12), .ref (r 13), .ref (r 14), .ref (r 15), .int 0, .int 0, .int 1, .int 110, .int 0, .int 0, .int 0, .int 0, .int 0, .int 0, .int 0, .int 0, .int 0, .int 0, .int 1]))] := by rw [← hAe]; exact rg1_D
  obtain rfl : r1 = 1 := hw
  refine lv_if_eq (tgt := 13) hx hb dX7_state_5 (by decide) (fun c => by first | exact absurd c (by decide) | exact absurd (by decide) c) (fun _ => ?_)
  refine lv_bipush (v := 32) hx hb dX7_state_8 (by decide) ?_
  refine lv_goto (tgt := 22) hx hb dX7_state_10 (by decide) ?_
  have hP9 := hP
  exact W.zret (v := 32) (ty := .char) hx hb hr (by decide) (fun t ht hW => ⟨⟨32, [.ref (r 0), .ref (r 1), .ref (r 2), .ref (r 3), .ref (r 4), .ref (r 5), .ref (r 6), .ref (r 7), .ref (r 8), .ref (r 9), .ref (r 10), .ref (r 11), .ref (r 12), .ref (r 13), .ref (r 14), .ref (r 15), .int 0, .int 0, .int 1, .int 110, .int 0, .int 0, .int 0, .int 0, .int 0, .int 0, .int 0, .int 0, .int 0, .int 0, .int 1], rfl, rfl, by rw [← ht] at hP9; exact hP9⟩, hS.F ht⟩) hS.2.2 dX7_state_22
set_option maxHeartbeats 4000000 in
set_option maxRecDepth 100000 in
theorem c_X7_lie (l : Launch) (D : va_G) (h0 : Nat) (r : Nat → Nat) (sz : Nat) (a1 a2 : Int32) : Met l yX7_lie wsX7_lie ({ frames := 60, cells := 0, slots := 0, locals := 600 }) (va_Pc [.ref h0, .int a1, .int a2] (PX7 D h0 r 0 sz)) (va_Qi (fun (r9 : Int32) (u : List Value) => u[30]? = some (.int 1)) (fun u t => va_P D vwCl [(h0, .inr (13, u))] t.heap) (rg1 h0 sz)) 0 0 (rg1 h0 sz) := by
  refine Met.ofW (cc := cX7_lie) (maxL := 3) (ret := (some .int)) (by decide +kernel) rfl ?_
  intro p e s m args below meth c s₁ B hml hv
  obtain ⟨rfl, hsz, hP, hK⟩ := hv
  have hx := B.exec
  have hb := B.bytes
  have hr := B.returns
  have hts := atoms_spec (ws := wsX7_lie) B.pre
  have hown : s.vm.findClass RX7 = some m.cls := findClass_of_methodNamed B.named
  have hlocks := B.notSynchronized
  subst hsz
  have hD : va_D (rg1 h0 s.heap.size) [(h0, .inr (13, [.ref (r 0), .ref (r 1), .ref (r 2), .ref (r 3), .ref (r 4), .ref (r 5), .ref (r 6), .ref (r 7), .ref (r 8), .ref (r 9), .ref (r 10), .ref (r 11), .ref (r 12), .ref (r 13), .ref (r 14), .ref (r 15), .int 0, .int 0, .int 1, .int 110, .int 0, .int 0, .int 0, .int 0, .int 0, .int 0, .int 0, .int 0, .int 0, .int 0, .int 0]))] := rg1_D
  generalize hAe : rg1 h0 s.heap.size = A at hD ⊢
  have hA : ∀ q : Nat, s.heap.size ≤ q → A q := fun q h => by rw [← hAe]; exact Or.inr h
  have hS : va_S A s.heap s.heap [] := va_S.rf
  have hP : va_P D vwCl [(h0, .inr (13, [.ref (r 0), .ref (r 1), .ref (r 2), .ref (r 3), .ref (r 4), .ref (r 5), .ref (r 6), .ref (r 7), .ref (r 8), .ref (r 9), .ref (r 10), .ref (r 11), .ref (r 12), .ref (r 13), .ref (r 14), .ref (r 15), .int 0, .int 0, .int 1, .int 110, .int 0, .int 0, .int 0, .int 0, .int 0, .int 0, .int 0, .int 0, .int 0, .int 0, .int 0]))] s.heap := hP
  have hl := lv_entry ([.ref h0, .int a1, .int a2]) (n := 3) (Nat.le_of_ble_eq_true rfl)
  rw [lg_entry_eq]
  generalize (lg_sl ([.ref h0, .int a1, .int a2]) ++ List.replicate (3 - (lg_sl ([.ref h0, .int a1, .int a2])).length) Slot.unset).toArray = ls at hl ⊢
  have hl : lv_has ls 3 [(0, .ref h0), (1, .int a1), (2, .int a2)] := hl
  refine lv_aload_n hx hb dX7_lie_0 rfl (lv_at hl 0 rfl) ?_
  refine lv_iload_n hx hb dX7_lie_1 rfl (lv_at hl 1 rfl) ?_
  have hFc : ∀ q : Nat, rg1 h0 s.heap.size q → A q := fun q h => h.elim (fun e => by rw [e]; exact hD.2 0 _ rfl) (fun h => hA q (Nat.le_trans hS.1 h))
  refine va_calli (va_runV (As := [.int a1]) (rest := []) ⟨hx, hb, hml, hown, hts⟩ (c_X7_isNone l D h0 r 0 s.heap.size a1) (cwV 1 hts gX7_lie_X7_isNone rfl rfl rfl (by decide +kernel) ⟨Nat.le_of_ble_eq_true rfl, Nat.le_of_ble_eq_true rfl⟩) ⟨fun a U g mk q => ⟨q.1, PX7.blind q.2⟩, va_recv hK hP (ci := 13) (q0 := 0) rfl rfl, fun U hU hW => ⟨rfl, PX7.go hP hK hU hW⟩⟩ rfl rfl hl.1 rfl (lv_room (Nat.le_of_ble_eq_true rfl)) dX7_lie_2 ⟨Nat.le_of_ble_eq_true rfl, Nat.le_of_ble_eq_true rfl⟩) hS (fun q _ h => hFc q h) hFc (fun r1 u t H1 locs ht hvm hw hB hz1 hk1 hS => ?_)
  rw [ht] at hB
  have hP := hB
  generalize H1 = H at hP hS ⊢
  have hP : va_P D vwCl [(h0, .inr (13, [.ref (r 0), .ref (r 1), .ref (r 2), .ref (r 3), .ref (r 4), .ref (r 5), .ref (r 6), .ref (r 7), .ref (r 8), .ref (r 9), .ref (r 10), .ref (r 11), .ref (r 12), .ref (r 13), .ref (r 14), .ref (r 15), .int 0, .int 0, .int 1, .int 110, .int 0, .int 0, .int 0, .int 0, .int 0, .int 0, .int 0, .int 0, .int 0, .int 0, .int 1]))] H := hP
  have hD : va_D A [(h0, .inr (13, [.ref (r 0), .ref (r 1), .ref (r 2), .ref (r 3), .ref (r 4), .ref (r 5), .ref (r 6), .ref (r 7), .ref (r 8), .ref (r 9), .ref (r 10), .ref (r 11), .ref (r 12), .ref (r 13), .ref (r 14), .ref (r 15), .int 0, .int 0, .int 1, .int 110, .int 0, .int 0, .int 0, .int 0, .int 0, .int 0, .int 0, .int 0, .int 0, .int 0, .int 1]))] := by rw [← hAe]; exact rg1_D
  obtain rfl : r1 = 1 := hw
  refine lv_if_ne (tgt := 47) hx hb dX7_lie_5 (by decide) (fun _ => ?_) (fun c => by first | exact absurd (by decide) c | exact absurd c (by decide))
  refine lv_iconst (v := 0) hx hb dX7_lie_47 (by decide) ?_
  have hP9 := hP
  exact W.iret (v := 0) hx hb hr (fun t ht hW => ⟨⟨0, [.ref (r 0), .ref (r 1), .ref (r 2), .ref (r 3), .ref (r 4), .ref (r 5), .ref (r 6), .ref (r 7), .ref (r 8), .ref (r 9), .ref (r 10), .ref (r 11), .ref (r 12), .ref (r 13), .ref (r 14), .ref (r 15), .int 0, .int 0, .int 1, .int 110, .int 0, .int 0, .int 0, .int 0, .int 0, .int 0, .int 0, .int 0, .int 0, .int 0, .int 1], rfl, rfl, by rw [← ht] at hP9; exact hP9⟩, hS.F ht⟩) hS.2.2 dX7_lie_48
set_option maxHeartbeats 4000000 in
set_option maxRecDepth 100000 in
theorem c_X7_strokes (l : Launch) (D : va_G) (h0 : Nat) (r : Nat → Nat) (sz : Nat) (a1 : Int32) : Met l yX7_strokes wsX7_strokes ({ frames := 60, cells := 0, slots := 0, locals := 600 }) (va_Pc [.ref h0, .int a1] (PX7 D h0 r 0 sz)) (va_Qi (fun (r9 : Int32) (u : List Value) => u[30]? = some (.int 1)) (fun u t => va_P D vwCl [(h0, .inr (13, u))] t.heap) (rg1 h0 sz)) 0 0 (rg1 h0 sz) := by
  refine Met.ofW (cc := cX7_strokes) (maxL := 2) (ret := (some .int)) (by decide +kernel) rfl ?_
  intro p e s m args below meth c s₁ B hml hv
  obtain ⟨rfl, hsz, hP, hK⟩ := hv
  have hx := B.exec
  have hb := B.bytes
  have hr := B.returns
  have hts := atoms_spec (ws := wsX7_strokes) B.pre
  have hown : s.vm.findClass RX7 = some m.cls := findClass_of_methodNamed B.named
  have hlocks := B.notSynchronized
  subst hsz
  have hD : va_D (rg1 h0 s.heap.size) [(h0, .inr (13, [.ref (r 0), .ref (r 1), .ref (r 2), .ref (r 3), .ref (r 4), .ref (r 5), .ref (r 6), .ref (r 7), .ref (r 8), .ref (r 9), .ref (r 10), .ref (r 11), .ref (r 12), .ref (r 13), .ref (r 14), .ref (r 15), .int 0, .int 0, .int 1, .int 110, .int 0, .int 0, .int 0, .int 0, .int 0, .int 0, .int 0, .int 0, .int 0, .int 0, .int 0]))] := rg1_D
  generalize hAe : rg1 h0 s.heap.size = A at hD ⊢
  have hA : ∀ q : Nat, s.heap.size ≤ q → A q := fun q h => by rw [← hAe]; exact Or.inr h
  have hS : va_S A s.heap s.heap [] := va_S.rf
  have hP : va_P D vwCl [(h0, .inr (13, [.ref (r 0), .ref (r 1), .ref (r 2), .ref (r 3), .ref (r 4), .ref (r 5), .ref (r 6), .ref (r 7), .ref (r 8), .ref (r 9), .ref (r 10), .ref (r 11), .ref (r 12), .ref (r 13), .ref (r 14), .ref (r 15), .int 0, .int 0, .int 1, .int 110, .int 0, .int 0, .int 0, .int 0, .int 0, .int 0, .int 0, .int 0, .int 0, .int 0, .int 0]))] s.heap := hP
  have hl := lv_entry ([.ref h0, .int a1]) (n := 2) (Nat.le_of_ble_eq_true rfl)
  rw [lg_entry_eq]
  generalize (lg_sl ([.ref h0, .int a1]) ++ List.replicate (2 - (lg_sl ([.ref h0, .int a1])).length) Slot.unset).toArray = ls at hl ⊢
  have hl : lv_has ls 2 [(0, .ref h0), (1, .int a1)] := hl
  refine lv_aload_n hx hb dX7_strokes_0 rfl (lv_at hl 0 rfl) ?_
  refine lv_iload_n hx hb dX7_strokes_1 rfl (lv_at hl 1 rfl) ?_
  have hFc : ∀ q : Nat, rg1 h0 s.heap.size q → A q := fun q h => h.elim (fun e => by rw [e]; exact hD.2 0 _ rfl) (fun h => hA q (Nat.le_trans hS.1 h))
  refine va_calli (va_runV (As := [.int a1]) (rest := []) ⟨hx, hb, hml, hown, hts⟩ (c_X7_isNone l D h0 r 0 s.heap.size a1) (cwV 1 hts gX7_strokes_X7_isNone rfl rfl rfl (by decide +kernel) ⟨Nat.le_of_ble_eq_true rfl, Nat.le_of_ble_eq_true rfl⟩) ⟨fun a U g mk q => ⟨q.1, PX7.blind q.2⟩, va_recv hK hP (ci := 13) (q0 := 0) rfl rfl, fun U hU hW => ⟨rfl, PX7.go hP hK hU hW⟩⟩ rfl rfl hl.1 rfl (lv_room (Nat.le_of_ble_eq_true rfl)) dX7_strokes_2 ⟨Nat.le_of_ble_eq_true rfl, Nat.le_of_ble_eq_true rfl⟩) hS (fun q _ h => hFc q h) hFc (fun r1 u t H1 locs ht hvm hw hB hz1 hk1 hS => ?_)
  rw [ht] at hB
  have hP := hB
  generalize H1 = H at hP hS ⊢
  have hP : va_P D vwCl [(h0, .inr (13, [.ref (r 0), .ref (r 1), .ref (r 2), .ref (r 3), .ref (r 4), .ref (r 5), .ref (r 6), .ref (r 7), .ref (r 8), .ref (r 9), .ref (r 10), .ref (r 11), .ref (r 12), .ref (r 13), .ref (r 14), .ref (r 15), .int 0, .int 0, .int 1, .int 110, .int 0, .int 0, .int 0, .int 0, .int 0, .int 0, .int 0, .int 0, .int 0, .int 0, .int 1]))] H := hP
  have hD : va_D A [(h0, .inr (13, [.ref (r 0), .ref (r 1), .ref (r 2), .ref (r 3), .ref (r 4), .ref (r 5), .ref (r 6), .ref (r 7), .ref (r 8), .ref (r 9), .ref (r 10), .ref (r 11), .ref (r 12), .ref (r 13), .ref (r 14), .ref (r 15), .int 0, .int 0, .int 1, .int 110, .int 0, .int 0, .int 0, .int 0, .int 0, .int 0, .int 0, .int 0, .int 0, .int 0, .int 1]))] := by rw [← hAe]; exact rg1_D
  obtain rfl : r1 = 1 := hw
  refine lv_if_eq (tgt := 12) hx hb dX7_strokes_5 (by decide) (fun c => by first | exact absurd c (by decide) | exact absurd (by decide) c) (fun _ => ?_)
  refine lv_iconst (v := 0) hx hb dX7_strokes_8 (by decide) ?_
  refine lv_goto (tgt := 21) hx hb dX7_strokes_9 (by decide) ?_
  have hP9 := hP
  exact W.iret (v := 0) hx hb hr (fun t ht hW => ⟨⟨0, [.ref (r 0), .ref (r 1), .ref (r 2), .ref (r 3), .ref (r 4), .ref (r 5), .ref (r 6), .ref (r 7), .ref (r 8), .ref (r 9), .ref (r 10), .ref (r 11), .ref (r 12), .ref (r 13), .ref (r 14), .ref (r 15), .int 0, .int 0, .int 1, .int 110, .int 0, .int 0, .int 0, .int 0, .int 0, .int 0, .int 0, .int 0, .int 0, .int 0, .int 1], rfl, rfl, by rw [← ht] at hP9; exact hP9⟩, hS.F ht⟩) hS.2.2 dX7_strokes_21
set_option maxHeartbeats 4000000 in
set_option maxRecDepth 100000 in
theorem c_X7_penalties (l : Launch) (D : va_G) (h0 : Nat) (r : Nat → Nat) (sz : Nat) (a1 : Int32) : Met l yX7_penalties wsX7_penalties ({ frames := 60, cells := 0, slots := 0, locals := 600 }) (va_Pc [.ref h0, .int a1] (PX7 D h0 r 0 sz)) (va_Qi (fun (r9 : Int32) (u : List Value) => u[30]? = some (.int 1)) (fun u t => va_P D vwCl [(h0, .inr (13, u))] t.heap) (rg1 h0 sz)) 0 0 (rg1 h0 sz) := by
  refine Met.ofW (cc := cX7_penalties) (maxL := 2) (ret := (some .int)) (by decide +kernel) rfl ?_
  intro p e s m args below meth c s₁ B hml hv
  obtain ⟨rfl, hsz, hP, hK⟩ := hv
  have hx := B.exec
  have hb := B.bytes
  have hr := B.returns
  have hts := atoms_spec (ws := wsX7_penalties) B.pre
  have hown : s.vm.findClass RX7 = some m.cls := findClass_of_methodNamed B.named
  have hlocks := B.notSynchronized
  subst hsz
  have hD : va_D (rg1 h0 s.heap.size) [(h0, .inr (13, [.ref (r 0), .ref (r 1), .ref (r 2), .ref (r 3), .ref (r 4), .ref (r 5), .ref (r 6), .ref (r 7), .ref (r 8), .ref (r 9), .ref (r 10), .ref (r 11), .ref (r 12), .ref (r 13), .ref (r 14), .ref (r 15), .int 0, .int 0, .int 1, .int 110, .int 0, .int 0, .int 0, .int 0, .int 0, .int 0, .int 0, .int 0, .int 0, .int 0, .int 0]))] := rg1_D
  generalize hAe : rg1 h0 s.heap.size = A at hD ⊢
  have hA : ∀ q : Nat, s.heap.size ≤ q → A q := fun q h => by rw [← hAe]; exact Or.inr h
  have hS : va_S A s.heap s.heap [] := va_S.rf
  have hP : va_P D vwCl [(h0, .inr (13, [.ref (r 0), .ref (r 1), .ref (r 2), .ref (r 3), .ref (r 4), .ref (r 5), .ref (r 6), .ref (r 7), .ref (r 8), .ref (r 9), .ref (r 10), .ref (r 11), .ref (r 12), .ref (r 13), .ref (r 14), .ref (r 15), .int 0, .int 0, .int 1, .int 110, .int 0, .int 0, .int 0, .int 0, .int 0, .int 0, .int 0, .int 0, .int 0, .int 0, .int 0]))] s.heap := hP
  have hl := lv_entry ([.ref h0, .int a1]) (n := 2) (Nat.le_of_ble_eq_true rfl)
  rw [lg_entry_eq]
  generalize (lg_sl ([.ref h0, .int a1]) ++ List.replicate (2 - (lg_sl ([.ref h0, .int a1])).length) Slot.unset).toArray = ls at hl ⊢
  have hl : lv_has ls 2 [(0, .ref h0), (1, .int a1)] := hl
  refine lv_aload_n hx hb dX7_penalties_0 rfl (lv_at hl 0 rfl) ?_
  refine lv_iload_n hx hb dX7_penalties_1 rfl (lv_at hl 1 rfl) ?_
  have hFc : ∀ q : Nat, rg1 h0 s.heap.size q → A q := fun q h => h.elim (fun e => by rw [e]; exact hD.2 0 _ rfl) (fun h => hA q (Nat.le_trans hS.1 h))
  refine va_calli (va_runV (As := [.int a1]) (rest := []) ⟨hx, hb, hml, hown, hts⟩ (c_X7_isNone l D h0 r 0 s.heap.size a1) (cwV 1 hts gX7_penalties_X7_isNone rfl rfl rfl (by decide +kernel) ⟨Nat.le_of_ble_eq_true rfl, Nat.le_of_ble_eq_true rfl⟩) ⟨fun a U g mk q => ⟨q.1, PX7.blind q.2⟩, va_recv hK hP (ci := 13) (q0 := 0) rfl rfl, fun U hU hW => ⟨rfl, PX7.go hP hK hU hW⟩⟩ rfl rfl hl.1 rfl (lv_room (Nat.le_of_ble_eq_true rfl)) dX7_penalties_2 ⟨Nat.le_of_ble_eq_true rfl, Nat.le_of_ble_eq_true rfl⟩) hS (fun q _ h => hFc q h) hFc (fun r1 u t H1 locs ht hvm hw hB hz1 hk1 hS => ?_)
  rw [ht] at hB
  have hP := hB
  generalize H1 = H at hP hS ⊢
  have hP : va_P D vwCl [(h0, .inr (13, [.ref (r 0), .ref (r 1), .ref (r 2), .ref (r 3), .ref (r 4), .ref (r 5), .ref (r 6), .ref (r 7), .ref (r 8), .ref (r 9), .ref (r 10), .ref (r 11), .ref (r 12), .ref (r 13), .ref (r 14), .ref (r 15), .int 0, .int 0, .int 1, .int 110, .int 0, .int 0, .int 0, .int 0, .int 0, .int 0, .int 0, .int 0, .int 0, .int 0, .int 1]))] H := hP
  have hD : va_D A [(h0, .inr (13, [.ref (r 0), .ref (r 1), .ref (r 2), .ref (r 3), .ref (r 4), .ref (r 5), .ref (r 6), .ref (r 7), .ref (r 8), .ref (r 9), .ref (r 10), .ref (r 11), .ref (r 12), .ref (r 13), .ref (r 14), .ref (r 15), .int 0, .int 0, .int 1, .int 110, .int 0, .int 0, .int 0, .int 0, .int 0, .int 0, .int 0, .int 0, .int 0, .int 0, .int 1]))] := by rw [← hAe]; exact rg1_D
  obtain rfl : r1 = 1 := hw
  refine lv_if_eq (tgt := 12) hx hb dX7_penalties_5 (by decide) (fun c => by first | exact absurd c (by decide) | exact absurd (by decide) c) (fun _ => ?_)
  refine lv_iconst (v := 0) hx hb dX7_penalties_8 (by decide) ?_
  refine lv_goto (tgt := 21) hx hb dX7_penalties_9 (by decide) ?_
  have hP9 := hP
  exact W.iret (v := 0) hx hb hr (fun t ht hW => ⟨⟨0, [.ref (r 0), .ref (r 1), .ref (r 2), .ref (r 3), .ref (r 4), .ref (r 5), .ref (r 6), .ref (r 7), .ref (r 8), .ref (r 9), .ref (r 10), .ref (r 11), .ref (r 12), .ref (r 13), .ref (r 14), .ref (r 15), .int 0, .int 0, .int 1, .int 110, .int 0, .int 0, .int 0, .int 0, .int 0, .int 0, .int 0, .int 0, .int 0, .int 0, .int 1], rfl, rfl, by rw [← ht] at hP9; exact hP9⟩, hS.F ht⟩) hS.2.2 dX7_penalties_21
set_option maxHeartbeats 4000000 in
set_option maxRecDepth 100000 in
theorem c_X7_isOut (l : Launch) (D : va_G) (h0 : Nat) (r : Nat → Nat) (sz : Nat) (a1 : Int32) : Met l yX7_isOut wsX7_isOut ({ frames := 60, cells := 0, slots := 0, locals := 600 }) (va_Pc [.ref h0, .int a1] (PX7 D h0 r 0 sz)) (va_Qi (fun (r9 : Int32) (u : List Value) => u[30]? = some (.int 1)) (fun u t => va_P D vwCl [(h0, .inr (13, u))] t.heap) (rg1 h0 sz)) 0 0 (rg1 h0 sz) := by
  refine Met.ofW (cc := cX7_isOut) (maxL := 2) (ret := (some .boolean)) (by decide +kernel) rfl ?_
  intro p e s m args below meth c s₁ B hml hv
  obtain ⟨rfl, hsz, hP, hK⟩ := hv
  have hx := B.exec
  have hb := B.bytes
  have hr := B.returns
  have hts := atoms_spec (ws := wsX7_isOut) B.pre
  have hown : s.vm.findClass RX7 = some m.cls := findClass_of_methodNamed B.named
  have hlocks := B.notSynchronized
  subst hsz
  have hD : va_D (rg1 h0 s.heap.size) [(h0, .inr (13, [.ref (r 0), .ref (r 1), .ref (r 2), .ref (r 3), .ref (r 4), .ref (r 5), .ref (r 6), .ref (r 7), .ref (r 8), .ref (r 9), .ref (r 10), .ref (r 11), .ref (r 12), .ref (r 13), .ref (r 14), .ref (r 15), .int 0, .int 0, .int 1, .int 110, .int 0, .int 0, .int 0, .int 0, .int 0, .int 0, .int 0, .int 0, .int 0, .int 0, .int 0]))] := rg1_D
  generalize hAe : rg1 h0 s.heap.size = A at hD ⊢
  have hA : ∀ q : Nat, s.heap.size ≤ q → A q := fun q h => by rw [← hAe]; exact Or.inr h
  have hS : va_S A s.heap s.heap [] := va_S.rf
  have hP : va_P D vwCl [(h0, .inr (13, [.ref (r 0), .ref (r 1), .ref (r 2), .ref (r 3), .ref (r 4), .ref (r 5), .ref (r 6), .ref (r 7), .ref (r 8), .ref (r 9), .ref (r 10), .ref (r 11), .ref (r 12), .ref (r 13), .ref (r 14), .ref (r 15), .int 0, .int 0, .int 1, .int 110, .int 0, .int 0, .int 0, .int 0, .int 0, .int 0, .int 0, .int 0, .int 0, .int 0, .int 0]))] s.heap := hP
  have hl := lv_entry ([.ref h0, .int a1]) (n := 2) (Nat.le_of_ble_eq_true rfl)
  rw [lg_entry_eq]
  generalize (lg_sl ([.ref h0, .int a1]) ++ List.replicate (2 - (lg_sl ([.ref h0, .int a1])).length) Slot.unset).toArray = ls at hl ⊢
  have hl : lv_has ls 2 [(0, .ref h0), (1, .int a1)] := hl
  refine lv_aload_n hx hb dX7_isOut_0 rfl (lv_at hl 0 rfl) ?_
  refine lv_aload_n hx hb dX7_isOut_1 rfl (lv_at hl 0 rfl) ?_
  refine lv_iload_n hx hb dX7_isOut_2 rfl (lv_at hl 1 rfl) ?_
  refine va_calli (va_runV (As := [.int a1]) (rest := [.ref h0]) ⟨hx, hb, hml, hown, hts⟩ (c_X7_isNoPlayer l D h0 r 0 s.heap.size a1) (cwV 1 hts gX7_isOut_X7_isNoPlayer rfl rfl rfl (by decide +kernel) ⟨Nat.le_of_ble_eq_true rfl, Nat.le_of_ble_eq_true rfl⟩) ⟨fun a U g mk q => ⟨q.1, PX7.blind q.2⟩, va_recv hK hP (ci := 13) (q0 := 0) rfl rfl, fun U hU hW => ⟨rfl, PX7.go hP hK hU hW⟩⟩ rfl rfl hl.1 rfl (lv_room (Nat.le_of_ble_eq_true rfl)) dX7_isOut_3 ⟨Nat.le_of_ble_eq_true rfl, Nat.le_of_ble_eq_true rfl⟩) hS (fun q h1 h2 => absurd h1 (Nat.not_lt.mpr h2)) (fun q h => hA q (Nat.le_trans hS.1 h)) (fun r1 u t H1 locs ht hvm hw hB hz1 hk1 hS => ?_)
  have hP := va_kept0 hP hk1
  generalize H1 = H at hP hS ⊢
  have hP : va_P D vwCl [(h0, .inr (13, [.ref (r 0), .ref (r 1), .ref (r 2), .ref (r 3), .ref (r 4), .ref (r 5), .ref (r 6), .ref (r 7), .ref (r 8), .ref (r 9), .ref (r 10), .ref (r 11), .ref (r 12), .ref (r 13), .ref (r 14), .ref (r 15), .int 0, .int 0, .int 1, .int 110, .int 0, .int 0, .int 0, .int 0, .int 0, .int 0, .int 0, .int 0, .int 0, .int 0, .int 0]))] H := hP
  obtain rfl : r1 = 1 := hw
  refine lv_iconst (v := 1) hx hb dX7_isOut_6 (by decide) ?_
  have hFc : ∀ q : Nat, rg1 h0 H.size q → A q := fun q h => h.elim (fun e => by rw [e]; exact hD.2 0 _ rfl) (fun h => hA q (Nat.le_trans hS.1 h))
  refine va_calli (va_runV (As := [.int 1, .int 1]) (rest := []) ⟨hx, hb, hml, hown, hts⟩ (c_X7_isThrown l D h0 r 0 H.size 1 1 (Or.inr rfl)) (cwV 2 hts gX7_isOut_X7_isThrown rfl rfl rfl (by decide +kernel) ⟨Nat.le_of_ble_eq_true rfl, Nat.le_of_ble_eq_true rfl⟩) ⟨fun a U g mk q => ⟨q.1, PX7.blind q.2⟩, va_recv hK hP (ci := 13) (q0 := 0) rfl rfl, fun U hU hW => ⟨rfl, PX7.go hP hK hU hW⟩⟩ rfl rfl hl.1 rfl (lv_room (Nat.le_of_ble_eq_true rfl)) dX7_isOut_7 ⟨Nat.le_of_ble_eq_true rfl, Nat.le_of_ble_eq_true rfl⟩) hS (fun q _ h => hFc q h) hFc (fun r2 u t H1 locs ht hvm hw hB hz1 hk1 hS => ?_)
  rw [ht, if_neg (by decide)] at hB
  have hP := hB
  generalize H1 = H at hP hS ⊢
  have hP : va_P D vwCl [(h0, .inr (13, [.ref (r 0), .ref (r 1), .ref (r 2), .ref (r 3), .ref (r 4), .ref (r 5), .ref (r 6), .ref (r 7), .ref (r 8), .ref (r 9), .ref (r 10), .ref (r 11), .ref (r 12), .ref (r 13), .ref (r 14), .ref (r 15), .int 0, .int 0, .int 1, .int 110, .int 0, .int 0, .int 0, .int 0, .int 0, .int 0, .int 0, .int 0, .int 0, .int 0, .int 1]))] H := hP
  have hD : va_D A [(h0, .inr (13, [.ref (r 0), .ref (r 1), .ref (r 2), .ref (r 3), .ref (r 4), .ref (r 5), .ref (r 6), .ref (r 7), .ref (r 8), .ref (r 9), .ref (r 10), .ref (r 11), .ref (r 12), .ref (r 13), .ref (r 14), .ref (r 15), .int 0, .int 0, .int 1, .int 110, .int 0, .int 0, .int 0, .int 0, .int 0, .int 0, .int 0, .int 0, .int 0, .int 0, .int 1]))] := by rw [← hAe]; exact rg1_D
  obtain rfl : r2 = 1 := hw
  refine lv_if_ne (tgt := 26) hx hb dX7_isOut_10 (by decide) (fun _ => ?_) (fun c => by first | exact absurd (by decide) c | exact absurd c (by decide))
  refine lv_iconst (v := 0) hx hb dX7_isOut_26 (by decide) ?_
  have hP9 := hP
  exact W.zret (v := 0) (ty := .boolean) hx hb hr (by decide) (fun t ht hW => ⟨⟨0, [.ref (r 0), .ref (r 1), .ref (r 2), .ref (r 3), .ref (r 4), .ref (r 5), .ref (r 6), .ref (r 7), .ref (r 8), .ref (r 9), .ref (r 10), .ref (r 11), .ref (r 12), .ref (r 13), .ref (r 14), .ref (r 15), .int 0, .int 0, .int 1, .int 110, .int 0, .int 0, .int 0, .int 0, .int 0, .int 0, .int 0, .int 0, .int 0, .int 0, .int 1], rfl, rfl, by rw [← ht] at hP9; exact hP9⟩, hS.F ht⟩) hS.2.2 dX7_isOut_27
set_option maxHeartbeats 4000000 in
set_option maxRecDepth 100000 in
theorem c_X7_score (l : Launch) (D : va_G) (h0 : Nat) (r : Nat → Nat) (sz : Nat) (a1 a2 : Int32) : Met l yX7_score wsX7_score ({ frames := 60, cells := 0, slots := 0, locals := 600 }) (va_Pc [.ref h0, .int a1, .int a2] (PX7 D h0 r 0 sz)) (va_Qi (fun (r9 : Int32) (u : List Value) => u[30]? = some (.int 1)) (fun u t => va_P D vwCl [(h0, .inr (13, u))] t.heap) (rg1 h0 sz)) 0 0 (rg1 h0 sz) := by
  refine Met.ofW (cc := cX7_score) (maxL := 3) (ret := (some .int)) (by decide +kernel) rfl ?_
  intro p e s m args below meth c s₁ B hml hv
  obtain ⟨rfl, hsz, hP, hK⟩ := hv
  have hx := B.exec
  have hb := B.bytes
  have hr := B.returns
  have hts := atoms_spec (ws := wsX7_score) B.pre
  have hown : s.vm.findClass RX7 = some m.cls := findClass_of_methodNamed B.named
  have hlocks := B.notSynchronized
  subst hsz
  have hD : va_D (rg1 h0 s.heap.size) [(h0, .inr (13, [.ref (r 0), .ref (r 1), .ref (r 2), .ref (r 3), .ref (r 4), .ref (r 5), .ref (r 6), .ref (r 7), .ref (r 8), .ref (r 9), .ref (r 10), .ref (r 11), .ref (r 12), .ref (r 13), .ref (r 14), .ref (r 15), .int 0, .int 0, .int 1, .int 110, .int 0, .int 0, .int 0, .int 0, .int 0, .int 0, .int 0, .int 0, .int 0, .int 0, .int 0]))] := rg1_D
  generalize hAe : rg1 h0 s.heap.size = A at hD ⊢
  have hA : ∀ q : Nat, s.heap.size ≤ q → A q := fun q h => by rw [← hAe]; exact Or.inr h
  have hS : va_S A s.heap s.heap [] := va_S.rf
  have hP : va_P D vwCl [(h0, .inr (13, [.ref (r 0), .ref (r 1), .ref (r 2), .ref (r 3), .ref (r 4), .ref (r 5), .ref (r 6), .ref (r 7), .ref (r 8), .ref (r 9), .ref (r 10), .ref (r 11), .ref (r 12), .ref (r 13), .ref (r 14), .ref (r 15), .int 0, .int 0, .int 1, .int 110, .int 0, .int 0, .int 0, .int 0, .int 0, .int 0, .int 0, .int 0, .int 0, .int 0, .int 0]))] s.heap := hP
  have hl := lv_entry ([.ref h0, .int a1, .int a2]) (n := 3) (Nat.le_of_ble_eq_true rfl)
  rw [lg_entry_eq]
  generalize (lg_sl ([.ref h0, .int a1, .int a2]) ++ List.replicate (3 - (lg_sl ([.ref h0, .int a1, .int a2])).length) Slot.unset).toArray = ls at hl ⊢
  have hl : lv_has ls 3 [(0, .ref h0), (1, .int a1), (2, .int a2)] := hl
  refine lv_aload_n hx hb dX7_score_0 rfl (lv_at hl 0 rfl) ?_
  refine lv_aload_n hx hb dX7_score_1 rfl (lv_at hl 0 rfl) ?_
  refine lv_iload_n hx hb dX7_score_2 rfl (lv_at hl 1 rfl) ?_
  refine va_calli (va_runV (As := [.int a1]) (rest := [.ref h0]) ⟨hx, hb, hml, hown, hts⟩ (c_X7_isNoPlayer l D h0 r 0 s.heap.size a1) (cwV 1 hts gX7_score_X7_isNoPlayer rfl rfl rfl (by decide +kernel) ⟨Nat.le_of_ble_eq_true rfl, Nat.le_of_ble_eq_true rfl⟩) ⟨fun a U g mk q => ⟨q.1, PX7.blind q.2⟩, va_recv hK hP (ci := 13) (q0 := 0) rfl rfl, fun U hU hW => ⟨rfl, PX7.go hP hK hU hW⟩⟩ rfl rfl hl.1 rfl (lv_room (Nat.le_of_ble_eq_true rfl)) dX7_score_3 ⟨Nat.le_of_ble_eq_true rfl, Nat.le_of_ble_eq_true rfl⟩) hS (fun q h1 h2 => absurd h1 (Nat.not_lt.mpr h2)) (fun q h => hA q (Nat.le_trans hS.1 h)) (fun r1 u t H1 locs ht hvm hw hB hz1 hk1 hS => ?_)
  have hP := va_kept0 hP hk1
  generalize H1 = H at hP hS ⊢
  have hP : va_P D vwCl [(h0, .inr (13, [.ref (r 0), .ref (r 1), .ref (r 2), .ref (r 3), .ref (r 4), .ref (r 5), .ref (r 6), .ref (r 7), .ref (r 8), .ref (r 9), .ref (r 10), .ref (r 11), .ref (r 12), .ref (r 13), .ref (r 14), .ref (r 15), .int 0, .int 0, .int 1, .int 110, .int 0, .int 0, .int 0, .int 0, .int 0, .int 0, .int 0, .int 0, .int 0, .int 0, .int 0]))] H := hP
  obtain rfl : r1 = 1 := hw
  refine lv_if_ne (tgt := 17) hx hb dX7_score_6 (by decide) (fun _ => ?_) (fun c => by first | exact absurd (by decide) c | exact absurd c (by decide))
  refine lv_iconst (v := 1) hx hb dX7_score_17 (by decide) ?_
  refine lv_goto (tgt := 22) hx hb dX7_score_18 (by decide) ?_
  refine lv_iconst (v := 1) hx hb dX7_score_22 (by decide) ?_
  have hFc : ∀ q : Nat, rg1 h0 H.size q → A q := fun q h => h.elim (fun e => by rw [e]; exact hD.2 0 _ rfl) (fun h => hA q (Nat.le_trans hS.1 h))
  refine va_calli (va_runV (As := [.int 1, .int 1]) (rest := []) ⟨hx, hb, hml, hown, hts⟩ (c_X7_isThrown l D h0 r 0 H.size 1 1 (Or.inr rfl)) (cwV 2 hts gX7_score_X7_isThrown rfl rfl rfl (by decide +kernel) ⟨Nat.le_of_ble_eq_true rfl, Nat.le_of_ble_eq_true rfl⟩) ⟨fun a U g mk q => ⟨q.1, PX7.blind q.2⟩, va_recv hK hP (ci := 13) (q0 := 0) rfl rfl, fun U hU hW => ⟨rfl, PX7.go hP hK hU hW⟩⟩ rfl rfl hl.1 rfl (lv_room (Nat.le_of_ble_eq_true rfl)) dX7_score_23 ⟨Nat.le_of_ble_eq_true rfl, Nat.le_of_ble_eq_true rfl⟩) hS (fun q _ h => hFc q h) hFc (fun r3 u t H1 locs ht hvm hw hB hz1 hk1 hS => ?_)
  rw [ht, if_neg (by decide)] at hB
  have hP := hB
  generalize H1 = H at hP hS ⊢
  have hP : va_P D vwCl [(h0, .inr (13, [.ref (r 0), .ref (r 1), .ref (r 2), .ref (r 3), .ref (r 4), .ref (r 5), .ref (r 6), .ref (r 7), .ref (r 8), .ref (r 9), .ref (r 10), .ref (r 11), .ref (r 12), .ref (r 13), .ref (r 14), .ref (r 15), .int 0, .int 0, .int 1, .int 110, .int 0, .int 0, .int 0, .int 0, .int 0, .int 0, .int 0, .int 0, .int 0, .int 0, .int 1]))] H := hP
  have hD : va_D A [(h0, .inr (13, [.ref (r 0), .ref (r 1), .ref (r 2), .ref (r 3), .ref (r 4), .ref (r 5), .ref (r 6), .ref (r 7), .ref (r 8), .ref (r 9), .ref (r 10), .ref (r 11), .ref (r 12), .ref (r 13), .ref (r 14), .ref (r 15), .int 0, .int 0, .int 1, .int 110, .int 0, .int 0, .int 0, .int 0, .int 0, .int 0, .int 0, .int 0, .int 0, .int 0, .int 1]))] := by rw [← hAe]; exact rg1_D
  obtain rfl : r3 = 1 := hw
  refine lv_if_ne (tgt := 61) hx hb dX7_score_26 (by decide) (fun _ => ?_) (fun c => by first | exact absurd (by decide) c | exact absurd c (by decide))
  refine lv_iconst (v := 0) hx hb dX7_score_61 (by decide) ?_
  refine lv_goto (tgt := 73) hx hb dX7_score_62 (by decide) ?_
  have hP9 := hP
  exact W.iret (v := 0) hx hb hr (fun t ht hW => ⟨⟨0, [.ref (r 0), .ref (r 1), .ref (r 2), .ref (r 3), .ref (r 4), .ref (r 5), .ref (r 6), .ref (r 7), .ref (r 8), .ref (r 9), .ref (r 10), .ref (r 11), .ref (r 12), .ref (r 13), .ref (r 14), .ref (r 15), .int 0, .int 0, .int 1, .int 110, .int 0, .int 0, .int 0, .int 0, .int 0, .int 0, .int 0, .int 0, .int 0, .int 0, .int 1], rfl, rfl, by rw [← ht] at hP9; exact hP9⟩, hS.F ht⟩) hS.2.2 dX7_score_73
set_option maxHeartbeats 4000000 in
set_option maxRecDepth 100000 in
theorem c_X7_up (l : Launch) (D : va_G) (h0 : Nat) (r : Nat → Nat) (sz : Nat) : Met l yX7_up wsX7_up ({ frames := 60, cells := 0, slots := 0, locals := 600 }) (va_Pc [.ref h0] (PX7 D h0 r 0 sz)) (va_Qi (fun (r9 : Int32) (u : List Value) => u[30]? = some (.int 1)) (fun u t => va_P D vwCl [(h0, .inr (13, u))] t.heap) (rg1 h0 sz)) 0 0 (rg1 h0 sz) := by
  refine Met.ofW (cc := cX7_up) (maxL := 1) (ret := (some .int)) (by decide +kernel) rfl ?_
  intro p e s m args below meth c s₁ B hml hv
  obtain ⟨rfl, hsz, hP, hK⟩ := hv
  have hx := B.exec
  have hb := B.bytes
  have hr := B.returns
  have hts := atoms_spec (ws := wsX7_up) B.pre
  have hown : s.vm.findClass RX7 = some m.cls := findClass_of_methodNamed B.named
  have hlocks := B.notSynchronized
  subst hsz
  have hD : va_D (rg1 h0 s.heap.size) [(h0, .inr (13, [.ref (r 0), .ref (r 1), .ref (r 2), .ref (r 3), .ref (r 4), .ref (r 5), .ref (r 6), .ref (r 7), .ref (r 8), .ref (r 9), .ref (r 10), .ref (r 11), .ref (r 12), .ref (r 13), .ref (r 14), .ref (r 15), .int 0, .int 0, .int 1, .int 110, .int 0, .int 0, .int 0, .int 0, .int 0, .int 0, .int 0, .int 0, .int 0, .int 0, .int 0]))] := rg1_D
  generalize hAe : rg1 h0 s.heap.size = A at hD ⊢
  have hA : ∀ q : Nat, s.heap.size ≤ q → A q := fun q h => by rw [← hAe]; exact Or.inr h
  have hS : va_S A s.heap s.heap [] := va_S.rf
  have hP : va_P D vwCl [(h0, .inr (13, [.ref (r 0), .ref (r 1), .ref (r 2), .ref (r 3), .ref (r 4), .ref (r 5), .ref (r 6), .ref (r 7), .ref (r 8), .ref (r 9), .ref (r 10), .ref (r 11), .ref (r 12), .ref (r 13), .ref (r 14), .ref (r 15), .int 0, .int 0, .int 1, .int 110, .int 0, .int 0, .int 0, .int 0, .int 0, .int 0, .int 0, .int 0, .int 0, .int 0, .int 0]))] s.heap := hP
  have hl := lv_entry ([.ref h0]) (n := 1) (Nat.le_of_ble_eq_true rfl)
  rw [lg_entry_eq]
  generalize (lg_sl ([.ref h0]) ++ List.replicate (1 - (lg_sl ([.ref h0])).length) Slot.unset).toArray = ls at hl ⊢
  have hl : lv_has ls 1 [(0, .ref h0)] := hl
  refine lv_aload_n hx hb dX7_up_0 rfl (lv_at hl 0 rfl) ?_
  refine lv_aload_n hx hb dX7_up_1 rfl (lv_at hl 0 rfl) ?_
  refine va_get (D := D) (ci := 13) (v := .int 0) (C := RX7) (T := TX7) (N := 31) hx hb hts (by decide +kernel) hown hK hP 0 rfl rfl 20 (by decide) (hts (.fieldLink RX7 142 "FairwayChanceryModel" "format" "C") (by decide +kernel)) (fun _ h9 => h9) rfl dX7_up_2 ?_
  refine lv_bipush (v := 109) hx hb dX7_up_5 (by decide) ?_
  refine lv_icmp_eq (tgt := 14) hx hb dX7_up_7 (by decide) (fun c => by first | exact absurd c (by decide) | exact absurd (by decide) c) (fun _ => ?_)
  refine lv_iconst (v := 1) hx hb dX7_up_10 (by decide) ?_
  refine lv_goto (tgt := 15) hx hb dX7_up_11 (by decide) ?_
  refine lv_iconst (v := 1) hx hb dX7_up_15 (by decide) ?_
  have hFc : ∀ q : Nat, rg1 h0 s.heap.size q → A q := fun q h => h.elim (fun e => by rw [e]; exact hD.2 0 _ rfl) (fun h => hA q (Nat.le_trans hS.1 h))
  refine va_calli (va_runV (As := [.int 1, .int 1]) (rest := []) ⟨hx, hb, hml, hown, hts⟩ (c_X7_isThrown l D h0 r 0 s.heap.size 1 1 (Or.inr rfl)) (cwV 2 hts gX7_up_X7_isThrown rfl rfl rfl (by decide +kernel) ⟨Nat.le_of_ble_eq_true rfl, Nat.le_of_ble_eq_true rfl⟩) ⟨fun a U g mk q => ⟨q.1, PX7.blind q.2⟩, va_recv hK hP (ci := 13) (q0 := 0) rfl rfl, fun U hU hW => ⟨rfl, PX7.go hP hK hU hW⟩⟩ rfl rfl hl.1 rfl (lv_room (Nat.le_of_ble_eq_true rfl)) dX7_up_16 ⟨Nat.le_of_ble_eq_true rfl, Nat.le_of_ble_eq_true rfl⟩) hS (fun q _ h => hFc q h) hFc (fun r2 u t H1 locs ht hvm hw hB hz1 hk1 hS => ?_)
  rw [ht, if_neg (by decide)] at hB
  have hP := hB
  generalize H1 = H at hP hS ⊢
  have hP : va_P D vwCl [(h0, .inr (13, [.ref (r 0), .ref (r 1), .ref (r 2), .ref (r 3), .ref (r 4), .ref (r 5), .ref (r 6), .ref (r 7), .ref (r 8), .ref (r 9), .ref (r 10), .ref (r 11), .ref (r 12), .ref (r 13), .ref (r 14), .ref (r 15), .int 0, .int 0, .int 1, .int 110, .int 0, .int 0, .int 0, .int 0, .int 0, .int 0, .int 0, .int 0, .int 0, .int 0, .int 1]))] H := hP
  have hD : va_D A [(h0, .inr (13, [.ref (r 0), .ref (r 1), .ref (r 2), .ref (r 3), .ref (r 4), .ref (r 5), .ref (r 6), .ref (r 7), .ref (r 8), .ref (r 9), .ref (r 10), .ref (r 11), .ref (r 12), .ref (r 13), .ref (r 14), .ref (r 15), .int 0, .int 0, .int 1, .int 110, .int 0, .int 0, .int 0, .int 0, .int 0, .int 0, .int 0, .int 0, .int 0, .int 0, .int 1]))] := by rw [← hAe]; exact rg1_D
  obtain rfl : r2 = 1 := hw
  refine lv_if_eq (tgt := 26) hx hb dX7_up_19 (by decide) (fun c => by first | exact absurd c (by decide) | exact absurd (by decide) c) (fun _ => ?_)
  refine lv_iconst (v := 0) hx hb dX7_up_22 (by decide) ?_
  refine lv_goto (tgt := 30) hx hb dX7_up_23 (by decide) ?_
  have hP9 := hP
  exact W.iret (v := 0) hx hb hr (fun t ht hW => ⟨⟨0, [.ref (r 0), .ref (r 1), .ref (r 2), .ref (r 3), .ref (r 4), .ref (r 5), .ref (r 6), .ref (r 7), .ref (r 8), .ref (r 9), .ref (r 10), .ref (r 11), .ref (r 12), .ref (r 13), .ref (r 14), .ref (r 15), .int 0, .int 0, .int 1, .int 110, .int 0, .int 0, .int 0, .int 0, .int 0, .int 0, .int 0, .int 0, .int 0, .int 0, .int 1], rfl, rfl, by rw [← ht] at hP9; exact hP9⟩, hS.F ht⟩) hS.2.2 dX7_up_30
set_option maxHeartbeats 4000000 in
set_option maxRecDepth 100000 in
theorem c_X7_isMatchOver (l : Launch) (D : va_G) (h0 : Nat) (r : Nat → Nat) (sz : Nat) : Met l yX7_isMatchOver wsX7_isMatchOver ({ frames := 60, cells := 0, slots := 0, locals := 600 }) (va_Pc [.ref h0] (PX7 D h0 r 0 sz)) (va_Qi (fun (r9 : Int32) (u : List Value) => u[30]? = some (.int 1)) (fun u t => va_P D vwCl [(h0, .inr (13, u))] t.heap) (rg1 h0 sz)) 0 0 (rg1 h0 sz) := by
  refine Met.ofW (cc := cX7_isMatchOver) (maxL := 2) (ret := (some .boolean)) (by decide +kernel) rfl ?_
  intro p e s m args below meth c s₁ B hml hv
  obtain ⟨rfl, hsz, hP, hK⟩ := hv
  have hx := B.exec
  have hb := B.bytes
  have hr := B.returns
  have hts := atoms_spec (ws := wsX7_isMatchOver) B.pre
  have hown : s.vm.findClass RX7 = some m.cls := findClass_of_methodNamed B.named
  have hlocks := B.notSynchronized
  subst hsz
  have hD : va_D (rg1 h0 s.heap.size) [(h0, .inr (13, [.ref (r 0), .ref (r 1), .ref (r 2), .ref (r 3), .ref (r 4), .ref (r 5), .ref (r 6), .ref (r 7), .ref (r 8), .ref (r 9), .ref (r 10), .ref (r 11), .ref (r 12), .ref (r 13), .ref (r 14), .ref (r 15), .int 0, .int 0, .int 1, .int 110, .int 0, .int 0, .int 0, .int 0, .int 0, .int 0, .int 0, .int 0, .int 0, .int 0, .int 0]))] := rg1_D
  generalize hAe : rg1 h0 s.heap.size = A at hD ⊢
  have hA : ∀ q : Nat, s.heap.size ≤ q → A q := fun q h => by rw [← hAe]; exact Or.inr h
  have hS : va_S A s.heap s.heap [] := va_S.rf
  have hP : va_P D vwCl [(h0, .inr (13, [.ref (r 0), .ref (r 1), .ref (r 2), .ref (r 3), .ref (r 4), .ref (r 5), .ref (r 6), .ref (r 7), .ref (r 8), .ref (r 9), .ref (r 10), .ref (r 11), .ref (r 12), .ref (r 13), .ref (r 14), .ref (r 15), .int 0, .int 0, .int 1, .int 110, .int 0, .int 0, .int 0, .int 0, .int 0, .int 0, .int 0, .int 0, .int 0, .int 0, .int 0]))] s.heap := hP
  have hl := lv_entry ([.ref h0]) (n := 2) (Nat.le_of_ble_eq_true rfl)
  rw [lg_entry_eq]
  generalize (lg_sl ([.ref h0]) ++ List.replicate (2 - (lg_sl ([.ref h0])).length) Slot.unset).toArray = ls at hl ⊢
  have hl : lv_has ls 2 [(0, .ref h0)] := hl
  refine lv_aload_n hx hb dX7_isMatchOver_0 rfl (lv_at hl 0 rfl) ?_
  refine lv_aload_n hx hb dX7_isMatchOver_1 rfl (lv_at hl 0 rfl) ?_
  refine va_get (D := D) (ci := 13) (v := .int 0) (C := RX7) (T := TX7) (N := 31) hx hb hts (by decide +kernel) hown hK hP 0 rfl rfl 20 (by decide) (hts (.fieldLink RX7 142 "FairwayChanceryModel" "format" "C") (by decide +kernel)) (fun _ h9 => h9) rfl dX7_isMatchOver_2 ?_
  refine lv_bipush (v := 109) hx hb dX7_isMatchOver_5 (by decide) ?_
  refine lv_icmp_eq (tgt := 14) hx hb dX7_isMatchOver_7 (by decide) (fun c => by first | exact absurd c (by decide) | exact absurd (by decide) c) (fun _ => ?_)
  refine lv_iconst (v := 1) hx hb dX7_isMatchOver_10 (by decide) ?_
  refine lv_goto (tgt := 15) hx hb dX7_isMatchOver_11 (by decide) ?_
  refine lv_iconst (v := 1) hx hb dX7_isMatchOver_15 (by decide) ?_
  have hFc : ∀ q : Nat, rg1 h0 s.heap.size q → A q := fun q h => h.elim (fun e => by rw [e]; exact hD.2 0 _ rfl) (fun h => hA q (Nat.le_trans hS.1 h))
  refine va_calli (va_runV (As := [.int 1, .int 1]) (rest := []) ⟨hx, hb, hml, hown, hts⟩ (c_X7_isThrown l D h0 r 0 s.heap.size 1 1 (Or.inr rfl)) (cwV 2 hts gX7_isMatchOver_X7_isThrown rfl rfl rfl (by decide +kernel) ⟨Nat.le_of_ble_eq_true rfl, Nat.le_of_ble_eq_true rfl⟩) ⟨fun a U g mk q => ⟨q.1, PX7.blind q.2⟩, va_recv hK hP (ci := 13) (q0 := 0) rfl rfl, fun U hU hW => ⟨rfl, PX7.go hP hK hU hW⟩⟩ rfl rfl hl.1 rfl (lv_room (Nat.le_of_ble_eq_true rfl)) dX7_isMatchOver_16 ⟨Nat.le_of_ble_eq_true rfl, Nat.le_of_ble_eq_true rfl⟩) hS (fun q _ h => hFc q h) hFc (fun r2 u t H1 locs ht hvm hw hB hz1 hk1 hS => ?_)
  rw [ht, if_neg (by decide)] at hB
  have hP := hB
  generalize H1 = H at hP hS ⊢
  have hP : va_P D vwCl [(h0, .inr (13, [.ref (r 0), .ref (r 1), .ref (r 2), .ref (r 3), .ref (r 4), .ref (r 5), .ref (r 6), .ref (r 7), .ref (r 8), .ref (r 9), .ref (r 10), .ref (r 11), .ref (r 12), .ref (r 13), .ref (r 14), .ref (r 15), .int 0, .int 0, .int 1, .int 110, .int 0, .int 0, .int 0, .int 0, .int 0, .int 0, .int 0, .int 0, .int 0, .int 0, .int 1]))] H := hP
  have hD : va_D A [(h0, .inr (13, [.ref (r 0), .ref (r 1), .ref (r 2), .ref (r 3), .ref (r 4), .ref (r 5), .ref (r 6), .ref (r 7), .ref (r 8), .ref (r 9), .ref (r 10), .ref (r 11), .ref (r 12), .ref (r 13), .ref (r 14), .ref (r 15), .int 0, .int 0, .int 1, .int 110, .int 0, .int 0, .int 0, .int 0, .int 0, .int 0, .int 0, .int 0, .int 0, .int 0, .int 1]))] := by rw [← hAe]; exact rg1_D
  obtain rfl : r2 = 1 := hw
  refine lv_if_eq (tgt := 24) hx hb dX7_isMatchOver_19 (by decide) (fun c => by first | exact absurd c (by decide) | exact absurd (by decide) c) (fun _ => ?_)
  refine lv_iconst (v := 0) hx hb dX7_isMatchOver_22 (by decide) ?_
  have hP9 := hP
  exact W.zret (v := 0) (ty := .boolean) hx hb hr (by decide) (fun t ht hW => ⟨⟨0, [.ref (r 0), .ref (r 1), .ref (r 2), .ref (r 3), .ref (r 4), .ref (r 5), .ref (r 6), .ref (r 7), .ref (r 8), .ref (r 9), .ref (r 10), .ref (r 11), .ref (r 12), .ref (r 13), .ref (r 14), .ref (r 15), .int 0, .int 0, .int 1, .int 110, .int 0, .int 0, .int 0, .int 0, .int 0, .int 0, .int 0, .int 0, .int 0, .int 0, .int 1], rfl, rfl, by rw [← ht] at hP9; exact hP9⟩, hS.F ht⟩) hS.2.2 dX7_isMatchOver_23
set_option maxHeartbeats 4000000 in
set_option maxRecDepth 100000 in
theorem c_X7_write (l : Launch) (D : va_G) (h0 : Nat) (r : Nat → Nat) (sz : Nat) (a1 a2 a3 : Int32) : Met l yX7_write wsX7_write ({ frames := 60, cells := 0, slots := 0, locals := 600 }) (va_Pc [.ref h0, .int a1, .int a2, .int a3] (PX7 D h0 r 0 sz)) (va_Qi (fun (r9 : Int32) (u : List Value) => u[30]? = some (.int 1)) (fun u t => va_P D vwCl [(h0, .inr (13, u))] t.heap) (rg1 h0 sz)) 0 0 (rg1 h0 sz) := by
  refine Met.ofW (cc := cX7_write) (maxL := 5) (ret := (some .int)) (by decide +kernel) rfl ?_
  intro p e s m args below meth c s₁ B hml hv
  obtain ⟨rfl, hsz, hP, hK⟩ := hv
  have hx := B.exec
  have hb := B.bytes
  have hr := B.returns
  have hts := atoms_spec (ws := wsX7_write) B.pre
  have hown : s.vm.findClass RX7 = some m.cls := findClass_of_methodNamed B.named
  have hlocks := B.notSynchronized
  subst hsz
  have hD : va_D (rg1 h0 s.heap.size) [(h0, .inr (13, [.ref (r 0), .ref (r 1), .ref (r 2), .ref (r 3), .ref (r 4), .ref (r 5), .ref (r 6), .ref (r 7), .ref (r 8), .ref (r 9), .ref (r 10), .ref (r 11), .ref (r 12), .ref (r 13), .ref (r 14), .ref (r 15), .int 0, .int 0, .int 1, .int 110, .int 0, .int 0, .int 0, .int 0, .int 0, .int 0, .int 0, .int 0, .int 0, .int 0, .int 0]))] := rg1_D
  generalize hAe : rg1 h0 s.heap.size = A at hD ⊢
  have hA : ∀ q : Nat, s.heap.size ≤ q → A q := fun q h => by rw [← hAe]; exact Or.inr h
  have hS : va_S A s.heap s.heap [] := va_S.rf
  have hP : va_P D vwCl [(h0, .inr (13, [.ref (r 0), .ref (r 1), .ref (r 2), .ref (r 3), .ref (r 4), .ref (r 5), .ref (r 6), .ref (r 7), .ref (r 8), .ref (r 9), .ref (r 10), .ref (r 11), .ref (r 12), .ref (r 13), .ref (r 14), .ref (r 15), .int 0, .int 0, .int 1, .int 110, .int 0, .int 0, .int 0, .int 0, .int 0, .int 0, .int 0, .int 0, .int 0, .int 0, .int 0]))] s.heap := hP
  have hl := lv_entry ([.ref h0, .int a1, .int a2, .int a3]) (n := 5) (Nat.le_of_ble_eq_true rfl)
  rw [lg_entry_eq]
  generalize (lg_sl ([.ref h0, .int a1, .int a2, .int a3]) ++ List.replicate (5 - (lg_sl ([.ref h0, .int a1, .int a2, .int a3])).length) Slot.unset).toArray = ls at hl ⊢
  have hl : lv_has ls 5 [(0, .ref h0), (1, .int a1), (2, .int a2), (3, .int a3)] := hl
  refine lv_aload_n hx hb dX7_write_0 rfl (lv_at hl 0 rfl) ?_
  refine lv_aload_n hx hb dX7_write_1 rfl (lv_at hl 0 rfl) ?_
  refine lv_iload_n hx hb dX7_write_2 rfl (lv_at hl 1 rfl) ?_
  refine va_calli (va_runV (As := [.int a1]) (rest := [.ref h0]) ⟨hx, hb, hml, hown, hts⟩ (c_X7_isNoPlayer l D h0 r 0 s.heap.size a1) (cwV 1 hts gX7_write_X7_isNoPlayer rfl rfl rfl (by decide +kernel) ⟨Nat.le_of_ble_eq_true rfl, Nat.le_of_ble_eq_true rfl⟩) ⟨fun a U g mk q => ⟨q.1, PX7.blind q.2⟩, va_recv hK hP (ci := 13) (q0 := 0) rfl rfl, fun U hU hW => ⟨rfl, PX7.go hP hK hU hW⟩⟩ rfl rfl hl.1 rfl (lv_room (Nat.le_of_ble_eq_true rfl)) dX7_write_3 ⟨Nat.le_of_ble_eq_true rfl, Nat.le_of_ble_eq_true rfl⟩) hS (fun q h1 h2 => absurd h1 (Nat.not_lt.mpr h2)) (fun q h => hA q (Nat.le_trans hS.1 h)) (fun r1 u t H1 locs ht hvm hw hB hz1 hk1 hS => ?_)
  have hP := va_kept0 hP hk1
  generalize H1 = H at hP hS ⊢
  have hP : va_P D vwCl [(h0, .inr (13, [.ref (r 0), .ref (r 1), .ref (r 2), .ref (r 3), .ref (r 4), .ref (r 5), .ref (r 6), .ref (r 7), .ref (r 8), .ref (r 9), .ref (r 10), .ref (r 11), .ref (r 12), .ref (r 13), .ref (r 14), .ref (r 15), .int 0, .int 0, .int 1, .int 110, .int 0, .int 0, .int 0, .int 0, .int 0, .int 0, .int 0, .int 0, .int 0, .int 0, .int 0]))] H := hP
  obtain rfl : r1 = 1 := hw
  refine lv_if_ne (tgt := 17) hx hb dX7_write_6 (by decide) (fun _ => ?_) (fun c => by first | exact absurd (by decide) c | exact absurd c (by decide))
  refine lv_iconst (v := 1) hx hb dX7_write_17 (by decide) ?_
  refine lv_goto (tgt := 22) hx hb dX7_write_18 (by decide) ?_
  refine lv_iconst (v := 1) hx hb dX7_write_22 (by decide) ?_
  have hFc : ∀ q : Nat, rg1 h0 H.size q → A q := fun q h => h.elim (fun e => by rw [e]; exact hD.2 0 _ rfl) (fun h => hA q (Nat.le_trans hS.1 h))
  refine va_calli (va_runV (As := [.int 1, .int 1]) (rest := []) ⟨hx, hb, hml, hown, hts⟩ (c_X7_isThrown l D h0 r 0 H.size 1 1 (Or.inr rfl)) (cwV 2 hts gX7_write_X7_isThrown rfl rfl rfl (by decide +kernel) ⟨Nat.le_of_ble_eq_true rfl, Nat.le_of_ble_eq_true rfl⟩) ⟨fun a U g mk q => ⟨q.1, PX7.blind q.2⟩, va_recv hK hP (ci := 13) (q0 := 0) rfl rfl, fun U hU hW => ⟨rfl, PX7.go hP hK hU hW⟩⟩ rfl rfl hl.1 rfl (lv_room (Nat.le_of_ble_eq_true rfl)) dX7_write_23 ⟨Nat.le_of_ble_eq_true rfl, Nat.le_of_ble_eq_true rfl⟩) hS (fun q _ h => hFc q h) hFc (fun r3 u t H1 locs ht hvm hw hB hz1 hk1 hS => ?_)
  rw [ht, if_neg (by decide)] at hB
  have hP := hB
  generalize H1 = H at hP hS ⊢
  have hP : va_P D vwCl [(h0, .inr (13, [.ref (r 0), .ref (r 1), .ref (r 2), .ref (r 3), .ref (r 4), .ref (r 5), .ref (r 6), .ref (r 7), .ref (r 8), .ref (r 9), .ref (r 10), .ref (r 11), .ref (r 12), .ref (r 13), .ref (r 14), .ref (r 15), .int 0, .int 0, .int 1, .int 110, .int 0, .int 0, .int 0, .int 0, .int 0, .int 0, .int 0, .int 0, .int 0, .int 0, .int 1]))] H := hP
  have hD : va_D A [(h0, .inr (13, [.ref (r 0), .ref (r 1), .ref (r 2), .ref (r 3), .ref (r 4), .ref (r 5), .ref (r 6), .ref (r 7), .ref (r 8), .ref (r 9), .ref (r 10), .ref (r 11), .ref (r 12), .ref (r 13), .ref (r 14), .ref (r 15), .int 0, .int 0, .int 1, .int 110, .int 0, .int 0, .int 0, .int 0, .int 0, .int 0, .int 0, .int 0, .int 0, .int 0, .int 1]))] := by rw [← hAe]; exact rg1_D
  obtain rfl : r3 = 1 := hw
  refine lv_if_ne (tgt := 81) hx hb dX7_write_26 (by decide) (fun _ => ?_) (fun c => by first | exact absurd (by decide) c | exact absurd c (by decide))
  refine lv_iconst (v := 0) hx hb dX7_write_81 (by decide) ?_
  have hP9 := hP
  exact W.iret (v := 0) hx hb hr (fun t ht hW => ⟨⟨0, [.ref (r 0), .ref (r 1), .ref (r 2), .ref (r 3), .ref (r 4), .ref (r 5), .ref (r 6), .ref (r 7), .ref (r 8), .ref (r 9), .ref (r 10), .ref (r 11), .ref (r 12), .ref (r 13), .ref (r 14), .ref (r 15), .int 0, .int 0, .int 1, .int 110, .int 0, .int 0, .int 0, .int 0, .int 0, .int 0, .int 0, .int 0, .int 0, .int 0, .int 1], rfl, rfl, by rw [← ht] at hP9; exact hP9⟩, hS.F ht⟩) hS.2.2 dX7_write_82
set_option maxHeartbeats 4000000 in
set_option maxRecDepth 100000 in
theorem c_X7_sign (l : Launch) (D : va_G) (h0 : Nat) (r : Nat → Nat) (sz : Nat) (a1 : Int32) : Met l yX7_sign wsX7_sign ({ frames := 60, cells := 0, slots := 0, locals := 600 }) (va_Pc [.ref h0, .int a1] (PX7 D h0 r 0 sz)) (va_Qi (fun (r9 : Int32) (u : List Value) => u[30]? = some (.int 1)) (fun u t => va_P D vwCl [(h0, .inr (13, u))] t.heap) (rg1 h0 sz)) 0 0 (rg1 h0 sz) := by
  refine Met.ofW (cc := cX7_sign) (maxL := 5) (ret := (some .boolean)) (by decide +kernel) rfl ?_
  intro p e s m args below meth c s₁ B hml hv
  obtain ⟨rfl, hsz, hP, hK⟩ := hv
  have hx := B.exec
  have hb := B.bytes
  have hr := B.returns
  have hts := atoms_spec (ws := wsX7_sign) B.pre
  have hown : s.vm.findClass RX7 = some m.cls := findClass_of_methodNamed B.named
  have hlocks := B.notSynchronized
  subst hsz
  have hD : va_D (rg1 h0 s.heap.size) [(h0, .inr (13, [.ref (r 0), .ref (r 1), .ref (r 2), .ref (r 3), .ref (r 4), .ref (r 5), .ref (r 6), .ref (r 7), .ref (r 8), .ref (r 9), .ref (r 10), .ref (r 11), .ref (r 12), .ref (r 13), .ref (r 14), .ref (r 15), .int 0, .int 0, .int 1, .int 110, .int 0, .int 0, .int 0, .int 0, .int 0, .int 0, .int 0, .int 0, .int 0, .int 0, .int 0]))] := rg1_D
  generalize hAe : rg1 h0 s.heap.size = A at hD ⊢
  have hA : ∀ q : Nat, s.heap.size ≤ q → A q := fun q h => by rw [← hAe]; exact Or.inr h
  have hS : va_S A s.heap s.heap [] := va_S.rf
  have hP : va_P D vwCl [(h0, .inr (13, [.ref (r 0), .ref (r 1), .ref (r 2), .ref (r 3), .ref (r 4), .ref (r 5), .ref (r 6), .ref (r 7), .ref (r 8), .ref (r 9), .ref (r 10), .ref (r 11), .ref (r 12), .ref (r 13), .ref (r 14), .ref (r 15), .int 0, .int 0, .int 1, .int 110, .int 0, .int 0, .int 0, .int 0, .int 0, .int 0, .int 0, .int 0, .int 0, .int 0, .int 0]))] s.heap := hP
  have hl := lv_entry ([.ref h0, .int a1]) (n := 5) (Nat.le_of_ble_eq_true rfl)
  rw [lg_entry_eq]
  generalize (lg_sl ([.ref h0, .int a1]) ++ List.replicate (5 - (lg_sl ([.ref h0, .int a1])).length) Slot.unset).toArray = ls at hl ⊢
  have hl : lv_has ls 5 [(0, .ref h0), (1, .int a1)] := hl
  refine lv_aload_n hx hb dX7_sign_0 rfl (lv_at hl 0 rfl) ?_
  refine lv_aload_n hx hb dX7_sign_1 rfl (lv_at hl 0 rfl) ?_
  refine lv_iload_n hx hb dX7_sign_2 rfl (lv_at hl 1 rfl) ?_
  refine va_calli (va_runV (As := [.int a1]) (rest := [.ref h0]) ⟨hx, hb, hml, hown, hts⟩ (c_X7_isNoPlayer l D h0 r 0 s.heap.size a1) (cwV 1 hts gX7_sign_X7_isNoPlayer rfl rfl rfl (by decide +kernel) ⟨Nat.le_of_ble_eq_true rfl, Nat.le_of_ble_eq_true rfl⟩) ⟨fun a U g mk q => ⟨q.1, PX7.blind q.2⟩, va_recv hK hP (ci := 13) (q0 := 0) rfl rfl, fun U hU hW => ⟨rfl, PX7.go hP hK hU hW⟩⟩ rfl rfl hl.1 rfl (lv_room (Nat.le_of_ble_eq_true rfl)) dX7_sign_3 ⟨Nat.le_of_ble_eq_true rfl, Nat.le_of_ble_eq_true rfl⟩) hS (fun q h1 h2 => absurd h1 (Nat.not_lt.mpr h2)) (fun q h => hA q (Nat.le_trans hS.1 h)) (fun r1 u t H1 locs ht hvm hw hB hz1 hk1 hS => ?_)
  have hP := va_kept0 hP hk1
  generalize H1 = H at hP hS ⊢
  have hP : va_P D vwCl [(h0, .inr (13, [.ref (r 0), .ref (r 1), .ref (r 2), .ref (r 3), .ref (r 4), .ref (r 5), .ref (r 6), .ref (r 7), .ref (r 8), .ref (r 9), .ref (r 10), .ref (r 11), .ref (r 12), .ref (r 13), .ref (r 14), .ref (r 15), .int 0, .int 0, .int 1, .int 110, .int 0, .int 0, .int 0, .int 0, .int 0, .int 0, .int 0, .int 0, .int 0, .int 0, .int 0]))] H := hP
  obtain rfl : r1 = 1 := hw
  refine lv_iconst (v := 1) hx hb dX7_sign_6 (by decide) ?_
  have hFc : ∀ q : Nat, rg1 h0 H.size q → A q := fun q h => h.elim (fun e => by rw [e]; exact hD.2 0 _ rfl) (fun h => hA q (Nat.le_trans hS.1 h))
  refine va_calli (va_runV (As := [.int 1, .int 1]) (rest := []) ⟨hx, hb, hml, hown, hts⟩ (c_X7_isThrown l D h0 r 0 H.size 1 1 (Or.inr rfl)) (cwV 2 hts gX7_sign_X7_isThrown rfl rfl rfl (by decide +kernel) ⟨Nat.le_of_ble_eq_true rfl, Nat.le_of_ble_eq_true rfl⟩) ⟨fun a U g mk q => ⟨q.1, PX7.blind q.2⟩, va_recv hK hP (ci := 13) (q0 := 0) rfl rfl, fun U hU hW => ⟨rfl, PX7.go hP hK hU hW⟩⟩ rfl rfl hl.1 rfl (lv_room (Nat.le_of_ble_eq_true rfl)) dX7_sign_7 ⟨Nat.le_of_ble_eq_true rfl, Nat.le_of_ble_eq_true rfl⟩) hS (fun q _ h => hFc q h) hFc (fun r2 u t H1 locs ht hvm hw hB hz1 hk1 hS => ?_)
  rw [ht, if_neg (by decide)] at hB
  have hP := hB
  generalize H1 = H at hP hS ⊢
  have hP : va_P D vwCl [(h0, .inr (13, [.ref (r 0), .ref (r 1), .ref (r 2), .ref (r 3), .ref (r 4), .ref (r 5), .ref (r 6), .ref (r 7), .ref (r 8), .ref (r 9), .ref (r 10), .ref (r 11), .ref (r 12), .ref (r 13), .ref (r 14), .ref (r 15), .int 0, .int 0, .int 1, .int 110, .int 0, .int 0, .int 0, .int 0, .int 0, .int 0, .int 0, .int 0, .int 0, .int 0, .int 1]))] H := hP
  have hD : va_D A [(h0, .inr (13, [.ref (r 0), .ref (r 1), .ref (r 2), .ref (r 3), .ref (r 4), .ref (r 5), .ref (r 6), .ref (r 7), .ref (r 8), .ref (r 9), .ref (r 10), .ref (r 11), .ref (r 12), .ref (r 13), .ref (r 14), .ref (r 15), .int 0, .int 0, .int 1, .int 110, .int 0, .int 0, .int 0, .int 0, .int 0, .int 0, .int 0, .int 0, .int 0, .int 0, .int 1]))] := by rw [← hAe]; exact rg1_D
  obtain rfl : r2 = 1 := hw
  refine lv_if_ne (tgt := 51) hx hb dX7_sign_10 (by decide) (fun _ => ?_) (fun c => by first | exact absurd (by decide) c | exact absurd c (by decide))
  refine lv_iconst (v := 0) hx hb dX7_sign_51 (by decide) ?_
  have hP9 := hP
  exact W.zret (v := 0) (ty := .boolean) hx hb hr (by decide) (fun t ht hW => ⟨⟨0, [.ref (r 0), .ref (r 1), .ref (r 2), .ref (r 3), .ref (r 4), .ref (r 5), .ref (r 6), .ref (r 7), .ref (r 8), .ref (r 9), .ref (r 10), .ref (r 11), .ref (r 12), .ref (r 13), .ref (r 14), .ref (r 15), .int 0, .int 0, .int 1, .int 110, .int 0, .int 0, .int 0, .int 0, .int 0, .int 0, .int 0, .int 0, .int 0, .int 0, .int 1], rfl, rfl, by rw [← ht] at hP9; exact hP9⟩, hS.F ht⟩) hS.2.2 dX7_sign_52
set_option maxHeartbeats 4000000 in
set_option maxRecDepth 100000 in
theorem c_X7_total (l : Launch) (D : va_G) (h0 : Nat) (r : Nat → Nat) (sz : Nat) (a1 : Int32) : Met l yX7_total wsX7_total ({ frames := 60, cells := 0, slots := 0, locals := 600 }) (va_Pc [.ref h0, .int a1] (PX7 D h0 r 0 sz)) (va_Qi (fun (r9 : Int32) (u : List Value) => u[30]? = some (.int 1)) (fun u t => va_P D vwCl [(h0, .inr (13, u))] t.heap) (rg1 h0 sz)) 0 0 (rg1 h0 sz) := by
  refine Met.ofW (cc := cX7_total) (maxL := 2) (ret := (some .int)) (by decide +kernel) rfl ?_
  intro p e s m args below meth c s₁ B hml hv
  obtain ⟨rfl, hsz, hP, hK⟩ := hv
  have hx := B.exec
  have hb := B.bytes
  have hr := B.returns
  have hts := atoms_spec (ws := wsX7_total) B.pre
  have hown : s.vm.findClass RX7 = some m.cls := findClass_of_methodNamed B.named
  have hlocks := B.notSynchronized
  subst hsz
  have hD : va_D (rg1 h0 s.heap.size) [(h0, .inr (13, [.ref (r 0), .ref (r 1), .ref (r 2), .ref (r 3), .ref (r 4), .ref (r 5), .ref (r 6), .ref (r 7), .ref (r 8), .ref (r 9), .ref (r 10), .ref (r 11), .ref (r 12), .ref (r 13), .ref (r 14), .ref (r 15), .int 0, .int 0, .int 1, .int 110, .int 0, .int 0, .int 0, .int 0, .int 0, .int 0, .int 0, .int 0, .int 0, .int 0, .int 0]))] := rg1_D
  generalize hAe : rg1 h0 s.heap.size = A at hD ⊢
  have hA : ∀ q : Nat, s.heap.size ≤ q → A q := fun q h => by rw [← hAe]; exact Or.inr h
  have hS : va_S A s.heap s.heap [] := va_S.rf
  have hP : va_P D vwCl [(h0, .inr (13, [.ref (r 0), .ref (r 1), .ref (r 2), .ref (r 3), .ref (r 4), .ref (r 5), .ref (r 6), .ref (r 7), .ref (r 8), .ref (r 9), .ref (r 10), .ref (r 11), .ref (r 12), .ref (r 13), .ref (r 14), .ref (r 15), .int 0, .int 0, .int 1, .int 110, .int 0, .int 0, .int 0, .int 0, .int 0, .int 0, .int 0, .int 0, .int 0, .int 0, .int 0]))] s.heap := hP
  have hl := lv_entry ([.ref h0, .int a1]) (n := 2) (Nat.le_of_ble_eq_true rfl)
  rw [lg_entry_eq]
  generalize (lg_sl ([.ref h0, .int a1]) ++ List.replicate (2 - (lg_sl ([.ref h0, .int a1])).length) Slot.unset).toArray = ls at hl ⊢
  have hl : lv_has ls 2 [(0, .ref h0), (1, .int a1)] := hl
  refine lv_aload_n hx hb dX7_total_0 rfl (lv_at hl 0 rfl) ?_
  refine lv_aload_n hx hb dX7_total_1 rfl (lv_at hl 0 rfl) ?_
  refine lv_iload_n hx hb dX7_total_2 rfl (lv_at hl 1 rfl) ?_
  refine va_calli (va_runV (As := [.int a1]) (rest := [.ref h0]) ⟨hx, hb, hml, hown, hts⟩ (c_X7_isNoPlayer l D h0 r 0 s.heap.size a1) (cwV 1 hts gX7_total_X7_isNoPlayer rfl rfl rfl (by decide +kernel) ⟨Nat.le_of_ble_eq_true rfl, Nat.le_of_ble_eq_true rfl⟩) ⟨fun a U g mk q => ⟨q.1, PX7.blind q.2⟩, va_recv hK hP (ci := 13) (q0 := 0) rfl rfl, fun U hU hW => ⟨rfl, PX7.go hP hK hU hW⟩⟩ rfl rfl hl.1 rfl (lv_room (Nat.le_of_ble_eq_true rfl)) dX7_total_3 ⟨Nat.le_of_ble_eq_true rfl, Nat.le_of_ble_eq_true rfl⟩) hS (fun q h1 h2 => absurd h1 (Nat.not_lt.mpr h2)) (fun q h => hA q (Nat.le_trans hS.1 h)) (fun r1 u t H1 locs ht hvm hw hB hz1 hk1 hS => ?_)
  have hP := va_kept0 hP hk1
  generalize H1 = H at hP hS ⊢
  have hP : va_P D vwCl [(h0, .inr (13, [.ref (r 0), .ref (r 1), .ref (r 2), .ref (r 3), .ref (r 4), .ref (r 5), .ref (r 6), .ref (r 7), .ref (r 8), .ref (r 9), .ref (r 10), .ref (r 11), .ref (r 12), .ref (r 13), .ref (r 14), .ref (r 15), .int 0, .int 0, .int 1, .int 110, .int 0, .int 0, .int 0, .int 0, .int 0, .int 0, .int 0, .int 0, .int 0, .int 0, .int 0]))] H := hP
  obtain rfl : r1 = 1 := hw
  refine lv_iconst (v := 1) hx hb dX7_total_6 (by decide) ?_
  have hFc : ∀ q : Nat, rg1 h0 H.size q → A q := fun q h => h.elim (fun e => by rw [e]; exact hD.2 0 _ rfl) (fun h => hA q (Nat.le_trans hS.1 h))
  refine va_calli (va_runV (As := [.int 1, .int 1]) (rest := []) ⟨hx, hb, hml, hown, hts⟩ (c_X7_isThrown l D h0 r 0 H.size 1 1 (Or.inr rfl)) (cwV 2 hts gX7_total_X7_isThrown rfl rfl rfl (by decide +kernel) ⟨Nat.le_of_ble_eq_true rfl, Nat.le_of_ble_eq_true rfl⟩) ⟨fun a U g mk q => ⟨q.1, PX7.blind q.2⟩, va_recv hK hP (ci := 13) (q0 := 0) rfl rfl, fun U hU hW => ⟨rfl, PX7.go hP hK hU hW⟩⟩ rfl rfl hl.1 rfl (lv_room (Nat.le_of_ble_eq_true rfl)) dX7_total_7 ⟨Nat.le_of_ble_eq_true rfl, Nat.le_of_ble_eq_true rfl⟩) hS (fun q _ h => hFc q h) hFc (fun r2 u t H1 locs ht hvm hw hB hz1 hk1 hS => ?_)
  rw [ht, if_neg (by decide)] at hB
  have hP := hB
  generalize H1 = H at hP hS ⊢
  have hP : va_P D vwCl [(h0, .inr (13, [.ref (r 0), .ref (r 1), .ref (r 2), .ref (r 3), .ref (r 4), .ref (r 5), .ref (r 6), .ref (r 7), .ref (r 8), .ref (r 9), .ref (r 10), .ref (r 11), .ref (r 12), .ref (r 13), .ref (r 14), .ref (r 15), .int 0, .int 0, .int 1, .int 110, .int 0, .int 0, .int 0, .int 0, .int 0, .int 0, .int 0, .int 0, .int 0, .int 0, .int 1]))] H := hP
  have hD : va_D A [(h0, .inr (13, [.ref (r 0), .ref (r 1), .ref (r 2), .ref (r 3), .ref (r 4), .ref (r 5), .ref (r 6), .ref (r 7), .ref (r 8), .ref (r 9), .ref (r 10), .ref (r 11), .ref (r 12), .ref (r 13), .ref (r 14), .ref (r 15), .int 0, .int 0, .int 1, .int 110, .int 0, .int 0, .int 0, .int 0, .int 0, .int 0, .int 0, .int 0, .int 0, .int 0, .int 1]))] := by rw [← hAe]; exact rg1_D
  obtain rfl : r2 = 1 := hw
  refine lv_if_ne (tgt := 34) hx hb dX7_total_10 (by decide) (fun _ => ?_) (fun c => by first | exact absurd (by decide) c | exact absurd c (by decide))
  refine lv_iconst (v := 0) hx hb dX7_total_34 (by decide) ?_
  refine lv_goto (tgt := 44) hx hb dX7_total_35 (by decide) ?_
  have hP9 := hP
  exact W.iret (v := 0) hx hb hr (fun t ht hW => ⟨⟨0, [.ref (r 0), .ref (r 1), .ref (r 2), .ref (r 3), .ref (r 4), .ref (r 5), .ref (r 6), .ref (r 7), .ref (r 8), .ref (r 9), .ref (r 10), .ref (r 11), .ref (r 12), .ref (r 13), .ref (r 14), .ref (r 15), .int 0, .int 0, .int 1, .int 110, .int 0, .int 0, .int 0, .int 0, .int 0, .int 0, .int 0, .int 0, .int 0, .int 0, .int 1], rfl, rfl, by rw [← ht] at hP9; exact hP9⟩, hS.F ht⟩) hS.2.2 dX7_total_44
set_option maxHeartbeats 4000000 in
set_option maxRecDepth 100000 in
theorem c_X7_stableford (l : Launch) (D : va_G) (h0 : Nat) (r : Nat → Nat) (sz : Nat) (a1 : Int32) : Met l yX7_stableford wsX7_stableford ({ frames := 60, cells := 0, slots := 0, locals := 600 }) (va_Pc [.ref h0, .int a1] (PX7 D h0 r 0 sz)) (va_Qi (fun (r9 : Int32) (u : List Value) => u[30]? = some (.int 1)) (fun u t => va_P D vwCl [(h0, .inr (13, u))] t.heap) (rg1 h0 sz)) 0 0 (rg1 h0 sz) := by
  refine Met.ofW (cc := cX7_stableford) (maxL := 4) (ret := (some .int)) (by decide +kernel) rfl ?_
  intro p e s m args below meth c s₁ B hml hv
  obtain ⟨rfl, hsz, hP, hK⟩ := hv
  have hx := B.exec
  have hb := B.bytes
  have hr := B.returns
  have hts := atoms_spec (ws := wsX7_stableford) B.pre
  have hown : s.vm.findClass RX7 = some m.cls := findClass_of_methodNamed B.named
  have hlocks := B.notSynchronized
  subst hsz
  have hD : va_D (rg1 h0 s.heap.size) [(h0, .inr (13, [.ref (r 0), .ref (r 1), .ref (r 2), .ref (r 3), .ref (r 4), .ref (r 5), .ref (r 6), .ref (r 7), .ref (r 8), .ref (r 9), .ref (r 10), .ref (r 11), .ref (r 12), .ref (r 13), .ref (r 14), .ref (r 15), .int 0, .int 0, .int 1, .int 110, .int 0, .int 0, .int 0, .int 0, .int 0, .int 0, .int 0, .int 0, .int 0, .int 0, .int 0]))] := rg1_D
  generalize hAe : rg1 h0 s.heap.size = A at hD ⊢
  have hA : ∀ q : Nat, s.heap.size ≤ q → A q := fun q h => by rw [← hAe]; exact Or.inr h
  have hS : va_S A s.heap s.heap [] := va_S.rf
  have hP : va_P D vwCl [(h0, .inr (13, [.ref (r 0), .ref (r 1), .ref (r 2), .ref (r 3), .ref (r 4), .ref (r 5), .ref (r 6), .ref (r 7), .ref (r 8), .ref (r 9), .ref (r 10), .ref (r 11), .ref (r 12), .ref (r 13), .ref (r 14), .ref (r 15), .int 0, .int 0, .int 1, .int 110, .int 0, .int 0, .int 0, .int 0, .int 0, .int 0, .int 0, .int 0, .int 0, .int 0, .int 0]))] s.heap := hP
  have hl := lv_entry ([.ref h0, .int a1]) (n := 4) (Nat.le_of_ble_eq_true rfl)
  rw [lg_entry_eq]
  generalize (lg_sl ([.ref h0, .int a1]) ++ List.replicate (4 - (lg_sl ([.ref h0, .int a1])).length) Slot.unset).toArray = ls at hl ⊢
  have hl : lv_has ls 4 [(0, .ref h0), (1, .int a1)] := hl
  refine lv_aload_n hx hb dX7_stableford_0 rfl (lv_at hl 0 rfl) ?_
  refine lv_aload_n hx hb dX7_stableford_1 rfl (lv_at hl 0 rfl) ?_
  refine lv_iload_n hx hb dX7_stableford_2 rfl (lv_at hl 1 rfl) ?_
  refine va_calli (va_runV (As := [.int a1]) (rest := [.ref h0]) ⟨hx, hb, hml, hown, hts⟩ (c_X7_isNoPlayer l D h0 r 0 s.heap.size a1) (cwV 1 hts gX7_stableford_X7_isNoPlayer rfl rfl rfl (by decide +kernel) ⟨Nat.le_of_ble_eq_true rfl, Nat.le_of_ble_eq_true rfl⟩) ⟨fun a U g mk q => ⟨q.1, PX7.blind q.2⟩, va_recv hK hP (ci := 13) (q0 := 0) rfl rfl, fun U hU hW => ⟨rfl, PX7.go hP hK hU hW⟩⟩ rfl rfl hl.1 rfl (lv_room (Nat.le_of_ble_eq_true rfl)) dX7_stableford_3 ⟨Nat.le_of_ble_eq_true rfl, Nat.le_of_ble_eq_true rfl⟩) hS (fun q h1 h2 => absurd h1 (Nat.not_lt.mpr h2)) (fun q h => hA q (Nat.le_trans hS.1 h)) (fun r1 u t H1 locs ht hvm hw hB hz1 hk1 hS => ?_)
  have hP := va_kept0 hP hk1
  generalize H1 = H at hP hS ⊢
  have hP : va_P D vwCl [(h0, .inr (13, [.ref (r 0), .ref (r 1), .ref (r 2), .ref (r 3), .ref (r 4), .ref (r 5), .ref (r 6), .ref (r 7), .ref (r 8), .ref (r 9), .ref (r 10), .ref (r 11), .ref (r 12), .ref (r 13), .ref (r 14), .ref (r 15), .int 0, .int 0, .int 1, .int 110, .int 0, .int 0, .int 0, .int 0, .int 0, .int 0, .int 0, .int 0, .int 0, .int 0, .int 0]))] H := hP
  obtain rfl : r1 = 1 := hw
  refine lv_iconst (v := 1) hx hb dX7_stableford_6 (by decide) ?_
  have hFc : ∀ q : Nat, rg1 h0 H.size q → A q := fun q h => h.elim (fun e => by rw [e]; exact hD.2 0 _ rfl) (fun h => hA q (Nat.le_trans hS.1 h))
  refine va_calli (va_runV (As := [.int 1, .int 1]) (rest := []) ⟨hx, hb, hml, hown, hts⟩ (c_X7_isThrown l D h0 r 0 H.size 1 1 (Or.inr rfl)) (cwV 2 hts gX7_stableford_X7_isThrown rfl rfl rfl (by decide +kernel) ⟨Nat.le_of_ble_eq_true rfl, Nat.le_of_ble_eq_true rfl⟩) ⟨fun a U g mk q => ⟨q.1, PX7.blind q.2⟩, va_recv hK hP (ci := 13) (q0 := 0) rfl rfl, fun U hU hW => ⟨rfl, PX7.go hP hK hU hW⟩⟩ rfl rfl hl.1 rfl (lv_room (Nat.le_of_ble_eq_true rfl)) dX7_stableford_7 ⟨Nat.le_of_ble_eq_true rfl, Nat.le_of_ble_eq_true rfl⟩) hS (fun q _ h => hFc q h) hFc (fun r2 u t H1 locs ht hvm hw hB hz1 hk1 hS => ?_)
  rw [ht, if_neg (by decide)] at hB
  have hP := hB
  generalize H1 = H at hP hS ⊢
  have hP : va_P D vwCl [(h0, .inr (13, [.ref (r 0), .ref (r 1), .ref (r 2), .ref (r 3), .ref (r 4), .ref (r 5), .ref (r 6), .ref (r 7), .ref (r 8), .ref (r 9), .ref (r 10), .ref (r 11), .ref (r 12), .ref (r 13), .ref (r 14), .ref (r 15), .int 0, .int 0, .int 1, .int 110, .int 0, .int 0, .int 0, .int 0, .int 0, .int 0, .int 0, .int 0, .int 0, .int 0, .int 1]))] H := hP
  have hD : va_D A [(h0, .inr (13, [.ref (r 0), .ref (r 1), .ref (r 2), .ref (r 3), .ref (r 4), .ref (r 5), .ref (r 6), .ref (r 7), .ref (r 8), .ref (r 9), .ref (r 10), .ref (r 11), .ref (r 12), .ref (r 13), .ref (r 14), .ref (r 15), .int 0, .int 0, .int 1, .int 110, .int 0, .int 0, .int 0, .int 0, .int 0, .int 0, .int 0, .int 0, .int 0, .int 0, .int 1]))] := by rw [← hAe]; exact rg1_D
  obtain rfl : r2 = 1 := hw
  refine lv_if_eq (tgt := 15) hx hb dX7_stableford_10 (by decide) (fun c => by first | exact absurd c (by decide) | exact absurd (by decide) c) (fun _ => ?_)
  refine lv_iconst (v := 0) hx hb dX7_stableford_13 (by decide) ?_
  have hP9 := hP
  exact W.iret (v := 0) hx hb hr (fun t ht hW => ⟨⟨0, [.ref (r 0), .ref (r 1), .ref (r 2), .ref (r 3), .ref (r 4), .ref (r 5), .ref (r 6), .ref (r 7), .ref (r 8), .ref (r 9), .ref (r 10), .ref (r 11), .ref (r 12), .ref (r 13), .ref (r 14), .ref (r 15), .int 0, .int 0, .int 1, .int 110, .int 0, .int 0, .int 0, .int 0, .int 0, .int 0, .int 0, .int 0, .int 0, .int 0, .int 1], rfl, rfl, by rw [← ht] at hP9; exact hP9⟩, hS.F ht⟩) hS.2.2 dX7_stableford_14
set_option maxHeartbeats 4000000 in
set_option maxRecDepth 100000 in
theorem c_X7_parPlay (l : Launch) (D : va_G) (h0 : Nat) (r : Nat → Nat) (sz : Nat) (a1 : Int32) : Met l yX7_parPlay wsX7_parPlay ({ frames := 60, cells := 0, slots := 0, locals := 600 }) (va_Pc [.ref h0, .int a1] (PX7 D h0 r 0 sz)) (va_Qi (fun (r9 : Int32) (u : List Value) => u[30]? = some (.int 1)) (fun u t => va_P D vwCl [(h0, .inr (13, u))] t.heap) (rg1 h0 sz)) 0 0 (rg1 h0 sz) := by
  refine Met.ofW (cc := cX7_parPlay) (maxL := 4) (ret := (some .int)) (by decide +kernel) rfl ?_
  intro p e s m args below meth c s₁ B hml hv
  obtain ⟨rfl, hsz, hP, hK⟩ := hv
  have hx := B.exec
  have hb := B.bytes
  have hr := B.returns
  have hts := atoms_spec (ws := wsX7_parPlay) B.pre
  have hown : s.vm.findClass RX7 = some m.cls := findClass_of_methodNamed B.named
  have hlocks := B.notSynchronized
  subst hsz
  have hD : va_D (rg1 h0 s.heap.size) [(h0, .inr (13, [.ref (r 0), .ref (r 1), .ref (r 2), .ref (r 3), .ref (r 4), .ref (r 5), .ref (r 6), .ref (r 7), .ref (r 8), .ref (r 9), .ref (r 10), .ref (r 11), .ref (r 12), .ref (r 13), .ref (r 14), .ref (r 15), .int 0, .int 0, .int 1, .int 110, .int 0, .int 0, .int 0, .int 0, .int 0, .int 0, .int 0, .int 0, .int 0, .int 0, .int 0]))] := rg1_D
  generalize hAe : rg1 h0 s.heap.size = A at hD ⊢
  have hA : ∀ q : Nat, s.heap.size ≤ q → A q := fun q h => by rw [← hAe]; exact Or.inr h
  have hS : va_S A s.heap s.heap [] := va_S.rf
  have hP : va_P D vwCl [(h0, .inr (13, [.ref (r 0), .ref (r 1), .ref (r 2), .ref (r 3), .ref (r 4), .ref (r 5), .ref (r 6), .ref (r 7), .ref (r 8), .ref (r 9), .ref (r 10), .ref (r 11), .ref (r 12), .ref (r 13), .ref (r 14), .ref (r 15), .int 0, .int 0, .int 1, .int 110, .int 0, .int 0, .int 0, .int 0, .int 0, .int 0, .int 0, .int 0, .int 0, .int 0, .int 0]))] s.heap := hP
  have hl := lv_entry ([.ref h0, .int a1]) (n := 4) (Nat.le_of_ble_eq_true rfl)
  rw [lg_entry_eq]
  generalize (lg_sl ([.ref h0, .int a1]) ++ List.replicate (4 - (lg_sl ([.ref h0, .int a1])).length) Slot.unset).toArray = ls at hl ⊢
  have hl : lv_has ls 4 [(0, .ref h0), (1, .int a1)] := hl
  refine lv_aload_n hx hb dX7_parPlay_0 rfl (lv_at hl 0 rfl) ?_
  refine lv_aload_n hx hb dX7_parPlay_1 rfl (lv_at hl 0 rfl) ?_
  refine lv_iload_n hx hb dX7_parPlay_2 rfl (lv_at hl 1 rfl) ?_
  refine va_calli (va_runV (As := [.int a1]) (rest := [.ref h0]) ⟨hx, hb, hml, hown, hts⟩ (c_X7_isNoPlayer l D h0 r 0 s.heap.size a1) (cwV 1 hts gX7_parPlay_X7_isNoPlayer rfl rfl rfl (by decide +kernel) ⟨Nat.le_of_ble_eq_true rfl, Nat.le_of_ble_eq_true rfl⟩) ⟨fun a U g mk q => ⟨q.1, PX7.blind q.2⟩, va_recv hK hP (ci := 13) (q0 := 0) rfl rfl, fun U hU hW => ⟨rfl, PX7.go hP hK hU hW⟩⟩ rfl rfl hl.1 rfl (lv_room (Nat.le_of_ble_eq_true rfl)) dX7_parPlay_3 ⟨Nat.le_of_ble_eq_true rfl, Nat.le_of_ble_eq_true rfl⟩) hS (fun q h1 h2 => absurd h1 (Nat.not_lt.mpr h2)) (fun q h => hA q (Nat.le_trans hS.1 h)) (fun r1 u t H1 locs ht hvm hw hB hz1 hk1 hS => ?_)
  have hP := va_kept0 hP hk1
  generalize H1 = H at hP hS ⊢
  have hP : va_P D vwCl [(h0, .inr (13, [.ref (r 0), .ref (r 1), .ref (r 2), .ref (r 3), .ref (r 4), .ref (r 5), .ref (r 6), .ref (r 7), .ref (r 8), .ref (r 9), .ref (r 10), .ref (r 11), .ref (r 12), .ref (r 13), .ref (r 14), .ref (r 15), .int 0, .int 0, .int 1, .int 110, .int 0, .int 0, .int 0, .int 0, .int 0, .int 0, .int 0, .int 0, .int 0, .int 0, .int 0]))] H := hP
  obtain rfl : r1 = 1 := hw
  refine lv_iconst (v := 1) hx hb dX7_parPlay_6 (by decide) ?_
  have hFc : ∀ q : Nat, rg1 h0 H.size q → A q := fun q h => h.elim (fun e => by rw [e]; exact hD.2 0 _ rfl) (fun h => hA q (Nat.le_trans hS.1 h))
  refine va_calli (va_runV (As := [.int 1, .int 1]) (rest := []) ⟨hx, hb, hml, hown, hts⟩ (c_X7_isThrown l D h0 r 0 H.size 1 1 (Or.inr rfl)) (cwV 2 hts gX7_parPlay_X7_isThrown rfl rfl rfl (by decide +kernel) ⟨Nat.le_of_ble_eq_true rfl, Nat.le_of_ble_eq_true rfl⟩) ⟨fun a U g mk q => ⟨q.1, PX7.blind q.2⟩, va_recv hK hP (ci := 13) (q0 := 0) rfl rfl, fun U hU hW => ⟨rfl, PX7.go hP hK hU hW⟩⟩ rfl rfl hl.1 rfl (lv_room (Nat.le_of_ble_eq_true rfl)) dX7_parPlay_7 ⟨Nat.le_of_ble_eq_true rfl, Nat.le_of_ble_eq_true rfl⟩) hS (fun q _ h => hFc q h) hFc (fun r2 u t H1 locs ht hvm hw hB hz1 hk1 hS => ?_)
  rw [ht, if_neg (by decide)] at hB
  have hP := hB
  generalize H1 = H at hP hS ⊢
  have hP : va_P D vwCl [(h0, .inr (13, [.ref (r 0), .ref (r 1), .ref (r 2), .ref (r 3), .ref (r 4), .ref (r 5), .ref (r 6), .ref (r 7), .ref (r 8), .ref (r 9), .ref (r 10), .ref (r 11), .ref (r 12), .ref (r 13), .ref (r 14), .ref (r 15), .int 0, .int 0, .int 1, .int 110, .int 0, .int 0, .int 0, .int 0, .int 0, .int 0, .int 0, .int 0, .int 0, .int 0, .int 1]))] H := hP
  have hD : va_D A [(h0, .inr (13, [.ref (r 0), .ref (r 1), .ref (r 2), .ref (r 3), .ref (r 4), .ref (r 5), .ref (r 6), .ref (r 7), .ref (r 8), .ref (r 9), .ref (r 10), .ref (r 11), .ref (r 12), .ref (r 13), .ref (r 14), .ref (r 15), .int 0, .int 0, .int 1, .int 110, .int 0, .int 0, .int 0, .int 0, .int 0, .int 0, .int 0, .int 0, .int 0, .int 0, .int 1]))] := by rw [← hAe]; exact rg1_D
  obtain rfl : r2 = 1 := hw
  refine lv_if_ne (tgt := 33) hx hb dX7_parPlay_10 (by decide) (fun _ => ?_) (fun c => by first | exact absurd (by decide) c | exact absurd c (by decide))
  refine lv_iconst (v := 0) hx hb dX7_parPlay_33 (by decide) ?_
  have hP9 := hP
  exact W.iret (v := 0) hx hb hr (fun t ht hW => ⟨⟨0, [.ref (r 0), .ref (r 1), .ref (r 2), .ref (r 3), .ref (r 4), .ref (r 5), .ref (r 6), .ref (r 7), .ref (r 8), .ref (r 9), .ref (r 10), .ref (r 11), .ref (r 12), .ref (r 13), .ref (r 14), .ref (r 15), .int 0, .int 0, .int 1, .int 110, .int 0, .int 0, .int 0, .int 0, .int 0, .int 0, .int 0, .int 0, .int 0, .int 0, .int 1], rfl, rfl, by rw [← ht] at hP9; exact hP9⟩, hS.F ht⟩) hS.2.2 dX7_parPlay_34
set_option maxHeartbeats 4000000 in
set_option maxRecDepth 100000 in
theorem c_X7_together (l : Launch) (D : va_G) (h0 : Nat) (r : Nat → Nat) (sz : Nat) (a1 a2 : Int32) : Met l yX7_together wsX7_together ({ frames := 60, cells := 0, slots := 0, locals := 600 }) (va_Pc [.ref h0, .int a1, .int a2] (PX7 D h0 r 0 sz)) (va_Qi (fun (r9 : Int32) (u : List Value) => u[30]? = some (.int 1)) (fun u t => va_P D vwCl [(h0, .inr (13, u))] t.heap) (rg1 h0 sz)) 0 0 (rg1 h0 sz) := by
  refine Met.ofW (cc := cX7_together) (maxL := 8) (ret := (some .int)) (by decide +kernel) rfl ?_
  intro p e s m args below meth c s₁ B hml hv
  obtain ⟨rfl, hsz, hP, hK⟩ := hv
  have hx := B.exec
  have hb := B.bytes
  have hr := B.returns
  have hts := atoms_spec (ws := wsX7_together) B.pre
  have hown : s.vm.findClass RX7 = some m.cls := findClass_of_methodNamed B.named
  have hlocks := B.notSynchronized
  subst hsz
  have hD : va_D (rg1 h0 s.heap.size) [(h0, .inr (13, [.ref (r 0), .ref (r 1), .ref (r 2), .ref (r 3), .ref (r 4), .ref (r 5), .ref (r 6), .ref (r 7), .ref (r 8), .ref (r 9), .ref (r 10), .ref (r 11), .ref (r 12), .ref (r 13), .ref (r 14), .ref (r 15), .int 0, .int 0, .int 1, .int 110, .int 0, .int 0, .int 0, .int 0, .int 0, .int 0, .int 0, .int 0, .int 0, .int 0, .int 0]))] := rg1_D
  generalize hAe : rg1 h0 s.heap.size = A at hD ⊢
  have hA : ∀ q : Nat, s.heap.size ≤ q → A q := fun q h => by rw [← hAe]; exact Or.inr h
  have hS : va_S A s.heap s.heap [] := va_S.rf
  have hP : va_P D vwCl [(h0, .inr (13, [.ref (r 0), .ref (r 1), .ref (r 2), .ref (r 3), .ref (r 4), .ref (r 5), .ref (r 6), .ref (r 7), .ref (r 8), .ref (r 9), .ref (r 10), .ref (r 11), .ref (r 12), .ref (r 13), .ref (r 14), .ref (r 15), .int 0, .int 0, .int 1, .int 110, .int 0, .int 0, .int 0, .int 0, .int 0, .int 0, .int 0, .int 0, .int 0, .int 0, .int 0]))] s.heap := hP
  have hl := lv_entry ([.ref h0, .int a1, .int a2]) (n := 8) (Nat.le_of_ble_eq_true rfl)
  rw [lg_entry_eq]
  generalize (lg_sl ([.ref h0, .int a1, .int a2]) ++ List.replicate (8 - (lg_sl ([.ref h0, .int a1, .int a2])).length) Slot.unset).toArray = ls at hl ⊢
  have hl : lv_has ls 8 [(0, .ref h0), (1, .int a1), (2, .int a2)] := hl
  refine lv_aload_n hx hb dX7_together_0 rfl (lv_at hl 0 rfl) ?_
  refine lv_aload_n hx hb dX7_together_1 rfl (lv_at hl 0 rfl) ?_
  refine lv_iload_n hx hb dX7_together_2 rfl (lv_at hl 1 rfl) ?_
  refine va_calli (va_runV (As := [.int a1]) (rest := [.ref h0]) ⟨hx, hb, hml, hown, hts⟩ (c_X7_isNoPlayer l D h0 r 0 s.heap.size a1) (cwV 1 hts gX7_together_X7_isNoPlayer rfl rfl rfl (by decide +kernel) ⟨Nat.le_of_ble_eq_true rfl, Nat.le_of_ble_eq_true rfl⟩) ⟨fun a U g mk q => ⟨q.1, PX7.blind q.2⟩, va_recv hK hP (ci := 13) (q0 := 0) rfl rfl, fun U hU hW => ⟨rfl, PX7.go hP hK hU hW⟩⟩ rfl rfl hl.1 rfl (lv_room (Nat.le_of_ble_eq_true rfl)) dX7_together_3 ⟨Nat.le_of_ble_eq_true rfl, Nat.le_of_ble_eq_true rfl⟩) hS (fun q h1 h2 => absurd h1 (Nat.not_lt.mpr h2)) (fun q h => hA q (Nat.le_trans hS.1 h)) (fun r1 u t H1 locs ht hvm hw hB hz1 hk1 hS => ?_)
  have hP := va_kept0 hP hk1
  generalize H1 = H at hP hS ⊢
  have hP : va_P D vwCl [(h0, .inr (13, [.ref (r 0), .ref (r 1), .ref (r 2), .ref (r 3), .ref (r 4), .ref (r 5), .ref (r 6), .ref (r 7), .ref (r 8), .ref (r 9), .ref (r 10), .ref (r 11), .ref (r 12), .ref (r 13), .ref (r 14), .ref (r 15), .int 0, .int 0, .int 1, .int 110, .int 0, .int 0, .int 0, .int 0, .int 0, .int 0, .int 0, .int 0, .int 0, .int 0, .int 0]))] H := hP
  obtain rfl : r1 = 1 := hw
  refine lv_if_ne (tgt := 17) hx hb dX7_together_6 (by decide) (fun _ => ?_) (fun c => by first | exact absurd (by decide) c | exact absurd c (by decide))
  refine lv_iconst (v := 1) hx hb dX7_together_17 (by decide) ?_
  refine lv_goto (tgt := 22) hx hb dX7_together_18 (by decide) ?_
  refine lv_iconst (v := 1) hx hb dX7_together_22 (by decide) ?_
  have hFc : ∀ q : Nat, rg1 h0 H.size q → A q := fun q h => h.elim (fun e => by rw [e]; exact hD.2 0 _ rfl) (fun h => hA q (Nat.le_trans hS.1 h))
  refine va_calli (va_runV (As := [.int 1, .int 1]) (rest := []) ⟨hx, hb, hml, hown, hts⟩ (c_X7_isThrown l D h0 r 0 H.size 1 1 (Or.inr rfl)) (cwV 2 hts gX7_together_X7_isThrown rfl rfl rfl (by decide +kernel) ⟨Nat.le_of_ble_eq_true rfl, Nat.le_of_ble_eq_true rfl⟩) ⟨fun a U g mk q => ⟨q.1, PX7.blind q.2⟩, va_recv hK hP (ci := 13) (q0 := 0) rfl rfl, fun U hU hW => ⟨rfl, PX7.go hP hK hU hW⟩⟩ rfl rfl hl.1 rfl (lv_room (Nat.le_of_ble_eq_true rfl)) dX7_together_23 ⟨Nat.le_of_ble_eq_true rfl, Nat.le_of_ble_eq_true rfl⟩) hS (fun q _ h => hFc q h) hFc (fun r3 u t H1 locs ht hvm hw hB hz1 hk1 hS => ?_)
  rw [ht, if_neg (by decide)] at hB
  have hP := hB
  generalize H1 = H at hP hS ⊢
  have hP : va_P D vwCl [(h0, .inr (13, [.ref (r 0), .ref (r 1), .ref (r 2), .ref (r 3), .ref (r 4), .ref (r 5), .ref (r 6), .ref (r 7), .ref (r 8), .ref (r 9), .ref (r 10), .ref (r 11), .ref (r 12), .ref (r 13), .ref (r 14), .ref (r 15), .int 0, .int 0, .int 1, .int 110, .int 0, .int 0, .int 0, .int 0, .int 0, .int 0, .int 0, .int 0, .int 0, .int 0, .int 1]))] H := hP
  have hD : va_D A [(h0, .inr (13, [.ref (r 0), .ref (r 1), .ref (r 2), .ref (r 3), .ref (r 4), .ref (r 5), .ref (r 6), .ref (r 7), .ref (r 8), .ref (r 9), .ref (r 10), .ref (r 11), .ref (r 12), .ref (r 13), .ref (r 14), .ref (r 15), .int 0, .int 0, .int 1, .int 110, .int 0, .int 0, .int 0, .int 0, .int 0, .int 0, .int 0, .int 0, .int 0, .int 0, .int 1]))] := by rw [← hAe]; exact rg1_D
  obtain rfl : r3 = 1 := hw
  refine lv_if_ne (tgt := 47) hx hb dX7_together_26 (by decide) (fun _ => ?_) (fun c => by first | exact absurd (by decide) c | exact absurd c (by decide))
  refine lv_iconst (v := 0) hx hb dX7_together_47 (by decide) ?_
  have hP9 := hP
  exact W.iret (v := 0) hx hb hr (fun t ht hW => ⟨⟨0, [.ref (r 0), .ref (r 1), .ref (r 2), .ref (r 3), .ref (r 4), .ref (r 5), .ref (r 6), .ref (r 7), .ref (r 8), .ref (r 9), .ref (r 10), .ref (r 11), .ref (r 12), .ref (r 13), .ref (r 14), .ref (r 15), .int 0, .int 0, .int 1, .int 110, .int 0, .int 0, .int 0, .int 0, .int 0, .int 0, .int 0, .int 0, .int 0, .int 0, .int 1], rfl, rfl, by rw [← ht] at hP9; exact hP9⟩, hS.F ht⟩) hS.2.2 dX7_together_48
set_option maxHeartbeats 4000000 in
set_option maxRecDepth 100000 in
theorem c_X7_skins (l : Launch) (D : va_G) (h0 : Nat) (r : Nat → Nat) (sz : Nat) (a1 : Int32) : Met l yX7_skins wsX7_skins ({ frames := 60, cells := 0, slots := 0, locals := 600 }) (va_Pc [.ref h0, .int a1] (PX7 D h0 r 0 sz)) (va_Qi (fun (r9 : Int32) (u : List Value) => u[30]? = some (.int 1)) (fun u t => va_P D vwCl [(h0, .inr (13, u))] t.heap) (rg1 h0 sz)) 0 0 (rg1 h0 sz) := by
  refine Met.ofW (cc := cX7_skins) (maxL := 9) (ret := (some .int)) (by decide +kernel) rfl ?_
  intro p e s m args below meth c s₁ B hml hv
  obtain ⟨rfl, hsz, hP, hK⟩ := hv
  have hx := B.exec
  have hb := B.bytes
  have hr := B.returns
  have hts := atoms_spec (ws := wsX7_skins) B.pre
  have hown : s.vm.findClass RX7 = some m.cls := findClass_of_methodNamed B.named
  have hlocks := B.notSynchronized
  subst hsz
  have hD : va_D (rg1 h0 s.heap.size) [(h0, .inr (13, [.ref (r 0), .ref (r 1), .ref (r 2), .ref (r 3), .ref (r 4), .ref (r 5), .ref (r 6), .ref (r 7), .ref (r 8), .ref (r 9), .ref (r 10), .ref (r 11), .ref (r 12), .ref (r 13), .ref (r 14), .ref (r 15), .int 0, .int 0, .int 1, .int 110, .int 0, .int 0, .int 0, .int 0, .int 0, .int 0, .int 0, .int 0, .int 0, .int 0, .int 0]))] := rg1_D
  generalize hAe : rg1 h0 s.heap.size = A at hD ⊢
  have hA : ∀ q : Nat, s.heap.size ≤ q → A q := fun q h => by rw [← hAe]; exact Or.inr h
  have hS : va_S A s.heap s.heap [] := va_S.rf
  have hP : va_P D vwCl [(h0, .inr (13, [.ref (r 0), .ref (r 1), .ref (r 2), .ref (r 3), .ref (r 4), .ref (r 5), .ref (r 6), .ref (r 7), .ref (r 8), .ref (r 9), .ref (r 10), .ref (r 11), .ref (r 12), .ref (r 13), .ref (r 14), .ref (r 15), .int 0, .int 0, .int 1, .int 110, .int 0, .int 0, .int 0, .int 0, .int 0, .int 0, .int 0, .int 0, .int 0, .int 0, .int 0]))] s.heap := hP
  have hl := lv_entry ([.ref h0, .int a1]) (n := 9) (Nat.le_of_ble_eq_true rfl)
  rw [lg_entry_eq]
  generalize (lg_sl ([.ref h0, .int a1]) ++ List.replicate (9 - (lg_sl ([.ref h0, .int a1])).length) Slot.unset).toArray = ls at hl ⊢
  have hl : lv_has ls 9 [(0, .ref h0), (1, .int a1)] := hl
  refine lv_aload_n hx hb dX7_skins_0 rfl (lv_at hl 0 rfl) ?_
  refine lv_aload_n hx hb dX7_skins_1 rfl (lv_at hl 0 rfl) ?_
  refine lv_iload_n hx hb dX7_skins_2 rfl (lv_at hl 1 rfl) ?_
  refine va_calli (va_runV (As := [.int a1]) (rest := [.ref h0]) ⟨hx, hb, hml, hown, hts⟩ (c_X7_isNoPlayer l D h0 r 0 s.heap.size a1) (cwV 1 hts gX7_skins_X7_isNoPlayer rfl rfl rfl (by decide +kernel) ⟨Nat.le_of_ble_eq_true rfl, Nat.le_of_ble_eq_true rfl⟩) ⟨fun a U g mk q => ⟨q.1, PX7.blind q.2⟩, va_recv hK hP (ci := 13) (q0 := 0) rfl rfl, fun U hU hW => ⟨rfl, PX7.go hP hK hU hW⟩⟩ rfl rfl hl.1 rfl (lv_room (Nat.le_of_ble_eq_true rfl)) dX7_skins_3 ⟨Nat.le_of_ble_eq_true rfl, Nat.le_of_ble_eq_true rfl⟩) hS (fun q h1 h2 => absurd h1 (Nat.not_lt.mpr h2)) (fun q h => hA q (Nat.le_trans hS.1 h)) (fun r1 u t H1 locs ht hvm hw hB hz1 hk1 hS => ?_)
  have hP := va_kept0 hP hk1
  generalize H1 = H at hP hS ⊢
  have hP : va_P D vwCl [(h0, .inr (13, [.ref (r 0), .ref (r 1), .ref (r 2), .ref (r 3), .ref (r 4), .ref (r 5), .ref (r 6), .ref (r 7), .ref (r 8), .ref (r 9), .ref (r 10), .ref (r 11), .ref (r 12), .ref (r 13), .ref (r 14), .ref (r 15), .int 0, .int 0, .int 1, .int 110, .int 0, .int 0, .int 0, .int 0, .int 0, .int 0, .int 0, .int 0, .int 0, .int 0, .int 0]))] H := hP
  obtain rfl : r1 = 1 := hw
  refine lv_iconst (v := 1) hx hb dX7_skins_6 (by decide) ?_
  have hFc : ∀ q : Nat, rg1 h0 H.size q → A q := fun q h => h.elim (fun e => by rw [e]; exact hD.2 0 _ rfl) (fun h => hA q (Nat.le_trans hS.1 h))
  refine va_calli (va_runV (As := [.int 1, .int 1]) (rest := []) ⟨hx, hb, hml, hown, hts⟩ (c_X7_isThrown l D h0 r 0 H.size 1 1 (Or.inr rfl)) (cwV 2 hts gX7_skins_X7_isThrown rfl rfl rfl (by decide +kernel) ⟨Nat.le_of_ble_eq_true rfl, Nat.le_of_ble_eq_true rfl⟩) ⟨fun a U g mk q => ⟨q.1, PX7.blind q.2⟩, va_recv hK hP (ci := 13) (q0 := 0) rfl rfl, fun U hU hW => ⟨rfl, PX7.go hP hK hU hW⟩⟩ rfl rfl hl.1 rfl (lv_room (Nat.le_of_ble_eq_true rfl)) dX7_skins_7 ⟨Nat.le_of_ble_eq_true rfl, Nat.le_of_ble_eq_true rfl⟩) hS (fun q _ h => hFc q h) hFc (fun r2 u t H1 locs ht hvm hw hB hz1 hk1 hS => ?_)
  rw [ht, if_neg (by decide)] at hB
  have hP := hB
  generalize H1 = H at hP hS ⊢
  have hP : va_P D vwCl [(h0, .inr (13, [.ref (r 0), .ref (r 1), .ref (r 2), .ref (r 3), .ref (r 4), .ref (r 5), .ref (r 6), .ref (r 7), .ref (r 8), .ref (r 9), .ref (r 10), .ref (r 11), .ref (r 12), .ref (r 13), .ref (r 14), .ref (r 15), .int 0, .int 0, .int 1, .int 110, .int 0, .int 0, .int 0, .int 0, .int 0, .int 0, .int 0, .int 0, .int 0, .int 0, .int 1]))] H := hP
  have hD : va_D A [(h0, .inr (13, [.ref (r 0), .ref (r 1), .ref (r 2), .ref (r 3), .ref (r 4), .ref (r 5), .ref (r 6), .ref (r 7), .ref (r 8), .ref (r 9), .ref (r 10), .ref (r 11), .ref (r 12), .ref (r 13), .ref (r 14), .ref (r 15), .int 0, .int 0, .int 1, .int 110, .int 0, .int 0, .int 0, .int 0, .int 0, .int 0, .int 0, .int 0, .int 0, .int 0, .int 1]))] := by rw [← hAe]; exact rg1_D
  obtain rfl : r2 = 1 := hw
  refine lv_if_ne (tgt := 33) hx hb dX7_skins_10 (by decide) (fun _ => ?_) (fun c => by first | exact absurd (by decide) c | exact absurd c (by decide))
  refine lv_iconst (v := 0) hx hb dX7_skins_33 (by decide) ?_
  have hP9 := hP
  exact W.iret (v := 0) hx hb hr (fun t ht hW => ⟨⟨0, [.ref (r 0), .ref (r 1), .ref (r 2), .ref (r 3), .ref (r 4), .ref (r 5), .ref (r 6), .ref (r 7), .ref (r 8), .ref (r 9), .ref (r 10), .ref (r 11), .ref (r 12), .ref (r 13), .ref (r 14), .ref (r 15), .int 0, .int 0, .int 1, .int 110, .int 0, .int 0, .int 0, .int 0, .int 0, .int 0, .int 0, .int 0, .int 0, .int 0, .int 1], rfl, rfl, by rw [← ht] at hP9; exact hP9⟩, hS.F ht⟩) hS.2.2 dX7_skins_34
set_option maxHeartbeats 4000000 in
set_option maxRecDepth 100000 in
theorem c_X7_rank (l : Launch) (D : va_G) (h0 : Nat) (r : Nat → Nat) (sz : Nat) (a1 : Int32) : Met l yX7_rank wsX7_rank ({ frames := 60, cells := 0, slots := 0, locals := 600 }) (va_Pc [.ref h0, .int a1] (PX7 D h0 r 0 sz)) (va_Qi (fun (r9 : Int32) (u : List Value) => u[30]? = some (.int 1)) (fun u t => va_P D vwCl [(h0, .inr (13, u))] t.heap) (rg1 h0 sz)) 0 0 (rg1 h0 sz) := by
  refine Met.ofW (cc := cX7_rank) (maxL := 2) (ret := (some .int)) (by decide +kernel) rfl ?_
  intro p e s m args below meth c s₁ B hml hv
  obtain ⟨rfl, hsz, hP, hK⟩ := hv
  have hx := B.exec
  have hb := B.bytes
  have hr := B.returns
  have hts := atoms_spec (ws := wsX7_rank) B.pre
  have hown : s.vm.findClass RX7 = some m.cls := findClass_of_methodNamed B.named
  have hlocks := B.notSynchronized
  subst hsz
  have hD : va_D (rg1 h0 s.heap.size) [(h0, .inr (13, [.ref (r 0), .ref (r 1), .ref (r 2), .ref (r 3), .ref (r 4), .ref (r 5), .ref (r 6), .ref (r 7), .ref (r 8), .ref (r 9), .ref (r 10), .ref (r 11), .ref (r 12), .ref (r 13), .ref (r 14), .ref (r 15), .int 0, .int 0, .int 1, .int 110, .int 0, .int 0, .int 0, .int 0, .int 0, .int 0, .int 0, .int 0, .int 0, .int 0, .int 0]))] := rg1_D
  generalize hAe : rg1 h0 s.heap.size = A at hD ⊢
  have hA : ∀ q : Nat, s.heap.size ≤ q → A q := fun q h => by rw [← hAe]; exact Or.inr h
  have hS : va_S A s.heap s.heap [] := va_S.rf
  have hP : va_P D vwCl [(h0, .inr (13, [.ref (r 0), .ref (r 1), .ref (r 2), .ref (r 3), .ref (r 4), .ref (r 5), .ref (r 6), .ref (r 7), .ref (r 8), .ref (r 9), .ref (r 10), .ref (r 11), .ref (r 12), .ref (r 13), .ref (r 14), .ref (r 15), .int 0, .int 0, .int 1, .int 110, .int 0, .int 0, .int 0, .int 0, .int 0, .int 0, .int 0, .int 0, .int 0, .int 0, .int 0]))] s.heap := hP
  have hl := lv_entry ([.ref h0, .int a1]) (n := 2) (Nat.le_of_ble_eq_true rfl)
  rw [lg_entry_eq]
  generalize (lg_sl ([.ref h0, .int a1]) ++ List.replicate (2 - (lg_sl ([.ref h0, .int a1])).length) Slot.unset).toArray = ls at hl ⊢
  have hl : lv_has ls 2 [(0, .ref h0), (1, .int a1)] := hl
  refine lv_aload_n hx hb dX7_rank_0 rfl (lv_at hl 0 rfl) ?_
  refine lv_aload_n hx hb dX7_rank_1 rfl (lv_at hl 0 rfl) ?_
  refine lv_iload_n hx hb dX7_rank_2 rfl (lv_at hl 1 rfl) ?_
  refine va_calli (va_runV (As := [.int a1]) (rest := [.ref h0]) ⟨hx, hb, hml, hown, hts⟩ (c_X7_isNoPlayer l D h0 r 0 s.heap.size a1) (cwV 1 hts gX7_rank_X7_isNoPlayer rfl rfl rfl (by decide +kernel) ⟨Nat.le_of_ble_eq_true rfl, Nat.le_of_ble_eq_true rfl⟩) ⟨fun a U g mk q => ⟨q.1, PX7.blind q.2⟩, va_recv hK hP (ci := 13) (q0 := 0) rfl rfl, fun U hU hW => ⟨rfl, PX7.go hP hK hU hW⟩⟩ rfl rfl hl.1 rfl (lv_room (Nat.le_of_ble_eq_true rfl)) dX7_rank_3 ⟨Nat.le_of_ble_eq_true rfl, Nat.le_of_ble_eq_true rfl⟩) hS (fun q h1 h2 => absurd h1 (Nat.not_lt.mpr h2)) (fun q h => hA q (Nat.le_trans hS.1 h)) (fun r1 u t H1 locs ht hvm hw hB hz1 hk1 hS => ?_)
  have hP := va_kept0 hP hk1
  generalize H1 = H at hP hS ⊢
  have hP : va_P D vwCl [(h0, .inr (13, [.ref (r 0), .ref (r 1), .ref (r 2), .ref (r 3), .ref (r 4), .ref (r 5), .ref (r 6), .ref (r 7), .ref (r 8), .ref (r 9), .ref (r 10), .ref (r 11), .ref (r 12), .ref (r 13), .ref (r 14), .ref (r 15), .int 0, .int 0, .int 1, .int 110, .int 0, .int 0, .int 0, .int 0, .int 0, .int 0, .int 0, .int 0, .int 0, .int 0, .int 0]))] H := hP
  obtain rfl : r1 = 1 := hw
  refine lv_iconst (v := 1) hx hb dX7_rank_6 (by decide) ?_
  have hFc : ∀ q : Nat, rg1 h0 H.size q → A q := fun q h => h.elim (fun e => by rw [e]; exact hD.2 0 _ rfl) (fun h => hA q (Nat.le_trans hS.1 h))
  refine va_calli (va_runV (As := [.int 1, .int 1]) (rest := []) ⟨hx, hb, hml, hown, hts⟩ (c_X7_isThrown l D h0 r 0 H.size 1 1 (Or.inr rfl)) (cwV 2 hts gX7_rank_X7_isThrown rfl rfl rfl (by decide +kernel) ⟨Nat.le_of_ble_eq_true rfl, Nat.le_of_ble_eq_true rfl⟩) ⟨fun a U g mk q => ⟨q.1, PX7.blind q.2⟩, va_recv hK hP (ci := 13) (q0 := 0) rfl rfl, fun U hU hW => ⟨rfl, PX7.go hP hK hU hW⟩⟩ rfl rfl hl.1 rfl (lv_room (Nat.le_of_ble_eq_true rfl)) dX7_rank_7 ⟨Nat.le_of_ble_eq_true rfl, Nat.le_of_ble_eq_true rfl⟩) hS (fun q _ h => hFc q h) hFc (fun r2 u t H1 locs ht hvm hw hB hz1 hk1 hS => ?_)
  rw [ht, if_neg (by decide)] at hB
  have hP := hB
  generalize H1 = H at hP hS ⊢
  have hP : va_P D vwCl [(h0, .inr (13, [.ref (r 0), .ref (r 1), .ref (r 2), .ref (r 3), .ref (r 4), .ref (r 5), .ref (r 6), .ref (r 7), .ref (r 8), .ref (r 9), .ref (r 10), .ref (r 11), .ref (r 12), .ref (r 13), .ref (r 14), .ref (r 15), .int 0, .int 0, .int 1, .int 110, .int 0, .int 0, .int 0, .int 0, .int 0, .int 0, .int 0, .int 0, .int 0, .int 0, .int 1]))] H := hP
  have hD : va_D A [(h0, .inr (13, [.ref (r 0), .ref (r 1), .ref (r 2), .ref (r 3), .ref (r 4), .ref (r 5), .ref (r 6), .ref (r 7), .ref (r 8), .ref (r 9), .ref (r 10), .ref (r 11), .ref (r 12), .ref (r 13), .ref (r 14), .ref (r 15), .int 0, .int 0, .int 1, .int 110, .int 0, .int 0, .int 0, .int 0, .int 0, .int 0, .int 0, .int 0, .int 0, .int 0, .int 1]))] := by rw [← hAe]; exact rg1_D
  obtain rfl : r2 = 1 := hw
  refine lv_if_ne (tgt := 34) hx hb dX7_rank_10 (by decide) (fun _ => ?_) (fun c => by first | exact absurd (by decide) c | exact absurd c (by decide))
  refine lv_iconst (v := 0) hx hb dX7_rank_34 (by decide) ?_
  refine lv_goto (tgt := 43) hx hb dX7_rank_35 (by decide) ?_
  have hP9 := hP
  exact W.iret (v := 0) hx hb hr (fun t ht hW => ⟨⟨0, [.ref (r 0), .ref (r 1), .ref (r 2), .ref (r 3), .ref (r 4), .ref (r 5), .ref (r 6), .ref (r 7), .ref (r 8), .ref (r 9), .ref (r 10), .ref (r 11), .ref (r 12), .ref (r 13), .ref (r 14), .ref (r 15), .int 0, .int 0, .int 1, .int 110, .int 0, .int 0, .int 0, .int 0, .int 0, .int 0, .int 0, .int 0, .int 0, .int 0, .int 1], rfl, rfl, by rw [← ht] at hP9; exact hP9⟩, hS.F ht⟩) hS.2.2 dX7_rank_43
set_option maxHeartbeats 4000000 in
set_option maxRecDepth 100000 in
theorem c_X7_isAhead (l : Launch) (D : va_G) (h0 : Nat) (r : Nat → Nat) (sz : Nat) (a1 a2 : Int32) : Met l yX7_isAhead wsX7_isAhead ({ frames := 60, cells := 0, slots := 0, locals := 600 }) (va_Pc [.ref h0, .int a1, .int a2] (PX7 D h0 r 0 sz)) (va_Qi (fun (r9 : Int32) (u : List Value) => u[30]? = some (.int 1)) (fun u t => va_P D vwCl [(h0, .inr (13, u))] t.heap) (rg1 h0 sz)) 0 0 (rg1 h0 sz) := by
  refine Met.ofW (cc := cX7_isAhead) (maxL := 9) (ret := (some .boolean)) (by decide +kernel) rfl ?_
  intro p e s m args below meth c s₁ B hml hv
  obtain ⟨rfl, hsz, hP, hK⟩ := hv
  have hx := B.exec
  have hb := B.bytes
  have hr := B.returns
  have hts := atoms_spec (ws := wsX7_isAhead) B.pre
  have hown : s.vm.findClass RX7 = some m.cls := findClass_of_methodNamed B.named
  have hlocks := B.notSynchronized
  subst hsz
  have hD : va_D (rg1 h0 s.heap.size) [(h0, .inr (13, [.ref (r 0), .ref (r 1), .ref (r 2), .ref (r 3), .ref (r 4), .ref (r 5), .ref (r 6), .ref (r 7), .ref (r 8), .ref (r 9), .ref (r 10), .ref (r 11), .ref (r 12), .ref (r 13), .ref (r 14), .ref (r 15), .int 0, .int 0, .int 1, .int 110, .int 0, .int 0, .int 0, .int 0, .int 0, .int 0, .int 0, .int 0, .int 0, .int 0, .int 0]))] := rg1_D
  generalize hAe : rg1 h0 s.heap.size = A at hD ⊢
  have hA : ∀ q : Nat, s.heap.size ≤ q → A q := fun q h => by rw [← hAe]; exact Or.inr h
  have hS : va_S A s.heap s.heap [] := va_S.rf
  have hP : va_P D vwCl [(h0, .inr (13, [.ref (r 0), .ref (r 1), .ref (r 2), .ref (r 3), .ref (r 4), .ref (r 5), .ref (r 6), .ref (r 7), .ref (r 8), .ref (r 9), .ref (r 10), .ref (r 11), .ref (r 12), .ref (r 13), .ref (r 14), .ref (r 15), .int 0, .int 0, .int 1, .int 110, .int 0, .int 0, .int 0, .int 0, .int 0, .int 0, .int 0, .int 0, .int 0, .int 0, .int 0]))] s.heap := hP
  have hl := lv_entry ([.ref h0, .int a1, .int a2]) (n := 9) (Nat.le_of_ble_eq_true rfl)
  rw [lg_entry_eq]
  generalize (lg_sl ([.ref h0, .int a1, .int a2]) ++ List.replicate (9 - (lg_sl ([.ref h0, .int a1, .int a2])).length) Slot.unset).toArray = ls at hl ⊢
  have hl : lv_has ls 9 [(0, .ref h0), (1, .int a1), (2, .int a2)] := hl
  refine lv_aload_n hx hb dX7_isAhead_0 rfl (lv_at hl 0 rfl) ?_
  refine lv_aload_n hx hb dX7_isAhead_1 rfl (lv_at hl 0 rfl) ?_
  refine lv_iload_n hx hb dX7_isAhead_2 rfl (lv_at hl 1 rfl) ?_
  refine va_calli (va_runV (As := [.int a1]) (rest := [.ref h0]) ⟨hx, hb, hml, hown, hts⟩ (c_X7_isNoPlayer l D h0 r 0 s.heap.size a1) (cwV 1 hts gX7_isAhead_X7_isNoPlayer rfl rfl rfl (by decide +kernel) ⟨Nat.le_of_ble_eq_true rfl, Nat.le_of_ble_eq_true rfl⟩) ⟨fun a U g mk q => ⟨q.1, PX7.blind q.2⟩, va_recv hK hP (ci := 13) (q0 := 0) rfl rfl, fun U hU hW => ⟨rfl, PX7.go hP hK hU hW⟩⟩ rfl rfl hl.1 rfl (lv_room (Nat.le_of_ble_eq_true rfl)) dX7_isAhead_3 ⟨Nat.le_of_ble_eq_true rfl, Nat.le_of_ble_eq_true rfl⟩) hS (fun q h1 h2 => absurd h1 (Nat.not_lt.mpr h2)) (fun q h => hA q (Nat.le_trans hS.1 h)) (fun r1 u t H1 locs ht hvm hw hB hz1 hk1 hS => ?_)
  have hP := va_kept0 hP hk1
  generalize H1 = H at hP hS ⊢
  have hP : va_P D vwCl [(h0, .inr (13, [.ref (r 0), .ref (r 1), .ref (r 2), .ref (r 3), .ref (r 4), .ref (r 5), .ref (r 6), .ref (r 7), .ref (r 8), .ref (r 9), .ref (r 10), .ref (r 11), .ref (r 12), .ref (r 13), .ref (r 14), .ref (r 15), .int 0, .int 0, .int 1, .int 110, .int 0, .int 0, .int 0, .int 0, .int 0, .int 0, .int 0, .int 0, .int 0, .int 0, .int 0]))] H := hP
  obtain rfl : r1 = 1 := hw
  refine lv_if_ne (tgt := 17) hx hb dX7_isAhead_6 (by decide) (fun _ => ?_) (fun c => by first | exact absurd (by decide) c | exact absurd c (by decide))
  refine lv_iconst (v := 1) hx hb dX7_isAhead_17 (by decide) ?_
  refine lv_goto (tgt := 22) hx hb dX7_isAhead_18 (by decide) ?_
  refine lv_iconst (v := 1) hx hb dX7_isAhead_22 (by decide) ?_
  have hFc : ∀ q : Nat, rg1 h0 H.size q → A q := fun q h => h.elim (fun e => by rw [e]; exact hD.2 0 _ rfl) (fun h => hA q (Nat.le_trans hS.1 h))
  refine va_calli (va_runV (As := [.int 1, .int 1]) (rest := []) ⟨hx, hb, hml, hown, hts⟩ (c_X7_isThrown l D h0 r 0 H.size 1 1 (Or.inr rfl)) (cwV 2 hts gX7_isAhead_X7_isThrown rfl rfl rfl (by decide +kernel) ⟨Nat.le_of_ble_eq_true rfl, Nat.le_of_ble_eq_true rfl⟩) ⟨fun a U g mk q => ⟨q.1, PX7.blind q.2⟩, va_recv hK hP (ci := 13) (q0 := 0) rfl rfl, fun U hU hW => ⟨rfl, PX7.go hP hK hU hW⟩⟩ rfl rfl hl.1 rfl (lv_room (Nat.le_of_ble_eq_true rfl)) dX7_isAhead_23 ⟨Nat.le_of_ble_eq_true rfl, Nat.le_of_ble_eq_true rfl⟩) hS (fun q _ h => hFc q h) hFc (fun r3 u t H1 locs ht hvm hw hB hz1 hk1 hS => ?_)
  rw [ht, if_neg (by decide)] at hB
  have hP := hB
  generalize H1 = H at hP hS ⊢
  have hP : va_P D vwCl [(h0, .inr (13, [.ref (r 0), .ref (r 1), .ref (r 2), .ref (r 3), .ref (r 4), .ref (r 5), .ref (r 6), .ref (r 7), .ref (r 8), .ref (r 9), .ref (r 10), .ref (r 11), .ref (r 12), .ref (r 13), .ref (r 14), .ref (r 15), .int 0, .int 0, .int 1, .int 110, .int 0, .int 0, .int 0, .int 0, .int 0, .int 0, .int 0, .int 0, .int 0, .int 0, .int 1]))] H := hP
  have hD : va_D A [(h0, .inr (13, [.ref (r 0), .ref (r 1), .ref (r 2), .ref (r 3), .ref (r 4), .ref (r 5), .ref (r 6), .ref (r 7), .ref (r 8), .ref (r 9), .ref (r 10), .ref (r 11), .ref (r 12), .ref (r 13), .ref (r 14), .ref (r 15), .int 0, .int 0, .int 1, .int 110, .int 0, .int 0, .int 0, .int 0, .int 0, .int 0, .int 0, .int 0, .int 0, .int 0, .int 1]))] := by rw [← hAe]; exact rg1_D
  obtain rfl : r3 = 1 := hw
  refine lv_if_ne (tgt := 58) hx hb dX7_isAhead_26 (by decide) (fun _ => ?_) (fun c => by first | exact absurd (by decide) c | exact absurd c (by decide))
  refine lv_iconst (v := 0) hx hb dX7_isAhead_58 (by decide) ?_
  have hP9 := hP
  exact W.zret (v := 0) (ty := .boolean) hx hb hr (by decide) (fun t ht hW => ⟨⟨0, [.ref (r 0), .ref (r 1), .ref (r 2), .ref (r 3), .ref (r 4), .ref (r 5), .ref (r 6), .ref (r 7), .ref (r 8), .ref (r 9), .ref (r 10), .ref (r 11), .ref (r 12), .ref (r 13), .ref (r 14), .ref (r 15), .int 0, .int 0, .int 1, .int 110, .int 0, .int 0, .int 0, .int 0, .int 0, .int 0, .int 0, .int 0, .int 0, .int 0, .int 1], rfl, rfl, by rw [← ht] at hP9; exact hP9⟩, hS.F ht⟩) hS.2.2 dX7_isAhead_59
set_option maxHeartbeats 4000000 in
set_option maxRecDepth 100000 in
theorem c_X7_post (l : Launch) (D : va_G) (h0 : Nat) (r : Nat → Nat) (sz : Nat) (a1 a2 a3 : Int32) : Met l yX7_post wsX7_post ({ frames := 60, cells := 0, slots := 0, locals := 600 }) (va_Pc [.ref h0, .int a1, .int a2, .int a3] (PX7 D h0 r 0 sz)) (va_Qi (fun (r9 : Int32) (u : List Value) => u[30]? = some (.int 1)) (fun u t => va_P D vwCl [(h0, .inr (13, u))] t.heap) (rg1 h0 sz)) 0 0 (rg1 h0 sz) := by
  refine Met.ofW (cc := cX7_post) (maxL := 11) (ret := (some .int)) (by decide +kernel) rfl ?_
  intro p e s m args below meth c s₁ B hml hv
  obtain ⟨rfl, hsz, hP, hK⟩ := hv
  have hx := B.exec
  have hb := B.bytes
  have hr := B.returns
  have hts := atoms_spec (ws := wsX7_post) B.pre
  have hown : s.vm.findClass RX7 = some m.cls := findClass_of_methodNamed B.named
  have hlocks := B.notSynchronized
  subst hsz
  have hD : va_D (rg1 h0 s.heap.size) [(h0, .inr (13, [.ref (r 0), .ref (r 1), .ref (r 2), .ref (r 3), .ref (r 4), .ref (r 5), .ref (r 6), .ref (r 7), .ref (r 8), .ref (r 9), .ref (r 10), .ref (r 11), .ref (r 12), .ref (r 13), .ref (r 14), .ref (r 15), .int 0, .int 0, .int 1, .int 110, .int 0, .int 0, .int 0, .int 0, .int 0, .int 0, .int 0, .int 0, .int 0, .int 0, .int 0]))] := rg1_D
  generalize hAe : rg1 h0 s.heap.size = A at hD ⊢
  have hA : ∀ q : Nat, s.heap.size ≤ q → A q := fun q h => by rw [← hAe]; exact Or.inr h
  have hS : va_S A s.heap s.heap [] := va_S.rf
  have hP : va_P D vwCl [(h0, .inr (13, [.ref (r 0), .ref (r 1), .ref (r 2), .ref (r 3), .ref (r 4), .ref (r 5), .ref (r 6), .ref (r 7), .ref (r 8), .ref (r 9), .ref (r 10), .ref (r 11), .ref (r 12), .ref (r 13), .ref (r 14), .ref (r 15), .int 0, .int 0, .int 1, .int 110, .int 0, .int 0, .int 0, .int 0, .int 0, .int 0, .int 0, .int 0, .int 0, .int 0, .int 0]))] s.heap := hP
  have hl := lv_entry ([.ref h0, .int a1, .int a2, .int a3]) (n := 11) (Nat.le_of_ble_eq_true rfl)
  rw [lg_entry_eq]
  generalize (lg_sl ([.ref h0, .int a1, .int a2, .int a3]) ++ List.replicate (11 - (lg_sl ([.ref h0, .int a1, .int a2, .int a3])).length) Slot.unset).toArray = ls at hl ⊢
  have hl : lv_has ls 11 [(0, .ref h0), (1, .int a1), (2, .int a2), (3, .int a3)] := hl
  refine lv_aload_n hx hb dX7_post_0 rfl (lv_at hl 0 rfl) ?_
  refine lv_aload_n hx hb dX7_post_1 rfl (lv_at hl 0 rfl) ?_
  refine lv_iload_n hx hb dX7_post_2 rfl (lv_at hl 1 rfl) ?_
  refine va_calli (va_runV (As := [.int a1]) (rest := [.ref h0]) ⟨hx, hb, hml, hown, hts⟩ (c_X7_isNoPlayer l D h0 r 0 s.heap.size a1) (cwV 1 hts gX7_post_X7_isNoPlayer rfl rfl rfl (by decide +kernel) ⟨Nat.le_of_ble_eq_true rfl, Nat.le_of_ble_eq_true rfl⟩) ⟨fun a U g mk q => ⟨q.1, PX7.blind q.2⟩, va_recv hK hP (ci := 13) (q0 := 0) rfl rfl, fun U hU hW => ⟨rfl, PX7.go hP hK hU hW⟩⟩ rfl rfl hl.1 rfl (lv_room (Nat.le_of_ble_eq_true rfl)) dX7_post_3 ⟨Nat.le_of_ble_eq_true rfl, Nat.le_of_ble_eq_true rfl⟩) hS (fun q h1 h2 => absurd h1 (Nat.not_lt.mpr h2)) (fun q h => hA q (Nat.le_trans hS.1 h)) (fun r1 u t H1 locs ht hvm hw hB hz1 hk1 hS => ?_)
  have hP := va_kept0 hP hk1
  generalize H1 = H at hP hS ⊢
  have hP : va_P D vwCl [(h0, .inr (13, [.ref (r 0), .ref (r 1), .ref (r 2), .ref (r 3), .ref (r 4), .ref (r 5), .ref (r 6), .ref (r 7), .ref (r 8), .ref (r 9), .ref (r 10), .ref (r 11), .ref (r 12), .ref (r 13), .ref (r 14), .ref (r 15), .int 0, .int 0, .int 1, .int 110, .int 0, .int 0, .int 0, .int 0, .int 0, .int 0, .int 0, .int 0, .int 0, .int 0, .int 0]))] H := hP
  obtain rfl : r1 = 1 := hw
  refine lv_iconst (v := 1) hx hb dX7_post_6 (by decide) ?_
  have hFc : ∀ q : Nat, rg1 h0 H.size q → A q := fun q h => h.elim (fun e => by rw [e]; exact hD.2 0 _ rfl) (fun h => hA q (Nat.le_trans hS.1 h))
  refine va_calli (va_runV (As := [.int 1, .int 1]) (rest := []) ⟨hx, hb, hml, hown, hts⟩ (c_X7_isThrown l D h0 r 0 H.size 1 1 (Or.inr rfl)) (cwV 2 hts gX7_post_X7_isThrown rfl rfl rfl (by decide +kernel) ⟨Nat.le_of_ble_eq_true rfl, Nat.le_of_ble_eq_true rfl⟩) ⟨fun a U g mk q => ⟨q.1, PX7.blind q.2⟩, va_recv hK hP (ci := 13) (q0 := 0) rfl rfl, fun U hU hW => ⟨rfl, PX7.go hP hK hU hW⟩⟩ rfl rfl hl.1 rfl (lv_room (Nat.le_of_ble_eq_true rfl)) dX7_post_7 ⟨Nat.le_of_ble_eq_true rfl, Nat.le_of_ble_eq_true rfl⟩) hS (fun q _ h => hFc q h) hFc (fun r2 u t H1 locs ht hvm hw hB hz1 hk1 hS => ?_)
  rw [ht, if_neg (by decide)] at hB
  have hP := hB
  generalize H1 = H at hP hS ⊢
  have hP : va_P D vwCl [(h0, .inr (13, [.ref (r 0), .ref (r 1), .ref (r 2), .ref (r 3), .ref (r 4), .ref (r 5), .ref (r 6), .ref (r 7), .ref (r 8), .ref (r 9), .ref (r 10), .ref (r 11), .ref (r 12), .ref (r 13), .ref (r 14), .ref (r 15), .int 0, .int 0, .int 1, .int 110, .int 0, .int 0, .int 0, .int 0, .int 0, .int 0, .int 0, .int 0, .int 0, .int 0, .int 1]))] H := hP
  have hD : va_D A [(h0, .inr (13, [.ref (r 0), .ref (r 1), .ref (r 2), .ref (r 3), .ref (r 4), .ref (r 5), .ref (r 6), .ref (r 7), .ref (r 8), .ref (r 9), .ref (r 10), .ref (r 11), .ref (r 12), .ref (r 13), .ref (r 14), .ref (r 15), .int 0, .int 0, .int 1, .int 110, .int 0, .int 0, .int 0, .int 0, .int 0, .int 0, .int 0, .int 0, .int 0, .int 0, .int 1]))] := by rw [← hAe]; exact rg1_D
  obtain rfl : r2 = 1 := hw
  refine lv_if_ne (tgt := 80) hx hb dX7_post_10 (by decide) (fun _ => ?_) (fun c => by first | exact absurd (by decide) c | exact absurd c (by decide))
  refine lv_iconst (v := 0) hx hb dX7_post_80 (by decide) ?_
  have hP9 := hP
  exact W.iret (v := 0) hx hb hr (fun t ht hW => ⟨⟨0, [.ref (r 0), .ref (r 1), .ref (r 2), .ref (r 3), .ref (r 4), .ref (r 5), .ref (r 6), .ref (r 7), .ref (r 8), .ref (r 9), .ref (r 10), .ref (r 11), .ref (r 12), .ref (r 13), .ref (r 14), .ref (r 15), .int 0, .int 0, .int 1, .int 110, .int 0, .int 0, .int 0, .int 0, .int 0, .int 0, .int 0, .int 0, .int 0, .int 0, .int 1], rfl, rfl, by rw [← ht] at hP9; exact hP9⟩, hS.F ht⟩) hS.2.2 dX7_post_81
set_option maxHeartbeats 4000000 in
set_option maxRecDepth 100000 in
theorem c_X7_difference (l : Launch) (D : va_G) (h0 : Nat) (r : Nat → Nat) (sz : Nat) (a1 a2 : Int32) : Met l yX7_difference wsX7_difference ({ frames := 60, cells := 0, slots := 0, locals := 600 }) (va_Pc [.ref h0, .int a1, .int a2] (PX7 D h0 r 0 sz)) (va_Qi (fun (r9 : Int32) (u : List Value) => u[30]? = some (.int 1)) (fun u t => va_P D vwCl [(h0, .inr (13, u))] t.heap) (rg1 h0 sz)) 0 0 (rg1 h0 sz) := by
  refine Met.ofW (cc := cX7_difference) (maxL := 3) (ret := (some .int)) (by decide +kernel) rfl ?_
  intro p e s m args below meth c s₁ B hml hv
  obtain ⟨rfl, hsz, hP, hK⟩ := hv
  have hx := B.exec
  have hb := B.bytes
  have hr := B.returns
  have hts := atoms_spec (ws := wsX7_difference) B.pre
  have hown : s.vm.findClass RX7 = some m.cls := findClass_of_methodNamed B.named
  have hlocks := B.notSynchronized
  subst hsz
  have hD : va_D (rg1 h0 s.heap.size) [(h0, .inr (13, [.ref (r 0), .ref (r 1), .ref (r 2), .ref (r 3), .ref (r 4), .ref (r 5), .ref (r 6), .ref (r 7), .ref (r 8), .ref (r 9), .ref (r 10), .ref (r 11), .ref (r 12), .ref (r 13), .ref (r 14), .ref (r 15), .int 0, .int 0, .int 1, .int 110, .int 0, .int 0, .int 0, .int 0, .int 0, .int 0, .int 0, .int 0, .int 0, .int 0, .int 0]))] := rg1_D
  generalize hAe : rg1 h0 s.heap.size = A at hD ⊢
  have hA : ∀ q : Nat, s.heap.size ≤ q → A q := fun q h => by rw [← hAe]; exact Or.inr h
  have hS : va_S A s.heap s.heap [] := va_S.rf
  have hP : va_P D vwCl [(h0, .inr (13, [.ref (r 0), .ref (r 1), .ref (r 2), .ref (r 3), .ref (r 4), .ref (r 5), .ref (r 6), .ref (r 7), .ref (r 8), .ref (r 9), .ref (r 10), .ref (r 11), .ref (r 12), .ref (r 13), .ref (r 14), .ref (r 15), .int 0, .int 0, .int 1, .int 110, .int 0, .int 0, .int 0, .int 0, .int 0, .int 0, .int 0, .int 0, .int 0, .int 0, .int 0]))] s.heap := hP
  have hl := lv_entry ([.ref h0, .int a1, .int a2]) (n := 3) (Nat.le_of_ble_eq_true rfl)
  rw [lg_entry_eq]
  generalize (lg_sl ([.ref h0, .int a1, .int a2]) ++ List.replicate (3 - (lg_sl ([.ref h0, .int a1, .int a2])).length) Slot.unset).toArray = ls at hl ⊢
  have hl : lv_has ls 3 [(0, .ref h0), (1, .int a1), (2, .int a2)] := hl
  refine lv_aload_n hx hb dX7_difference_0 rfl (lv_at hl 0 rfl) ?_
  refine lv_aload_n hx hb dX7_difference_1 rfl (lv_at hl 0 rfl) ?_
  refine lv_iload_n hx hb dX7_difference_2 rfl (lv_at hl 1 rfl) ?_
  refine va_calli (va_runV (As := [.int a1]) (rest := [.ref h0]) ⟨hx, hb, hml, hown, hts⟩ (c_X7_isNoPlayer l D h0 r 0 s.heap.size a1) (cwV 1 hts gX7_difference_X7_isNoPlayer rfl rfl rfl (by decide +kernel) ⟨Nat.le_of_ble_eq_true rfl, Nat.le_of_ble_eq_true rfl⟩) ⟨fun a U g mk q => ⟨q.1, PX7.blind q.2⟩, va_recv hK hP (ci := 13) (q0 := 0) rfl rfl, fun U hU hW => ⟨rfl, PX7.go hP hK hU hW⟩⟩ rfl rfl hl.1 rfl (lv_room (Nat.le_of_ble_eq_true rfl)) dX7_difference_3 ⟨Nat.le_of_ble_eq_true rfl, Nat.le_of_ble_eq_true rfl⟩) hS (fun q h1 h2 => absurd h1 (Nat.not_lt.mpr h2)) (fun q h => hA q (Nat.le_trans hS.1 h)) (fun r1 u t H1 locs ht hvm hw hB hz1 hk1 hS => ?_)
  have hP := va_kept0 hP hk1
  generalize H1 = H at hP hS ⊢
  have hP : va_P D vwCl [(h0, .inr (13, [.ref (r 0), .ref (r 1), .ref (r 2), .ref (r 3), .ref (r 4), .ref (r 5), .ref (r 6), .ref (r 7), .ref (r 8), .ref (r 9), .ref (r 10), .ref (r 11), .ref (r 12), .ref (r 13), .ref (r 14), .ref (r 15), .int 0, .int 0, .int 1, .int 110, .int 0, .int 0, .int 0, .int 0, .int 0, .int 0, .int 0, .int 0, .int 0, .int 0, .int 0]))] H := hP
  obtain rfl : r1 = 1 := hw
  refine lv_if_ne (tgt := 33) hx hb dX7_difference_6 (by decide) (fun _ => ?_) (fun c => by first | exact absurd (by decide) c | exact absurd c (by decide))
  refine lv_iconst (v := 1) hx hb dX7_difference_33 (by decide) ?_
  refine lv_goto (tgt := 38) hx hb dX7_difference_34 (by decide) ?_
  refine lv_iconst (v := 1) hx hb dX7_difference_38 (by decide) ?_
  have hFc : ∀ q : Nat, rg1 h0 H.size q → A q := fun q h => h.elim (fun e => by rw [e]; exact hD.2 0 _ rfl) (fun h => hA q (Nat.le_trans hS.1 h))
  refine va_calli (va_runV (As := [.int 1, .int 1]) (rest := []) ⟨hx, hb, hml, hown, hts⟩ (c_X7_isThrown l D h0 r 0 H.size 1 1 (Or.inr rfl)) (cwV 2 hts gX7_difference_X7_isThrown rfl rfl rfl (by decide +kernel) ⟨Nat.le_of_ble_eq_true rfl, Nat.le_of_ble_eq_true rfl⟩) ⟨fun a U g mk q => ⟨q.1, PX7.blind q.2⟩, va_recv hK hP (ci := 13) (q0 := 0) rfl rfl, fun U hU hW => ⟨rfl, PX7.go hP hK hU hW⟩⟩ rfl rfl hl.1 rfl (lv_room (Nat.le_of_ble_eq_true rfl)) dX7_difference_39 ⟨Nat.le_of_ble_eq_true rfl, Nat.le_of_ble_eq_true rfl⟩) hS (fun q _ h => hFc q h) hFc (fun r3 u t H1 locs ht hvm hw hB hz1 hk1 hS => ?_)
  rw [ht, if_neg (by decide)] at hB
  have hP := hB
  generalize H1 = H at hP hS ⊢
  have hP : va_P D vwCl [(h0, .inr (13, [.ref (r 0), .ref (r 1), .ref (r 2), .ref (r 3), .ref (r 4), .ref (r 5), .ref (r 6), .ref (r 7), .ref (r 8), .ref (r 9), .ref (r 10), .ref (r 11), .ref (r 12), .ref (r 13), .ref (r 14), .ref (r 15), .int 0, .int 0, .int 1, .int 110, .int 0, .int 0, .int 0, .int 0, .int 0, .int 0, .int 0, .int 0, .int 0, .int 0, .int 1]))] H := hP
  have hD : va_D A [(h0, .inr (13, [.ref (r 0), .ref (r 1), .ref (r 2), .ref (r 3), .ref (r 4), .ref (r 5), .ref (r 6), .ref (r 7), .ref (r 8), .ref (r 9), .ref (r 10), .ref (r 11), .ref (r 12), .ref (r 13), .ref (r 14), .ref (r 15), .int 0, .int 0, .int 1, .int 110, .int 0, .int 0, .int 0, .int 0, .int 0, .int 0, .int 0, .int 0, .int 0, .int 0, .int 1]))] := by rw [← hAe]; exact rg1_D
  obtain rfl : r3 = 1 := hw
  refine lv_if_eq (tgt := 49) hx hb dX7_difference_42 (by decide) (fun c => by first | exact absurd c (by decide) | exact absurd (by decide) c) (fun _ => ?_)
  refine lv_iconst (v := 0) hx hb dX7_difference_45 (by decide) ?_
  refine lv_goto (tgt := 70) hx hb dX7_difference_46 (by decide) ?_
  have hP9 := hP
  exact W.iret (v := 0) hx hb hr (fun t ht hW => ⟨⟨0, [.ref (r 0), .ref (r 1), .ref (r 2), .ref (r 3), .ref (r 4), .ref (r 5), .ref (r 6), .ref (r 7), .ref (r 8), .ref (r 9), .ref (r 10), .ref (r 11), .ref (r 12), .ref (r 13), .ref (r 14), .ref (r 15), .int 0, .int 0, .int 1, .int 110, .int 0, .int 0, .int 0, .int 0, .int 0, .int 0, .int 0, .int 0, .int 0, .int 0, .int 1], rfl, rfl, by rw [← ht] at hP9; exact hP9⟩, hS.F ht⟩) hS.2.2 dX7_difference_70
set_option maxHeartbeats 4000000 in
set_option maxRecDepth 100000 in
theorem c_X7_index (l : Launch) (D : va_G) (h0 : Nat) (r : Nat → Nat) (sz : Nat) (a1 : Int32) : Met l yX7_index wsX7_index ({ frames := 60, cells := 0, slots := 0, locals := 600 }) (va_Pc [.ref h0, .int a1] (PX7 D h0 r 0 sz)) (va_Qi (fun (r9 : Int32) (u : List Value) => u[30]? = some (.int 1)) (fun u t => va_P D vwCl [(h0, .inr (13, u))] t.heap) (rg1 h0 sz)) 0 0 (rg1 h0 sz) := by
  refine Met.ofW (cc := cX7_index) (maxL := 2) (ret := (some .int)) (by decide +kernel) rfl ?_
  intro p e s m args below meth c s₁ B hml hv
  obtain ⟨rfl, hsz, hP, hK⟩ := hv
  have hx := B.exec
  have hb := B.bytes
  have hr := B.returns
  have hts := atoms_spec (ws := wsX7_index) B.pre
  have hown : s.vm.findClass RX7 = some m.cls := findClass_of_methodNamed B.named
  have hlocks := B.notSynchronized
  subst hsz
  have hD : va_D (rg1 h0 s.heap.size) [(h0, .inr (13, [.ref (r 0), .ref (r 1), .ref (r 2), .ref (r 3), .ref (r 4), .ref (r 5), .ref (r 6), .ref (r 7), .ref (r 8), .ref (r 9), .ref (r 10), .ref (r 11), .ref (r 12), .ref (r 13), .ref (r 14), .ref (r 15), .int 0, .int 0, .int 1, .int 110, .int 0, .int 0, .int 0, .int 0, .int 0, .int 0, .int 0, .int 0, .int 0, .int 0, .int 0]))] := rg1_D
  generalize hAe : rg1 h0 s.heap.size = A at hD ⊢
  have hA : ∀ q : Nat, s.heap.size ≤ q → A q := fun q h => by rw [← hAe]; exact Or.inr h
  have hS : va_S A s.heap s.heap [] := va_S.rf
  have hP : va_P D vwCl [(h0, .inr (13, [.ref (r 0), .ref (r 1), .ref (r 2), .ref (r 3), .ref (r 4), .ref (r 5), .ref (r 6), .ref (r 7), .ref (r 8), .ref (r 9), .ref (r 10), .ref (r 11), .ref (r 12), .ref (r 13), .ref (r 14), .ref (r 15), .int 0, .int 0, .int 1, .int 110, .int 0, .int 0, .int 0, .int 0, .int 0, .int 0, .int 0, .int 0, .int 0, .int 0, .int 0]))] s.heap := hP
  have hl := lv_entry ([.ref h0, .int a1]) (n := 2) (Nat.le_of_ble_eq_true rfl)
  rw [lg_entry_eq]
  generalize (lg_sl ([.ref h0, .int a1]) ++ List.replicate (2 - (lg_sl ([.ref h0, .int a1])).length) Slot.unset).toArray = ls at hl ⊢
  have hl : lv_has ls 2 [(0, .ref h0), (1, .int a1)] := hl
  refine lv_aload_n hx hb dX7_index_0 rfl (lv_at hl 0 rfl) ?_
  refine lv_aload_n hx hb dX7_index_1 rfl (lv_at hl 0 rfl) ?_
  refine lv_iload_n hx hb dX7_index_2 rfl (lv_at hl 1 rfl) ?_
  refine va_calli (va_runV (As := [.int a1]) (rest := [.ref h0]) ⟨hx, hb, hml, hown, hts⟩ (c_X7_isNoPlayer l D h0 r 0 s.heap.size a1) (cwV 1 hts gX7_index_X7_isNoPlayer rfl rfl rfl (by decide +kernel) ⟨Nat.le_of_ble_eq_true rfl, Nat.le_of_ble_eq_true rfl⟩) ⟨fun a U g mk q => ⟨q.1, PX7.blind q.2⟩, va_recv hK hP (ci := 13) (q0 := 0) rfl rfl, fun U hU hW => ⟨rfl, PX7.go hP hK hU hW⟩⟩ rfl rfl hl.1 rfl (lv_room (Nat.le_of_ble_eq_true rfl)) dX7_index_3 ⟨Nat.le_of_ble_eq_true rfl, Nat.le_of_ble_eq_true rfl⟩) hS (fun q h1 h2 => absurd h1 (Nat.not_lt.mpr h2)) (fun q h => hA q (Nat.le_trans hS.1 h)) (fun r1 u t H1 locs ht hvm hw hB hz1 hk1 hS => ?_)
  have hP := va_kept0 hP hk1
  generalize H1 = H at hP hS ⊢
  have hP : va_P D vwCl [(h0, .inr (13, [.ref (r 0), .ref (r 1), .ref (r 2), .ref (r 3), .ref (r 4), .ref (r 5), .ref (r 6), .ref (r 7), .ref (r 8), .ref (r 9), .ref (r 10), .ref (r 11), .ref (r 12), .ref (r 13), .ref (r 14), .ref (r 15), .int 0, .int 0, .int 1, .int 110, .int 0, .int 0, .int 0, .int 0, .int 0, .int 0, .int 0, .int 0, .int 0, .int 0, .int 0]))] H := hP
  obtain rfl : r1 = 1 := hw
  refine lv_iconst (v := 1) hx hb dX7_index_6 (by decide) ?_
  have hFc : ∀ q : Nat, rg1 h0 H.size q → A q := fun q h => h.elim (fun e => by rw [e]; exact hD.2 0 _ rfl) (fun h => hA q (Nat.le_trans hS.1 h))
  refine va_calli (va_runV (As := [.int 1, .int 1]) (rest := []) ⟨hx, hb, hml, hown, hts⟩ (c_X7_isThrown l D h0 r 0 H.size 1 1 (Or.inr rfl)) (cwV 2 hts gX7_index_X7_isThrown rfl rfl rfl (by decide +kernel) ⟨Nat.le_of_ble_eq_true rfl, Nat.le_of_ble_eq_true rfl⟩) ⟨fun a U g mk q => ⟨q.1, PX7.blind q.2⟩, va_recv hK hP (ci := 13) (q0 := 0) rfl rfl, fun U hU hW => ⟨rfl, PX7.go hP hK hU hW⟩⟩ rfl rfl hl.1 rfl (lv_room (Nat.le_of_ble_eq_true rfl)) dX7_index_7 ⟨Nat.le_of_ble_eq_true rfl, Nat.le_of_ble_eq_true rfl⟩) hS (fun q _ h => hFc q h) hFc (fun r2 u t H1 locs ht hvm hw hB hz1 hk1 hS => ?_)
  rw [ht, if_neg (by decide)] at hB
  have hP := hB
  generalize H1 = H at hP hS ⊢
  have hP : va_P D vwCl [(h0, .inr (13, [.ref (r 0), .ref (r 1), .ref (r 2), .ref (r 3), .ref (r 4), .ref (r 5), .ref (r 6), .ref (r 7), .ref (r 8), .ref (r 9), .ref (r 10), .ref (r 11), .ref (r 12), .ref (r 13), .ref (r 14), .ref (r 15), .int 0, .int 0, .int 1, .int 110, .int 0, .int 0, .int 0, .int 0, .int 0, .int 0, .int 0, .int 0, .int 0, .int 0, .int 1]))] H := hP
  have hD : va_D A [(h0, .inr (13, [.ref (r 0), .ref (r 1), .ref (r 2), .ref (r 3), .ref (r 4), .ref (r 5), .ref (r 6), .ref (r 7), .ref (r 8), .ref (r 9), .ref (r 10), .ref (r 11), .ref (r 12), .ref (r 13), .ref (r 14), .ref (r 15), .int 0, .int 0, .int 1, .int 110, .int 0, .int 0, .int 0, .int 0, .int 0, .int 0, .int 0, .int 0, .int 0, .int 0, .int 1]))] := by rw [← hAe]; exact rg1_D
  obtain rfl : r2 = 1 := hw
  refine lv_if_ne (tgt := 35) hx hb dX7_index_10 (by decide) (fun _ => ?_) (fun c => by first | exact absurd (by decide) c | exact absurd c (by decide))
  refine lv_iconst (v := 0) hx hb dX7_index_35 (by decide) ?_
  refine lv_goto (tgt := 45) hx hb dX7_index_36 (by decide) ?_
  have hP9 := hP
  exact W.iret (v := 0) hx hb hr (fun t ht hW => ⟨⟨0, [.ref (r 0), .ref (r 1), .ref (r 2), .ref (r 3), .ref (r 4), .ref (r 5), .ref (r 6), .ref (r 7), .ref (r 8), .ref (r 9), .ref (r 10), .ref (r 11), .ref (r 12), .ref (r 13), .ref (r 14), .ref (r 15), .int 0, .int 0, .int 1, .int 110, .int 0, .int 0, .int 0, .int 0, .int 0, .int 0, .int 0, .int 0, .int 0, .int 0, .int 1], rfl, rfl, by rw [← ht] at hP9; exact hP9⟩, hS.F ht⟩) hS.2.2 dX7_index_45
set_option maxHeartbeats 4000000 in
set_option maxRecDepth 100000 in
theorem c_X7_lowIndex (l : Launch) (D : va_G) (h0 : Nat) (r : Nat → Nat) (sz : Nat) (a1 : Int32) : Met l yX7_lowIndex wsX7_lowIndex ({ frames := 60, cells := 0, slots := 0, locals := 600 }) (va_Pc [.ref h0, .int a1] (PX7 D h0 r 0 sz)) (va_Qi (fun (r9 : Int32) (u : List Value) => u[30]? = some (.int 1)) (fun u t => va_P D vwCl [(h0, .inr (13, u))] t.heap) (rg1 h0 sz)) 0 0 (rg1 h0 sz) := by
  refine Met.ofW (cc := cX7_lowIndex) (maxL := 2) (ret := (some .int)) (by decide +kernel) rfl ?_
  intro p e s m args below meth c s₁ B hml hv
  obtain ⟨rfl, hsz, hP, hK⟩ := hv
  have hx := B.exec
  have hb := B.bytes
  have hr := B.returns
  have hts := atoms_spec (ws := wsX7_lowIndex) B.pre
  have hown : s.vm.findClass RX7 = some m.cls := findClass_of_methodNamed B.named
  have hlocks := B.notSynchronized
  subst hsz
  have hD : va_D (rg1 h0 s.heap.size) [(h0, .inr (13, [.ref (r 0), .ref (r 1), .ref (r 2), .ref (r 3), .ref (r 4), .ref (r 5), .ref (r 6), .ref (r 7), .ref (r 8), .ref (r 9), .ref (r 10), .ref (r 11), .ref (r 12), .ref (r 13), .ref (r 14), .ref (r 15), .int 0, .int 0, .int 1, .int 110, .int 0, .int 0, .int 0, .int 0, .int 0, .int 0, .int 0, .int 0, .int 0, .int 0, .int 0]))] := rg1_D
  generalize hAe : rg1 h0 s.heap.size = A at hD ⊢
  have hA : ∀ q : Nat, s.heap.size ≤ q → A q := fun q h => by rw [← hAe]; exact Or.inr h
  have hS : va_S A s.heap s.heap [] := va_S.rf
  have hP : va_P D vwCl [(h0, .inr (13, [.ref (r 0), .ref (r 1), .ref (r 2), .ref (r 3), .ref (r 4), .ref (r 5), .ref (r 6), .ref (r 7), .ref (r 8), .ref (r 9), .ref (r 10), .ref (r 11), .ref (r 12), .ref (r 13), .ref (r 14), .ref (r 15), .int 0, .int 0, .int 1, .int 110, .int 0, .int 0, .int 0, .int 0, .int 0, .int 0, .int 0, .int 0, .int 0, .int 0, .int 0]))] s.heap := hP
  have hl := lv_entry ([.ref h0, .int a1]) (n := 2) (Nat.le_of_ble_eq_true rfl)
  rw [lg_entry_eq]
  generalize (lg_sl ([.ref h0, .int a1]) ++ List.replicate (2 - (lg_sl ([.ref h0, .int a1])).length) Slot.unset).toArray = ls at hl ⊢
  have hl : lv_has ls 2 [(0, .ref h0), (1, .int a1)] := hl
  refine lv_aload_n hx hb dX7_lowIndex_0 rfl (lv_at hl 0 rfl) ?_
  refine lv_aload_n hx hb dX7_lowIndex_1 rfl (lv_at hl 0 rfl) ?_
  refine lv_iload_n hx hb dX7_lowIndex_2 rfl (lv_at hl 1 rfl) ?_
  refine va_calli (va_runV (As := [.int a1]) (rest := [.ref h0]) ⟨hx, hb, hml, hown, hts⟩ (c_X7_isNoPlayer l D h0 r 0 s.heap.size a1) (cwV 1 hts gX7_lowIndex_X7_isNoPlayer rfl rfl rfl (by decide +kernel) ⟨Nat.le_of_ble_eq_true rfl, Nat.le_of_ble_eq_true rfl⟩) ⟨fun a U g mk q => ⟨q.1, PX7.blind q.2⟩, va_recv hK hP (ci := 13) (q0 := 0) rfl rfl, fun U hU hW => ⟨rfl, PX7.go hP hK hU hW⟩⟩ rfl rfl hl.1 rfl (lv_room (Nat.le_of_ble_eq_true rfl)) dX7_lowIndex_3 ⟨Nat.le_of_ble_eq_true rfl, Nat.le_of_ble_eq_true rfl⟩) hS (fun q h1 h2 => absurd h1 (Nat.not_lt.mpr h2)) (fun q h => hA q (Nat.le_trans hS.1 h)) (fun r1 u t H1 locs ht hvm hw hB hz1 hk1 hS => ?_)
  have hP := va_kept0 hP hk1
  generalize H1 = H at hP hS ⊢
  have hP : va_P D vwCl [(h0, .inr (13, [.ref (r 0), .ref (r 1), .ref (r 2), .ref (r 3), .ref (r 4), .ref (r 5), .ref (r 6), .ref (r 7), .ref (r 8), .ref (r 9), .ref (r 10), .ref (r 11), .ref (r 12), .ref (r 13), .ref (r 14), .ref (r 15), .int 0, .int 0, .int 1, .int 110, .int 0, .int 0, .int 0, .int 0, .int 0, .int 0, .int 0, .int 0, .int 0, .int 0, .int 0]))] H := hP
  obtain rfl : r1 = 1 := hw
  refine lv_iconst (v := 1) hx hb dX7_lowIndex_6 (by decide) ?_
  have hFc : ∀ q : Nat, rg1 h0 H.size q → A q := fun q h => h.elim (fun e => by rw [e]; exact hD.2 0 _ rfl) (fun h => hA q (Nat.le_trans hS.1 h))
  refine va_calli (va_runV (As := [.int 1, .int 1]) (rest := []) ⟨hx, hb, hml, hown, hts⟩ (c_X7_isThrown l D h0 r 0 H.size 1 1 (Or.inr rfl)) (cwV 2 hts gX7_lowIndex_X7_isThrown rfl rfl rfl (by decide +kernel) ⟨Nat.le_of_ble_eq_true rfl, Nat.le_of_ble_eq_true rfl⟩) ⟨fun a U g mk q => ⟨q.1, PX7.blind q.2⟩, va_recv hK hP (ci := 13) (q0 := 0) rfl rfl, fun U hU hW => ⟨rfl, PX7.go hP hK hU hW⟩⟩ rfl rfl hl.1 rfl (lv_room (Nat.le_of_ble_eq_true rfl)) dX7_lowIndex_7 ⟨Nat.le_of_ble_eq_true rfl, Nat.le_of_ble_eq_true rfl⟩) hS (fun q _ h => hFc q h) hFc (fun r2 u t H1 locs ht hvm hw hB hz1 hk1 hS => ?_)
  rw [ht, if_neg (by decide)] at hB
  have hP := hB
  generalize H1 = H at hP hS ⊢
  have hP : va_P D vwCl [(h0, .inr (13, [.ref (r 0), .ref (r 1), .ref (r 2), .ref (r 3), .ref (r 4), .ref (r 5), .ref (r 6), .ref (r 7), .ref (r 8), .ref (r 9), .ref (r 10), .ref (r 11), .ref (r 12), .ref (r 13), .ref (r 14), .ref (r 15), .int 0, .int 0, .int 1, .int 110, .int 0, .int 0, .int 0, .int 0, .int 0, .int 0, .int 0, .int 0, .int 0, .int 0, .int 1]))] H := hP
  have hD : va_D A [(h0, .inr (13, [.ref (r 0), .ref (r 1), .ref (r 2), .ref (r 3), .ref (r 4), .ref (r 5), .ref (r 6), .ref (r 7), .ref (r 8), .ref (r 9), .ref (r 10), .ref (r 11), .ref (r 12), .ref (r 13), .ref (r 14), .ref (r 15), .int 0, .int 0, .int 1, .int 110, .int 0, .int 0, .int 0, .int 0, .int 0, .int 0, .int 0, .int 0, .int 0, .int 0, .int 1]))] := by rw [← hAe]; exact rg1_D
  obtain rfl : r2 = 1 := hw
  refine lv_if_ne (tgt := 35) hx hb dX7_lowIndex_10 (by decide) (fun _ => ?_) (fun c => by first | exact absurd (by decide) c | exact absurd c (by decide))
  refine lv_iconst (v := 0) hx hb dX7_lowIndex_35 (by decide) ?_
  refine lv_goto (tgt := 45) hx hb dX7_lowIndex_36 (by decide) ?_
  have hP9 := hP
  exact W.iret (v := 0) hx hb hr (fun t ht hW => ⟨⟨0, [.ref (r 0), .ref (r 1), .ref (r 2), .ref (r 3), .ref (r 4), .ref (r 5), .ref (r 6), .ref (r 7), .ref (r 8), .ref (r 9), .ref (r 10), .ref (r 11), .ref (r 12), .ref (r 13), .ref (r 14), .ref (r 15), .int 0, .int 0, .int 1, .int 110, .int 0, .int 0, .int 0, .int 0, .int 0, .int 0, .int 0, .int 0, .int 0, .int 0, .int 1], rfl, rfl, by rw [← ht] at hP9; exact hP9⟩, hS.F ht⟩) hS.2.2 dX7_lowIndex_45
set_option maxHeartbeats 4000000 in
set_option maxRecDepth 100000 in
theorem c_X7_penaltyShare (l : Launch) (D : va_G) (h0 : Nat) (r : Nat → Nat) (sz : Nat) (a1 : Int32) : Met l yX7_penaltyShare wsX7_penaltyShare ({ frames := 60, cells := 0, slots := 0, locals := 600 }) (va_Pc [.ref h0, .int a1] (PX7 D h0 r 0 sz)) (va_Qf (fun (r9 : UInt32) (u : List Value) => u[30]? = some (.int 1)) (fun u t => va_P D vwCl [(h0, .inr (13, u))] t.heap) (rg1 h0 sz)) 0 0 (rg1 h0 sz) := by
  refine Met.ofW (cc := cX7_penaltyShare) (maxL := 5) (ret := (some .float)) (by decide +kernel) rfl ?_
  intro p e s m args below meth c s₁ B hml hv
  obtain ⟨rfl, hsz, hP, hK⟩ := hv
  have hx := B.exec
  have hb := B.bytes
  have hr := B.returns
  have hts := atoms_spec (ws := wsX7_penaltyShare) B.pre
  have hown : s.vm.findClass RX7 = some m.cls := findClass_of_methodNamed B.named
  have hlocks := B.notSynchronized
  subst hsz
  have hD : va_D (rg1 h0 s.heap.size) [(h0, .inr (13, [.ref (r 0), .ref (r 1), .ref (r 2), .ref (r 3), .ref (r 4), .ref (r 5), .ref (r 6), .ref (r 7), .ref (r 8), .ref (r 9), .ref (r 10), .ref (r 11), .ref (r 12), .ref (r 13), .ref (r 14), .ref (r 15), .int 0, .int 0, .int 1, .int 110, .int 0, .int 0, .int 0, .int 0, .int 0, .int 0, .int 0, .int 0, .int 0, .int 0, .int 0]))] := rg1_D
  generalize hAe : rg1 h0 s.heap.size = A at hD ⊢
  have hA : ∀ q : Nat, s.heap.size ≤ q → A q := fun q h => by rw [← hAe]; exact Or.inr h
  have hS : va_S A s.heap s.heap [] := va_S.rf
  have hP : va_P D vwCl [(h0, .inr (13, [.ref (r 0), .ref (r 1), .ref (r 2), .ref (r 3), .ref (r 4), .ref (r 5), .ref (r 6), .ref (r 7), .ref (r 8), .ref (r 9), .ref (r 10), .ref (r 11), .ref (r 12), .ref (r 13), .ref (r 14), .ref (r 15), .int 0, .int 0, .int 1, .int 110, .int 0, .int 0, .int 0, .int 0, .int 0, .int 0, .int 0, .int 0, .int 0, .int 0, .int 0]))] s.heap := hP
  have hl := lv_entry ([.ref h0, .int a1]) (n := 5) (Nat.le_of_ble_eq_true rfl)
  rw [lg_entry_eq]
  generalize (lg_sl ([.ref h0, .int a1]) ++ List.replicate (5 - (lg_sl ([.ref h0, .int a1])).length) Slot.unset).toArray = ls at hl ⊢
  have hl : lv_has ls 5 [(0, .ref h0), (1, .int a1)] := hl
  refine lv_aload_n hx hb dX7_penaltyShare_0 rfl (lv_at hl 0 rfl) ?_
  refine lv_aload_n hx hb dX7_penaltyShare_1 rfl (lv_at hl 0 rfl) ?_
  refine lv_iload_n hx hb dX7_penaltyShare_2 rfl (lv_at hl 1 rfl) ?_
  refine va_calli (va_runV (As := [.int a1]) (rest := [.ref h0]) ⟨hx, hb, hml, hown, hts⟩ (c_X7_isNoPlayer l D h0 r 0 s.heap.size a1) (cwV 1 hts gX7_penaltyShare_X7_isNoPlayer rfl rfl rfl (by decide +kernel) ⟨Nat.le_of_ble_eq_true rfl, Nat.le_of_ble_eq_true rfl⟩) ⟨fun a U g mk q => ⟨q.1, PX7.blind q.2⟩, va_recv hK hP (ci := 13) (q0 := 0) rfl rfl, fun U hU hW => ⟨rfl, PX7.go hP hK hU hW⟩⟩ rfl rfl hl.1 rfl (lv_room (Nat.le_of_ble_eq_true rfl)) dX7_penaltyShare_3 ⟨Nat.le_of_ble_eq_true rfl, Nat.le_of_ble_eq_true rfl⟩) hS (fun q h1 h2 => absurd h1 (Nat.not_lt.mpr h2)) (fun q h => hA q (Nat.le_trans hS.1 h)) (fun r1 u t H1 locs ht hvm hw hB hz1 hk1 hS => ?_)
  have hP := va_kept0 hP hk1
  generalize H1 = H at hP hS ⊢
  have hP : va_P D vwCl [(h0, .inr (13, [.ref (r 0), .ref (r 1), .ref (r 2), .ref (r 3), .ref (r 4), .ref (r 5), .ref (r 6), .ref (r 7), .ref (r 8), .ref (r 9), .ref (r 10), .ref (r 11), .ref (r 12), .ref (r 13), .ref (r 14), .ref (r 15), .int 0, .int 0, .int 1, .int 110, .int 0, .int 0, .int 0, .int 0, .int 0, .int 0, .int 0, .int 0, .int 0, .int 0, .int 0]))] H := hP
  obtain rfl : r1 = 1 := hw
  refine lv_iconst (v := 1) hx hb dX7_penaltyShare_6 (by decide) ?_
  have hFc : ∀ q : Nat, rg1 h0 H.size q → A q := fun q h => h.elim (fun e => by rw [e]; exact hD.2 0 _ rfl) (fun h => hA q (Nat.le_trans hS.1 h))
  refine va_calli (va_runV (As := [.int 1, .int 1]) (rest := []) ⟨hx, hb, hml, hown, hts⟩ (c_X7_isThrown l D h0 r 0 H.size 1 1 (Or.inr rfl)) (cwV 2 hts gX7_penaltyShare_X7_isThrown rfl rfl rfl (by decide +kernel) ⟨Nat.le_of_ble_eq_true rfl, Nat.le_of_ble_eq_true rfl⟩) ⟨fun a U g mk q => ⟨q.1, PX7.blind q.2⟩, va_recv hK hP (ci := 13) (q0 := 0) rfl rfl, fun U hU hW => ⟨rfl, PX7.go hP hK hU hW⟩⟩ rfl rfl hl.1 rfl (lv_room (Nat.le_of_ble_eq_true rfl)) dX7_penaltyShare_7 ⟨Nat.le_of_ble_eq_true rfl, Nat.le_of_ble_eq_true rfl⟩) hS (fun q _ h => hFc q h) hFc (fun r2 u t H1 locs ht hvm hw hB hz1 hk1 hS => ?_)
  rw [ht, if_neg (by decide)] at hB
  have hP := hB
  generalize H1 = H at hP hS ⊢
  have hP : va_P D vwCl [(h0, .inr (13, [.ref (r 0), .ref (r 1), .ref (r 2), .ref (r 3), .ref (r 4), .ref (r 5), .ref (r 6), .ref (r 7), .ref (r 8), .ref (r 9), .ref (r 10), .ref (r 11), .ref (r 12), .ref (r 13), .ref (r 14), .ref (r 15), .int 0, .int 0, .int 1, .int 110, .int 0, .int 0, .int 0, .int 0, .int 0, .int 0, .int 0, .int 0, .int 0, .int 0, .int 1]))] H := hP
  have hD : va_D A [(h0, .inr (13, [.ref (r 0), .ref (r 1), .ref (r 2), .ref (r 3), .ref (r 4), .ref (r 5), .ref (r 6), .ref (r 7), .ref (r 8), .ref (r 9), .ref (r 10), .ref (r 11), .ref (r 12), .ref (r 13), .ref (r 14), .ref (r 15), .int 0, .int 0, .int 1, .int 110, .int 0, .int 0, .int 0, .int 0, .int 0, .int 0, .int 0, .int 0, .int 0, .int 0, .int 1]))] := by rw [← hAe]; exact rg1_D
  obtain rfl : r2 = 1 := hw
  refine lv_if_eq (tgt := 15) hx hb dX7_penaltyShare_10 (by decide) (fun c => by first | exact absurd c (by decide) | exact absurd (by decide) c) (fun _ => ?_)
  refine lv_fconst0 hx hb dX7_penaltyShare_13 ?_
  have hP9 := hP
  exact W.fret (v := 0) hx hb hr (fun t ht hW => ⟨⟨0, [.ref (r 0), .ref (r 1), .ref (r 2), .ref (r 3), .ref (r 4), .ref (r 5), .ref (r 6), .ref (r 7), .ref (r 8), .ref (r 9), .ref (r 10), .ref (r 11), .ref (r 12), .ref (r 13), .ref (r 14), .ref (r 15), .int 0, .int 0, .int 1, .int 110, .int 0, .int 0, .int 0, .int 0, .int 0, .int 0, .int 0, .int 0, .int 0, .int 0, .int 1], rfl, rfl, by rw [← ht] at hP9; exact hP9⟩, hS.F ht⟩) hS.2.2 dX7_penaltyShare_14
set_option maxHeartbeats 4000000 in
set_option maxRecDepth 100000 in
theorem c_X7_meanScore (l : Launch) (D : va_G) (h0 : Nat) (r : Nat → Nat) (sz : Nat) (a1 : Int32) : Met l yX7_meanScore wsX7_meanScore ({ frames := 60, cells := 0, slots := 0, locals := 600 }) (va_Pc [.ref h0, .int a1] (PX7 D h0 r 0 sz)) (va_Qd (fun (r9 : UInt64) (u : List Value) => u[30]? = some (.int 1)) (fun u t => va_P D vwCl [(h0, .inr (13, u))] t.heap) (rg1 h0 sz)) 0 0 (rg1 h0 sz) := by
  refine Met.ofW (cc := cX7_meanScore) (maxL := 5) (ret := (some .double)) (by decide +kernel) rfl ?_
  intro p e s m args below meth c s₁ B hml hv
  obtain ⟨rfl, hsz, hP, hK⟩ := hv
  have hx := B.exec
  have hb := B.bytes
  have hr := B.returns
  have hts := atoms_spec (ws := wsX7_meanScore) B.pre
  have hown : s.vm.findClass RX7 = some m.cls := findClass_of_methodNamed B.named
  have hlocks := B.notSynchronized
  subst hsz
  have hD : va_D (rg1 h0 s.heap.size) [(h0, .inr (13, [.ref (r 0), .ref (r 1), .ref (r 2), .ref (r 3), .ref (r 4), .ref (r 5), .ref (r 6), .ref (r 7), .ref (r 8), .ref (r 9), .ref (r 10), .ref (r 11), .ref (r 12), .ref (r 13), .ref (r 14), .ref (r 15), .int 0, .int 0, .int 1, .int 110, .int 0, .int 0, .int 0, .int 0, .int 0, .int 0, .int 0, .int 0, .int 0, .int 0, .int 0]))] := rg1_D
  generalize hAe : rg1 h0 s.heap.size = A at hD ⊢
  have hA : ∀ q : Nat, s.heap.size ≤ q → A q := fun q h => by rw [← hAe]; exact Or.inr h
  have hS : va_S A s.heap s.heap [] := va_S.rf
  have hP : va_P D vwCl [(h0, .inr (13, [.ref (r 0), .ref (r 1), .ref (r 2), .ref (r 3), .ref (r 4), .ref (r 5), .ref (r 6), .ref (r 7), .ref (r 8), .ref (r 9), .ref (r 10), .ref (r 11), .ref (r 12), .ref (r 13), .ref (r 14), .ref (r 15), .int 0, .int 0, .int 1, .int 110, .int 0, .int 0, .int 0, .int 0, .int 0, .int 0, .int 0, .int 0, .int 0, .int 0, .int 0]))] s.heap := hP
  have hl := lv_entry ([.ref h0, .int a1]) (n := 5) (Nat.le_of_ble_eq_true rfl)
  rw [lg_entry_eq]
  generalize (lg_sl ([.ref h0, .int a1]) ++ List.replicate (5 - (lg_sl ([.ref h0, .int a1])).length) Slot.unset).toArray = ls at hl ⊢
  have hl : lv_has ls 5 [(0, .ref h0), (1, .int a1)] := hl
  refine lv_aload_n hx hb dX7_meanScore_0 rfl (lv_at hl 0 rfl) ?_
  refine lv_aload_n hx hb dX7_meanScore_1 rfl (lv_at hl 0 rfl) ?_
  refine lv_iload_n hx hb dX7_meanScore_2 rfl (lv_at hl 1 rfl) ?_
  refine va_calli (va_runV (As := [.int a1]) (rest := [.ref h0]) ⟨hx, hb, hml, hown, hts⟩ (c_X7_isNoHole l D h0 r 0 s.heap.size a1) (cwV 1 hts gX7_meanScore_X7_isNoHole rfl rfl rfl (by decide +kernel) ⟨Nat.le_of_ble_eq_true rfl, Nat.le_of_ble_eq_true rfl⟩) ⟨fun a U g mk q => ⟨q.1, PX7.blind q.2⟩, va_recv hK hP (ci := 13) (q0 := 0) rfl rfl, fun U hU hW => ⟨rfl, PX7.go hP hK hU hW⟩⟩ rfl rfl hl.1 rfl (lv_room (Nat.le_of_ble_eq_true rfl)) dX7_meanScore_3 ⟨Nat.le_of_ble_eq_true rfl, Nat.le_of_ble_eq_true rfl⟩) hS (fun q h1 h2 => absurd h1 (Nat.not_lt.mpr h2)) (fun q h => hA q (Nat.le_trans hS.1 h)) (fun r1 u t H1 locs ht hvm hw hB hz1 hk1 hS => ?_)
  have hP := va_kept0 hP hk1
  generalize H1 = H at hP hS ⊢
  have hP : va_P D vwCl [(h0, .inr (13, [.ref (r 0), .ref (r 1), .ref (r 2), .ref (r 3), .ref (r 4), .ref (r 5), .ref (r 6), .ref (r 7), .ref (r 8), .ref (r 9), .ref (r 10), .ref (r 11), .ref (r 12), .ref (r 13), .ref (r 14), .ref (r 15), .int 0, .int 0, .int 1, .int 110, .int 0, .int 0, .int 0, .int 0, .int 0, .int 0, .int 0, .int 0, .int 0, .int 0, .int 0]))] H := hP
  obtain rfl : r1 = 1 := hw
  refine lv_iconst (v := 1) hx hb dX7_meanScore_6 (by decide) ?_
  have hFc : ∀ q : Nat, rg1 h0 H.size q → A q := fun q h => h.elim (fun e => by rw [e]; exact hD.2 0 _ rfl) (fun h => hA q (Nat.le_trans hS.1 h))
  refine va_calli (va_runV (As := [.int 1, .int 1]) (rest := []) ⟨hx, hb, hml, hown, hts⟩ (c_X7_isThrown l D h0 r 0 H.size 1 1 (Or.inr rfl)) (cwV 2 hts gX7_meanScore_X7_isThrown rfl rfl rfl (by decide +kernel) ⟨Nat.le_of_ble_eq_true rfl, Nat.le_of_ble_eq_true rfl⟩) ⟨fun a U g mk q => ⟨q.1, PX7.blind q.2⟩, va_recv hK hP (ci := 13) (q0 := 0) rfl rfl, fun U hU hW => ⟨rfl, PX7.go hP hK hU hW⟩⟩ rfl rfl hl.1 rfl (lv_room (Nat.le_of_ble_eq_true rfl)) dX7_meanScore_7 ⟨Nat.le_of_ble_eq_true rfl, Nat.le_of_ble_eq_true rfl⟩) hS (fun q _ h => hFc q h) hFc (fun r2 u t H1 locs ht hvm hw hB hz1 hk1 hS => ?_)
  rw [ht, if_neg (by decide)] at hB
  have hP := hB
  generalize H1 = H at hP hS ⊢
  have hP : va_P D vwCl [(h0, .inr (13, [.ref (r 0), .ref (r 1), .ref (r 2), .ref (r 3), .ref (r 4), .ref (r 5), .ref (r 6), .ref (r 7), .ref (r 8), .ref (r 9), .ref (r 10), .ref (r 11), .ref (r 12), .ref (r 13), .ref (r 14), .ref (r 15), .int 0, .int 0, .int 1, .int 110, .int 0, .int 0, .int 0, .int 0, .int 0, .int 0, .int 0, .int 0, .int 0, .int 0, .int 1]))] H := hP
  have hD : va_D A [(h0, .inr (13, [.ref (r 0), .ref (r 1), .ref (r 2), .ref (r 3), .ref (r 4), .ref (r 5), .ref (r 6), .ref (r 7), .ref (r 8), .ref (r 9), .ref (r 10), .ref (r 11), .ref (r 12), .ref (r 13), .ref (r 14), .ref (r 15), .int 0, .int 0, .int 1, .int 110, .int 0, .int 0, .int 0, .int 0, .int 0, .int 0, .int 0, .int 0, .int 0, .int 0, .int 1]))] := by rw [← hAe]; exact rg1_D
  obtain rfl : r2 = 1 := hw
  refine lv_if_eq (tgt := 15) hx hb dX7_meanScore_10 (by decide) (fun c => by first | exact absurd c (by decide) | exact absurd (by decide) c) (fun _ => ?_)
  refine lv_dconst0 hx hb dX7_meanScore_13 ?_
  have hP9 := hP
  exact W.dret (v := 0) hx hb hr (fun t ht hW => ⟨⟨0, [.ref (r 0), .ref (r 1), .ref (r 2), .ref (r 3), .ref (r 4), .ref (r 5), .ref (r 6), .ref (r 7), .ref (r 8), .ref (r 9), .ref (r 10), .ref (r 11), .ref (r 12), .ref (r 13), .ref (r 14), .ref (r 15), .int 0, .int 0, .int 1, .int 110, .int 0, .int 0, .int 0, .int 0, .int 0, .int 0, .int 0, .int 0, .int 0, .int 0, .int 1], rfl, rfl, by rw [← ht] at hP9; exact hP9⟩, hS.F ht⟩) hS.2.2 dX7_meanScore_14
