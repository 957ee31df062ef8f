/-! words of the law -/
theorem cwl74 : Cond.initialized RL ∈ en_cw := cw_at 74 (by decide +kernel) (by decide +kernel)
theorem cwl82 : Cond.initialized RX7 ∈ en_cw := cw_at 82 (by decide +kernel) (by decide +kernel)
theorem cwl371 : Cond.methodLink RL 230 yX6_setSeed ∈ en_cw := cw_at 371 (by decide +kernel) (by decide +kernel)
theorem cwl372 : Cond.instanceMethod yX6_setSeed ∈ en_cw := cw_at 372 (by decide +kernel) (by decide +kernel)
theorem cwl373 : Cond.selects RX6 yX6_setSeed yX6_setSeed ∈ en_cw := cw_at 373 (by decide +kernel) (by decide +kernel)
theorem cwl374 : Cond.code yX6_setSeed cX6_setSeed 3 (some .int) ∈ en_cw := cw_at 374 (by decide +kernel) (by decide +kernel)
theorem cwl375 : Cond.methodLink RL 376 yX6_checksum ∈ en_cw := cw_at 375 (by decide +kernel) (by decide +kernel)
theorem cwl376 : Cond.instanceMethod yX6_checksum ∈ en_cw := cw_at 376 (by decide +kernel) (by decide +kernel)
theorem cwl377 : Cond.selects RX6 yX6_checksum yX6_checksum ∈ en_cw := cw_at 377 (by decide +kernel) (by decide +kernel)
theorem cwl378 : Cond.code yX6_checksum cX6_checksum 6 (some .long) ∈ en_cw := cw_at 378 (by decide +kernel) (by decide +kernel)
theorem cwl385 : Cond.methodLink RL 388 yX6_isSound ∈ en_cw := cw_at 385 (by decide +kernel) (by decide +kernel)
theorem cwl386 : Cond.instanceMethod yX6_isSound ∈ en_cw := cw_at 386 (by decide +kernel) (by decide +kernel)
theorem cwl387 : Cond.selects RX6 yX6_isSound yX6_isSound ∈ en_cw := cw_at 387 (by decide +kernel) (by decide +kernel)
theorem cwl388 : Cond.code yX6_isSound cX6_isSound 3 (some .boolean) ∈ en_cw := cw_at 388 (by decide +kernel) (by decide +kernel)
theorem cwl673 : Cond.methodLink RL 215 yL_kindAt ∈ en_cw := cw_at 673 (by decide +kernel) (by decide +kernel)
theorem cwl674 : Cond.static yL_kindAt ∈ en_cw := cw_at 674 (by decide +kernel) (by decide +kernel)
theorem cwl675 : Cond.codeWith yL_kindAt cL_kindAt 6 (some .int) [(0, 12, 15, 23)] ∈ en_cw := cw_at 675 (by decide +kernel) (by decide +kernel)
theorem cwl692 : Cond.methodLink RL 223 yL_setHandicap ∈ en_cw := cw_at 692 (by decide +kernel) (by decide +kernel)
theorem cwl693 : Cond.static yL_setHandicap ∈ en_cw := cw_at 693 (by decide +kernel) (by decide +kernel)
theorem cwl694 : Cond.codeWith yL_setHandicap cL_setHandicap 5 (some .int) [(0, 10, 13, 23), (0, 10, 17, 13), (0, 10, 21, 15)] ∈ en_cw := cw_at 694 (by decide +kernel) (by decide +kernel)
theorem cwl706 : Cond.methodLink RL 227 yL_gets ∈ en_cw := cw_at 706 (by decide +kernel) (by decide +kernel)
theorem cwl707 : Cond.static yL_gets ∈ en_cw := cw_at 707 (by decide +kernel) (by decide +kernel)
theorem cwl708 : Cond.codeWith yL_gets cL_gets 5 (some .int) [(0, 10, 13, 23)] ∈ en_cw := cw_at 708 (by decide +kernel) (by decide +kernel)
theorem cwl713 : Cond.methodLink RL 234 yL_edition ∈ en_cw := cw_at 713 (by decide +kernel) (by decide +kernel)
theorem cwl714 : Cond.static yL_edition ∈ en_cw := cw_at 714 (by decide +kernel) (by decide +kernel)
theorem cwl715 : Cond.codeWith yL_edition cL_edition 4 (some .int) [(0, 9, 12, 13)] ∈ en_cw := cw_at 715 (by decide +kernel) (by decide +kernel)
theorem cwl750 : Cond.methodLink RL 241 yL_holeOn ∈ en_cw := cw_at 750 (by decide +kernel) (by decide +kernel)
theorem cwl751 : Cond.static yL_holeOn ∈ en_cw := cw_at 751 (by decide +kernel) (by decide +kernel)
theorem cwl752 : Cond.codeWith yL_holeOn cL_holeOn 3 (some .int) [(0, 8, 11, 15)] ∈ en_cw := cw_at 752 (by decide +kernel) (by decide +kernel)
theorem cwl762 : Cond.methodLink RL 244 yL_away ∈ en_cw := cw_at 762 (by decide +kernel) (by decide +kernel)
theorem cwl763 : Cond.static yL_away ∈ en_cw := cw_at 763 (by decide +kernel) (by decide +kernel)
theorem cwl764 : Cond.codeWith yL_away cL_away 3 (some .int) [(0, 8, 11, 15), (0, 8, 14, 54)] ∈ en_cw := cw_at 764 (by decide +kernel) (by decide +kernel)
theorem cwl803 : Cond.methodLink RL 247 yL_stroke ∈ en_cw := cw_at 803 (by decide +kernel) (by decide +kernel)
theorem cwl804 : Cond.static yL_stroke ∈ en_cw := cw_at 804 (by decide +kernel) (by decide +kernel)
theorem cwl805 : Cond.codeWith yL_stroke cL_stroke 6 (some .int) [(0, 12, 15, 23), (0, 12, 19, 15), (0, 12, 23, 17)] ∈ en_cw := cw_at 805 (by decide +kernel) (by decide +kernel)
theorem cwl876 : Cond.methodLink RL 250 yL_odds ∈ en_cw := cw_at 876 (by decide +kernel) (by decide +kernel)
theorem cwl877 : Cond.static yL_odds ∈ en_cw := cw_at 877 (by decide +kernel) (by decide +kernel)
theorem cwl878 : Cond.codeWith yL_odds cL_odds 7 (some .int) [(0, 14, 17, 23), (0, 14, 21, 13), (0, 14, 25, 15), (0, 14, 29, 17)] ∈ en_cw := cw_at 878 (by decide +kernel) (by decide +kernel)
theorem cwl884 : Cond.methodLink RL 254 yL_provisional ∈ en_cw := cw_at 884 (by decide +kernel) (by decide +kernel)
theorem cwl885 : Cond.static yL_provisional ∈ en_cw := cw_at 885 (by decide +kernel) (by decide +kernel)
theorem cwl886 : Cond.codeWith yL_provisional cL_provisional 6 (some .int) [(0, 12, 15, 23), (0, 12, 19, 15), (0, 12, 23, 17)] ∈ en_cw := cw_at 886 (by decide +kernel) (by decide +kernel)
theorem cwl892 : Cond.methodLink RL 257 yL_search ∈ en_cw := cw_at 892 (by decide +kernel) (by decide +kernel)
theorem cwl893 : Cond.static yL_search ∈ en_cw := cw_at 893 (by decide +kernel) (by decide +kernel)
theorem cwl894 : Cond.codeWith yL_search cL_search 4 (some .int) [(0, 9, 12, 23), (0, 9, 15, 15), (0, 9, 18, 17)] ∈ en_cw := cw_at 894 (by decide +kernel) (by decide +kernel)
theorem cwl908 : Cond.methodLink RL 261 yL_again ∈ en_cw := cw_at 908 (by decide +kernel) (by decide +kernel)
theorem cwl909 : Cond.static yL_again ∈ en_cw := cw_at 909 (by decide +kernel) (by decide +kernel)
theorem cwl910 : Cond.codeWith yL_again cL_again 4 (some .int) [(0, 9, 12, 23), (0, 9, 15, 15), (0, 9, 18, 17)] ∈ en_cw := cw_at 910 (by decide +kernel) (by decide +kernel)
theorem cwl928 : Cond.methodLink RL 264 yL_line ∈ en_cw := cw_at 928 (by decide +kernel) (by decide +kernel)
theorem cwl929 : Cond.static yL_line ∈ en_cw := cw_at 929 (by decide +kernel) (by decide +kernel)
theorem cwl930 : Cond.codeWith yL_line cL_line 5 (some .int) [(0, 10, 13, 23), (0, 10, 17, 13), (0, 10, 21, 15), (0, 10, 25, 17)] ∈ en_cw := cw_at 930 (by decide +kernel) (by decide +kernel)
theorem cwl953 : Cond.methodLink RL 267 yL_aside ∈ en_cw := cw_at 953 (by decide +kernel) (by decide +kernel)
theorem cwl954 : Cond.static yL_aside ∈ en_cw := cw_at 954 (by decide +kernel) (by decide +kernel)
theorem cwl955 : Cond.codeWith yL_aside cL_aside 6 (some .int) [(0, 12, 15, 23), (0, 12, 19, 15), (0, 12, 23, 17)] ∈ en_cw := cw_at 955 (by decide +kernel) (by decide +kernel)
theorem cwl970 : Cond.methodLink RL 270 yL_point ∈ en_cw := cw_at 970 (by decide +kernel) (by decide +kernel)
theorem cwl971 : Cond.static yL_point ∈ en_cw := cw_at 971 (by decide +kernel) (by decide +kernel)
theorem cwl972 : Cond.codeWith yL_point cL_point 5 (some .int) [(0, 10, 13, 23), (0, 10, 17, 15), (0, 10, 21, 17), (0, 10, 25, 54)] ∈ en_cw := cw_at 972 (by decide +kernel) (by decide +kernel)
theorem cwl979 : Cond.methodLink RL 274 yL_free ∈ en_cw := cw_at 979 (by decide +kernel) (by decide +kernel)
theorem cwl980 : Cond.static yL_free ∈ en_cw := cw_at 980 (by decide +kernel) (by decide +kernel)
theorem cwl981 : Cond.codeWith yL_free cL_free 6 (some .int) [(0, 12, 15, 23), (0, 12, 19, 15), (0, 12, 23, 17), (0, 12, 27, 54)] ∈ en_cw := cw_at 981 (by decide +kernel) (by decide +kernel)
theorem cwl989 : Cond.methodLink RL 277 yL_wrongPlace ∈ en_cw := cw_at 989 (by decide +kernel) (by decide +kernel)
theorem cwl990 : Cond.static yL_wrongPlace ∈ en_cw := cw_at 990 (by decide +kernel) (by decide +kernel)
theorem cwl991 : Cond.codeWith yL_wrongPlace cL_wrongPlace 6 (some .int) [(0, 19, 22, 23), (0, 19, 26, 15), (0, 19, 30, 17)] ∈ en_cw := cw_at 991 (by decide +kernel) (by decide +kernel)
theorem cwl1002 : Cond.methodLink RL 280 yL_correct ∈ en_cw := cw_at 1002 (by decide +kernel) (by decide +kernel)
theorem cwl1003 : Cond.static yL_correct ∈ en_cw := cw_at 1003 (by decide +kernel) (by decide +kernel)
theorem cwl1004 : Cond.codeWith yL_correct cL_correct 4 (some .int) [(0, 9, 12, 23), (0, 9, 15, 15), (0, 9, 18, 17)] ∈ en_cw := cw_at 1004 (by decide +kernel) (by decide +kernel)
theorem cwl1014 : Cond.methodLink RL 283 yL_move ∈ en_cw := cw_at 1014 (by decide +kernel) (by decide +kernel)
theorem cwl1015 : Cond.static yL_move ∈ en_cw := cw_at 1015 (by decide +kernel) (by decide +kernel)
theorem cwl1016 : Cond.codeWith yL_move cL_move 7 (some .int) [(0, 14, 17, 23), (0, 14, 21, 13), (0, 14, 25, 15), (0, 14, 29, 17)] ∈ en_cw := cw_at 1016 (by decide +kernel) (by decide +kernel)
theorem cwl1023 : Cond.methodLink RL 287 yL_wrongBall ∈ en_cw := cw_at 1023 (by decide +kernel) (by decide +kernel)
theorem cwl1024 : Cond.static yL_wrongBall ∈ en_cw := cw_at 1024 (by decide +kernel) (by decide +kernel)
theorem cwl1025 : Cond.codeWith yL_wrongBall cL_wrongBall 5 (some .int) [(0, 10, 13, 23), (0, 10, 17, 15), (0, 10, 21, 17)] ∈ en_cw := cw_at 1025 (by decide +kernel) (by decide +kernel)
theorem cwl1031 : Cond.methodLink RL 290 yL_pickUp ∈ en_cw := cw_at 1031 (by decide +kernel) (by decide +kernel)
theorem cwl1032 : Cond.static yL_pickUp ∈ en_cw := cw_at 1032 (by decide +kernel) (by decide +kernel)
theorem cwl1033 : Cond.codeWith yL_pickUp cL_pickUp 4 (some .int) [(0, 9, 12, 23), (0, 9, 15, 15), (0, 9, 18, 17)] ∈ en_cw := cw_at 1033 (by decide +kernel) (by decide +kernel)
theorem cwl1043 : Cond.methodLink RL 293 yL_suspend ∈ en_cw := cw_at 1043 (by decide +kernel) (by decide +kernel)
theorem cwl1044 : Cond.static yL_suspend ∈ en_cw := cw_at 1044 (by decide +kernel) (by decide +kernel)
theorem cwl1045 : Cond.codeWith yL_suspend cL_suspend 4 (some .int) [(0, 16, 19, 15)] ∈ en_cw := cw_at 1045 (by decide +kernel) (by decide +kernel)
theorem cwl1050 : Cond.methodLink RL 297 yL_cancel ∈ en_cw := cw_at 1050 (by decide +kernel) (by decide +kernel)
theorem cwl1051 : Cond.static yL_cancel ∈ en_cw := cw_at 1051 (by decide +kernel) (by decide +kernel)
theorem cwl1052 : Cond.codeWith yL_cancel cL_cancel 4 (some .int) [(0, 16, 19, 23), (0, 16, 22, 15), (0, 16, 25, 17)] ∈ en_cw := cw_at 1052 (by decide +kernel) (by decide +kernel)
theorem cwl1058 : Cond.methodLink RL 300 yL_concede ∈ en_cw := cw_at 1058 (by decide +kernel) (by decide +kernel)
theorem cwl1059 : Cond.static yL_concede ∈ en_cw := cw_at 1059 (by decide +kernel) (by decide +kernel)
theorem cwl1060 : Cond.codeWith yL_concede cL_concede 5 (some .int) [(0, 10, 13, 23), (0, 10, 17, 13), (0, 10, 21, 15), (0, 10, 25, 17)] ∈ en_cw := cw_at 1060 (by decide +kernel) (by decide +kernel)
theorem cwl1116 : Cond.methodLink RL 307 yL_state ∈ en_cw := cw_at 1116 (by decide +kernel) (by decide +kernel)
theorem cwl1117 : Cond.static yL_state ∈ en_cw := cw_at 1117 (by decide +kernel) (by decide +kernel)
theorem cwl1118 : Cond.codeWith yL_state cL_state 4 (some .int) [(0, 9, 12, 23), (0, 9, 15, 15)] ∈ en_cw := cw_at 1118 (by decide +kernel) (by decide +kernel)
theorem cwl1123 : Cond.methodLink RL 310 yL_lie ∈ en_cw := cw_at 1123 (by decide +kernel) (by decide +kernel)
theorem cwl1124 : Cond.static yL_lie ∈ en_cw := cw_at 1124 (by decide +kernel) (by decide +kernel)
theorem cwl1125 : Cond.codeWith yL_lie cL_lie 5 (some .int) [(0, 10, 13, 23), (0, 10, 17, 15), (0, 10, 21, 54)] ∈ en_cw := cw_at 1125 (by decide +kernel) (by decide +kernel)
theorem cwl1131 : Cond.methodLink RL 313 yL_strokes ∈ en_cw := cw_at 1131 (by decide +kernel) (by decide +kernel)
theorem cwl1132 : Cond.static yL_strokes ∈ en_cw := cw_at 1132 (by decide +kernel) (by decide +kernel)
theorem cwl1133 : Cond.codeWith yL_strokes cL_strokes 4 (some .int) [(0, 9, 12, 23), (0, 9, 15, 15)] ∈ en_cw := cw_at 1133 (by decide +kernel) (by decide +kernel)
theorem cwl1138 : Cond.methodLink RL 316 yL_penalties ∈ en_cw := cw_at 1138 (by decide +kernel) (by decide +kernel)
theorem cwl1139 : Cond.static yL_penalties ∈ en_cw := cw_at 1139 (by decide +kernel) (by decide +kernel)
theorem cwl1140 : Cond.codeWith yL_penalties cL_penalties 4 (some .int) [(0, 9, 12, 23), (0, 9, 15, 15)] ∈ en_cw := cw_at 1140 (by decide +kernel) (by decide +kernel)
theorem cwl1145 : Cond.methodLink RL 319 yL_isOut ∈ en_cw := cw_at 1145 (by decide +kernel) (by decide +kernel)
theorem cwl1146 : Cond.static yL_isOut ∈ en_cw := cw_at 1146 (by decide +kernel) (by decide +kernel)
theorem cwl1147 : Cond.codeWith yL_isOut cL_isOut 4 (some .int) [(0, 16, 19, 23)] ∈ en_cw := cw_at 1147 (by decide +kernel) (by decide +kernel)
theorem cwl1152 : Cond.methodLink RL 322 yL_score ∈ en_cw := cw_at 1152 (by decide +kernel) (by decide +kernel)
theorem cwl1153 : Cond.static yL_score ∈ en_cw := cw_at 1153 (by decide +kernel) (by decide +kernel)
theorem cwl1154 : Cond.codeWith yL_score cL_score 5 (some .int) [(0, 10, 13, 23), (0, 10, 17, 54)] ∈ en_cw := cw_at 1154 (by decide +kernel) (by decide +kernel)
theorem cwl1160 : Cond.methodLink RL 325 yL_up ∈ en_cw := cw_at 1160 (by decide +kernel) (by decide +kernel)
theorem cwl1161 : Cond.static yL_up ∈ en_cw := cw_at 1161 (by decide +kernel) (by decide +kernel)
theorem cwl1162 : Cond.codeWith yL_up cL_up 3 (some .int) [(0, 8, 11, 17)] ∈ en_cw := cw_at 1162 (by decide +kernel) (by decide +kernel)
theorem cwl1172 : Cond.methodLink RL 328 yL_isMatchOver ∈ en_cw := cw_at 1172 (by decide +kernel) (by decide +kernel)
theorem cwl1173 : Cond.static yL_isMatchOver ∈ en_cw := cw_at 1173 (by decide +kernel) (by decide +kernel)
theorem cwl1174 : Cond.codeWith yL_isMatchOver cL_isMatchOver 3 (some .int) [(0, 15, 18, 17)] ∈ en_cw := cw_at 1174 (by decide +kernel) (by decide +kernel)
theorem cwl1182 : Cond.methodLink RL 331 yL_write ∈ en_cw := cw_at 1182 (by decide +kernel) (by decide +kernel)
theorem cwl1183 : Cond.static yL_write ∈ en_cw := cw_at 1183 (by decide +kernel) (by decide +kernel)
theorem cwl1184 : Cond.codeWith yL_write cL_write 6 (some .int) [(0, 12, 15, 23), (0, 12, 19, 13), (0, 12, 23, 17)] ∈ en_cw := cw_at 1184 (by decide +kernel) (by decide +kernel)
theorem cwl1191 : Cond.methodLink RL 334 yL_sign ∈ en_cw := cw_at 1191 (by decide +kernel) (by decide +kernel)
theorem cwl1192 : Cond.static yL_sign ∈ en_cw := cw_at 1192 (by decide +kernel) (by decide +kernel)
theorem cwl1193 : Cond.codeWith yL_sign cL_sign 4 (some .int) [(0, 16, 19, 23), (0, 16, 22, 17), (0, 16, 25, 54)] ∈ en_cw := cw_at 1193 (by decide +kernel) (by decide +kernel)
theorem cwl1210 : Cond.methodLink RL 337 yL_total ∈ en_cw := cw_at 1210 (by decide +kernel) (by decide +kernel)
theorem cwl1211 : Cond.static yL_total ∈ en_cw := cw_at 1211 (by decide +kernel) (by decide +kernel)
theorem cwl1212 : Cond.codeWith yL_total cL_total 4 (some .int) [(0, 9, 12, 23), (0, 9, 15, 54)] ∈ en_cw := cw_at 1212 (by decide +kernel) (by decide +kernel)
theorem cwl1226 : Cond.methodLink RL 340 yL_stableford ∈ en_cw := cw_at 1226 (by decide +kernel) (by decide +kernel)
theorem cwl1227 : Cond.static yL_stableford ∈ en_cw := cw_at 1227 (by decide +kernel) (by decide +kernel)
theorem cwl1228 : Cond.codeWith yL_stableford cL_stableford 4 (some .int) [(0, 9, 12, 23)] ∈ en_cw := cw_at 1228 (by decide +kernel) (by decide +kernel)
theorem cwl1236 : Cond.methodLink RL 343 yL_parPlay ∈ en_cw := cw_at 1236 (by decide +kernel) (by decide +kernel)
theorem cwl1237 : Cond.static yL_parPlay ∈ en_cw := cw_at 1237 (by decide +kernel) (by decide +kernel)
theorem cwl1238 : Cond.codeWith yL_parPlay cL_parPlay 4 (some .int) [(0, 9, 12, 23), (0, 9, 15, 54)] ∈ en_cw := cw_at 1238 (by decide +kernel) (by decide +kernel)
theorem cwl1248 : Cond.methodLink RL 346 yL_together ∈ en_cw := cw_at 1248 (by decide +kernel) (by decide +kernel)
theorem cwl1249 : Cond.static yL_together ∈ en_cw := cw_at 1249 (by decide +kernel) (by decide +kernel)
theorem cwl1250 : Cond.codeWith yL_together cL_together 5 (some .int) [(0, 10, 13, 23), (0, 10, 17, 13), (0, 10, 21, 54)] ∈ en_cw := cw_at 1250 (by decide +kernel) (by decide +kernel)
theorem cwl1258 : Cond.methodLink RL 349 yL_skins ∈ en_cw := cw_at 1258 (by decide +kernel) (by decide +kernel)
theorem cwl1259 : Cond.static yL_skins ∈ en_cw := cw_at 1259 (by decide +kernel) (by decide +kernel)
theorem cwl1260 : Cond.codeWith yL_skins cL_skins 4 (some .int) [(0, 9, 12, 23), (0, 9, 15, 54)] ∈ en_cw := cw_at 1260 (by decide +kernel) (by decide +kernel)
theorem cwl1265 : Cond.methodLink RL 352 yL_rank ∈ en_cw := cw_at 1265 (by decide +kernel) (by decide +kernel)
theorem cwl1266 : Cond.static yL_rank ∈ en_cw := cw_at 1266 (by decide +kernel) (by decide +kernel)
theorem cwl1267 : Cond.codeWith yL_rank cL_rank 4 (some .int) [(0, 9, 12, 23), (0, 9, 15, 54)] ∈ en_cw := cw_at 1267 (by decide +kernel) (by decide +kernel)
theorem cwl1289 : Cond.methodLink RL 355 yL_isAhead ∈ en_cw := cw_at 1289 (by decide +kernel) (by decide +kernel)
theorem cwl1290 : Cond.static yL_isAhead ∈ en_cw := cw_at 1290 (by decide +kernel) (by decide +kernel)
theorem cwl1291 : Cond.codeWith yL_isAhead cL_isAhead 5 (some .int) [(0, 17, 20, 23), (0, 17, 24, 54)] ∈ en_cw := cw_at 1291 (by decide +kernel) (by decide +kernel)
theorem cwl1296 : Cond.methodLink RL 358 yL_cut ∈ en_cw := cw_at 1296 (by decide +kernel) (by decide +kernel)
theorem cwl1297 : Cond.static yL_cut ∈ en_cw := cw_at 1297 (by decide +kernel) (by decide +kernel)
theorem cwl1298 : Cond.codeWith yL_cut cL_cut 4 (some .int) [(0, 9, 12, 13)] ∈ en_cw := cw_at 1298 (by decide +kernel) (by decide +kernel)
theorem cwl1304 : Cond.methodLink RL 361 yL_conditions ∈ en_cw := cw_at 1304 (by decide +kernel) (by decide +kernel)
theorem cwl1305 : Cond.static yL_conditions ∈ en_cw := cw_at 1305 (by decide +kernel) (by decide +kernel)
theorem cwl1306 : Cond.codeWith yL_conditions cL_conditions 4 (some .int) [(0, 9, 12, 13)] ∈ en_cw := cw_at 1306 (by decide +kernel) (by decide +kernel)
theorem cwl1312 : Cond.methodLink RL 364 yL_post ∈ en_cw := cw_at 1312 (by decide +kernel) (by decide +kernel)
theorem cwl1313 : Cond.static yL_post ∈ en_cw := cw_at 1313 (by decide +kernel) (by decide +kernel)
theorem cwl1314 : Cond.codeWith yL_post cL_post 6 (some .int) [(0, 12, 15, 23), (0, 12, 19, 13), (0, 12, 23, 17)] ∈ en_cw := cw_at 1314 (by decide +kernel) (by decide +kernel)
theorem cwl1337 : Cond.methodLink RL 367 yL_difference ∈ en_cw := cw_at 1337 (by decide +kernel) (by decide +kernel)
theorem cwl1338 : Cond.static yL_difference ∈ en_cw := cw_at 1338 (by decide +kernel) (by decide +kernel)
theorem cwl1339 : Cond.codeWith yL_difference cL_difference 5 (some .int) [(0, 10, 13, 23)] ∈ en_cw := cw_at 1339 (by decide +kernel) (by decide +kernel)
theorem cwl1346 : Cond.methodLink RL 370 yL_index ∈ en_cw := cw_at 1346 (by decide +kernel) (by decide +kernel)
theorem cwl1347 : Cond.static yL_index ∈ en_cw := cw_at 1347 (by decide +kernel) (by decide +kernel)
theorem cwl1348 : Cond.codeWith yL_index cL_index 4 (some .int) [(0, 9, 12, 23), (0, 9, 15, 54)] ∈ en_cw := cw_at 1348 (by decide +kernel) (by decide +kernel)
theorem cwl1358 : Cond.methodLink RL 373 yL_lowIndex ∈ en_cw := cw_at 1358 (by decide +kernel) (by decide +kernel)
theorem cwl1359 : Cond.static yL_lowIndex ∈ en_cw := cw_at 1359 (by decide +kernel) (by decide +kernel)
theorem cwl1360 : Cond.codeWith yL_lowIndex cL_lowIndex 4 (some .int) [(0, 9, 12, 23), (0, 9, 15, 54)] ∈ en_cw := cw_at 1360 (by decide +kernel) (by decide +kernel)
theorem cwl1365 : Cond.methodLink RL 381 yL_penaltyShare ∈ en_cw := cw_at 1365 (by decide +kernel) (by decide +kernel)
theorem cwl1366 : Cond.static yL_penaltyShare ∈ en_cw := cw_at 1366 (by decide +kernel) (by decide +kernel)
theorem cwl1367 : Cond.codeWith yL_penaltyShare cL_penaltyShare 4 (some .int) [(0, 9, 12, 23), (0, 9, 15, 195)] ∈ en_cw := cw_at 1367 (by decide +kernel) (by decide +kernel)
theorem cwl1388 : Cond.methodLink RL 385 yL_meanScore ∈ en_cw := cw_at 1388 (by decide +kernel) (by decide +kernel)
theorem cwl1389 : Cond.static yL_meanScore ∈ en_cw := cw_at 1389 (by decide +kernel) (by decide +kernel)
theorem cwl1390 : Cond.codeWith yL_meanScore cL_meanScore 4 (some .int) [(0, 8, 11, 23), (0, 8, 14, 195)] ∈ en_cw := cw_at 1390 (by decide +kernel) (by decide +kernel)
theorem cwl1618 : Cond.methodLink RL 218 yX7_kindAt ∈ en_cw := cw_at 1618 (by decide +kernel) (by decide +kernel)
theorem cwl1619 : Cond.instanceMethod yX7_kindAt ∈ en_cw := cw_at 1619 (by decide +kernel) (by decide +kernel)
theorem cwl1620 : Cond.selects RX7 yX7_kindAt yX7_kindAt ∈ en_cw := cw_at 1620 (by decide +kernel) (by decide +kernel)
theorem cwl1621 : Cond.code yX7_kindAt cX7_kindAt 4 (some .char) ∈ en_cw := cw_at 1621 (by decide +kernel) (by decide +kernel)
theorem cwl1626 : Cond.methodLink RL 226 yX7_setHandicap ∈ en_cw := cw_at 1626 (by decide +kernel) (by decide +kernel)
theorem cwl1627 : Cond.instanceMethod yX7_setHandicap ∈ en_cw := cw_at 1627 (by decide +kernel) (by decide +kernel)
theorem cwl1628 : Cond.selects RX7 yX7_setHandicap yX7_setHandicap ∈ en_cw := cw_at 1628 (by decide +kernel) (by decide +kernel)
theorem cwl1629 : Cond.code yX7_setHandicap cX7_setHandicap 4 (some .int) ∈ en_cw := cw_at 1629 (by decide +kernel) (by decide +kernel)
theorem cwl1634 : Cond.methodLink RL 229 yX7_gets ∈ en_cw := cw_at 1634 (by decide +kernel) (by decide +kernel)
theorem cwl1635 : Cond.instanceMethod yX7_gets ∈ en_cw := cw_at 1635 (by decide +kernel) (by decide +kernel)
theorem cwl1636 : Cond.selects RX7 yX7_gets yX7_gets ∈ en_cw := cw_at 1636 (by decide +kernel) (by decide +kernel)
theorem cwl1637 : Cond.code yX7_gets cX7_gets 3 (some .int) ∈ en_cw := cw_at 1637 (by decide +kernel) (by decide +kernel)
theorem cwl1642 : Cond.methodLink RL 233 yX7_setSeed ∈ en_cw := cw_at 1642 (by decide +kernel) (by decide +kernel)
theorem cwl1643 : Cond.instanceMethod yX7_setSeed ∈ en_cw := cw_at 1643 (by decide +kernel) (by decide +kernel)
theorem cwl1644 : Cond.selects RX7 yX7_setSeed yX7_setSeed ∈ en_cw := cw_at 1644 (by decide +kernel) (by decide +kernel)
theorem cwl1645 : Cond.code yX7_setSeed cX7_setSeed 3 (some .int) ∈ en_cw := cw_at 1645 (by decide +kernel) (by decide +kernel)
theorem cwl1646 : Cond.methodLink RL 237 yX7_edition ∈ en_cw := cw_at 1646 (by decide +kernel) (by decide +kernel)
theorem cwl1647 : Cond.instanceMethod yX7_edition ∈ en_cw := cw_at 1647 (by decide +kernel) (by decide +kernel)
theorem cwl1648 : Cond.selects RX7 yX7_edition yX7_edition ∈ en_cw := cw_at 1648 (by decide +kernel) (by decide +kernel)
theorem cwl1649 : Cond.code yX7_edition cX7_edition 3 (some .char) ∈ en_cw := cw_at 1649 (by decide +kernel) (by decide +kernel)
theorem cwl1658 : Cond.methodLink RL 243 yX7_holeOn ∈ en_cw := cw_at 1658 (by decide +kernel) (by decide +kernel)
theorem cwl1659 : Cond.instanceMethod yX7_holeOn ∈ en_cw := cw_at 1659 (by decide +kernel) (by decide +kernel)
theorem cwl1660 : Cond.selects RX7 yX7_holeOn yX7_holeOn ∈ en_cw := cw_at 1660 (by decide +kernel) (by decide +kernel)
theorem cwl1661 : Cond.code yX7_holeOn cX7_holeOn 1 (some .int) ∈ en_cw := cw_at 1661 (by decide +kernel) (by decide +kernel)
theorem cwl1662 : Cond.methodLink RL 246 yX7_away ∈ en_cw := cw_at 1662 (by decide +kernel) (by decide +kernel)
theorem cwl1663 : Cond.instanceMethod yX7_away ∈ en_cw := cw_at 1663 (by decide +kernel) (by decide +kernel)
theorem cwl1664 : Cond.selects RX7 yX7_away yX7_away ∈ en_cw := cw_at 1664 (by decide +kernel) (by decide +kernel)
theorem cwl1665 : Cond.code yX7_away cX7_away 1 (some .int) ∈ en_cw := cw_at 1665 (by decide +kernel) (by decide +kernel)
theorem cwl1693 : Cond.methodLink RL 249 yX7_stroke ∈ en_cw := cw_at 1693 (by decide +kernel) (by decide +kernel)
theorem cwl1694 : Cond.instanceMethod yX7_stroke ∈ en_cw := cw_at 1694 (by decide +kernel) (by decide +kernel)
theorem cwl1695 : Cond.selects RX7 yX7_stroke yX7_stroke ∈ en_cw := cw_at 1695 (by decide +kernel) (by decide +kernel)
theorem cwl1696 : Cond.code yX7_stroke cX7_stroke 6 (some .char) ∈ en_cw := cw_at 1696 (by decide +kernel) (by decide +kernel)
theorem cwl1730 : Cond.methodLink RL 253 yX7_odds ∈ en_cw := cw_at 1730 (by decide +kernel) (by decide +kernel)
theorem cwl1731 : Cond.instanceMethod yX7_odds ∈ en_cw := cw_at 1731 (by decide +kernel) (by decide +kernel)
theorem cwl1732 : Cond.selects RX7 yX7_odds yX7_odds ∈ en_cw := cw_at 1732 (by decide +kernel) (by decide +kernel)
theorem cwl1733 : Cond.code yX7_odds cX7_odds 12 (some .int) ∈ en_cw := cw_at 1733 (by decide +kernel) (by decide +kernel)
theorem cwl1737 : Cond.methodLink RL 256 yX7_provisional ∈ en_cw := cw_at 1737 (by decide +kernel) (by decide +kernel)
theorem cwl1738 : Cond.instanceMethod yX7_provisional ∈ en_cw := cw_at 1738 (by decide +kernel) (by decide +kernel)
theorem cwl1739 : Cond.selects RX7 yX7_provisional yX7_provisional ∈ en_cw := cw_at 1739 (by decide +kernel) (by decide +kernel)
theorem cwl1740 : Cond.code yX7_provisional cX7_provisional 10 (some .char) ∈ en_cw := cw_at 1740 (by decide +kernel) (by decide +kernel)
theorem cwl1741 : Cond.methodLink RL 260 yX7_search ∈ en_cw := cw_at 1741 (by decide +kernel) (by decide +kernel)
theorem cwl1742 : Cond.instanceMethod yX7_search ∈ en_cw := cw_at 1742 (by decide +kernel) (by decide +kernel)
theorem cwl1743 : Cond.selects RX7 yX7_search yX7_search ∈ en_cw := cw_at 1743 (by decide +kernel) (by decide +kernel)
theorem cwl1744 : Cond.code yX7_search cX7_search 5 (some .char) ∈ en_cw := cw_at 1744 (by decide +kernel) (by decide +kernel)
theorem cwl1745 : Cond.methodLink RL 263 yX7_again ∈ en_cw := cw_at 1745 (by decide +kernel) (by decide +kernel)
theorem cwl1746 : Cond.instanceMethod yX7_again ∈ en_cw := cw_at 1746 (by decide +kernel) (by decide +kernel)
theorem cwl1747 : Cond.selects RX7 yX7_again yX7_again ∈ en_cw := cw_at 1747 (by decide +kernel) (by decide +kernel)
theorem cwl1748 : Cond.code yX7_again cX7_again 4 (some .int) ∈ en_cw := cw_at 1748 (by decide +kernel) (by decide +kernel)
theorem cwl1752 : Cond.methodLink RL 266 yX7_line ∈ en_cw := cw_at 1752 (by decide +kernel) (by decide +kernel)
theorem cwl1753 : Cond.instanceMethod yX7_line ∈ en_cw := cw_at 1753 (by decide +kernel) (by decide +kernel)
theorem cwl1754 : Cond.selects RX7 yX7_line yX7_line ∈ en_cw := cw_at 1754 (by decide +kernel) (by decide +kernel)
theorem cwl1755 : Cond.code yX7_line cX7_line 9 (some .int) ∈ en_cw := cw_at 1755 (by decide +kernel) (by decide +kernel)
theorem cwl1772 : Cond.methodLink RL 269 yX7_aside ∈ en_cw := cw_at 1772 (by decide +kernel) (by decide +kernel)
theorem cwl1773 : Cond.instanceMethod yX7_aside ∈ en_cw := cw_at 1773 (by decide +kernel) (by decide +kernel)
theorem cwl1774 : Cond.selects RX7 yX7_aside yX7_aside ∈ en_cw := cw_at 1774 (by decide +kernel) (by decide +kernel)
theorem cwl1775 : Cond.code yX7_aside cX7_aside 6 (some .int) ∈ en_cw := cw_at 1775 (by decide +kernel) (by decide +kernel)
theorem cwl1776 : Cond.methodLink RL 273 yX7_point ∈ en_cw := cw_at 1776 (by decide +kernel) (by decide +kernel)
theorem cwl1777 : Cond.instanceMethod yX7_point ∈ en_cw := cw_at 1777 (by decide +kernel) (by decide +kernel)
theorem cwl1778 : Cond.selects RX7 yX7_point yX7_point ∈ en_cw := cw_at 1778 (by decide +kernel) (by decide +kernel)
theorem cwl1779 : Cond.code yX7_point cX7_point 4 (some .int) ∈ en_cw := cw_at 1779 (by decide +kernel) (by decide +kernel)
theorem cwl1788 : Cond.methodLink RL 276 yX7_free ∈ en_cw := cw_at 1788 (by decide +kernel) (by decide +kernel)
theorem cwl1789 : Cond.instanceMethod yX7_free ∈ en_cw := cw_at 1789 (by decide +kernel) (by decide +kernel)
theorem cwl1790 : Cond.selects RX7 yX7_free yX7_free ∈ en_cw := cw_at 1790 (by decide +kernel) (by decide +kernel)
theorem cwl1791 : Cond.code yX7_free cX7_free 10 (some .char) ∈ en_cw := cw_at 1791 (by decide +kernel) (by decide +kernel)
theorem cwl1792 : Cond.methodLink RL 279 yX7_wrongPlace ∈ en_cw := cw_at 1792 (by decide +kernel) (by decide +kernel)
theorem cwl1793 : Cond.instanceMethod yX7_wrongPlace ∈ en_cw := cw_at 1793 (by decide +kernel) (by decide +kernel)
theorem cwl1794 : Cond.selects RX7 yX7_wrongPlace yX7_wrongPlace ∈ en_cw := cw_at 1794 (by decide +kernel) (by decide +kernel)
theorem cwl1795 : Cond.code yX7_wrongPlace cX7_wrongPlace 6 (some .boolean) ∈ en_cw := cw_at 1795 (by decide +kernel) (by decide +kernel)
theorem cwl1796 : Cond.methodLink RL 282 yX7_correct ∈ en_cw := cw_at 1796 (by decide +kernel) (by decide +kernel)
theorem cwl1797 : Cond.instanceMethod yX7_correct ∈ en_cw := cw_at 1797 (by decide +kernel) (by decide +kernel)
theorem cwl1798 : Cond.selects RX7 yX7_correct yX7_correct ∈ en_cw := cw_at 1798 (by decide +kernel) (by decide +kernel)
theorem cwl1799 : Cond.code yX7_correct cX7_correct 3 (some .int) ∈ en_cw := cw_at 1799 (by decide +kernel) (by decide +kernel)
theorem cwl1800 : Cond.methodLink RL 286 yX7_move ∈ en_cw := cw_at 1800 (by decide +kernel) (by decide +kernel)
theorem cwl1801 : Cond.instanceMethod yX7_move ∈ en_cw := cw_at 1801 (by decide +kernel) (by decide +kernel)
theorem cwl1802 : Cond.selects RX7 yX7_move yX7_move ∈ en_cw := cw_at 1802 (by decide +kernel) (by decide +kernel)
theorem cwl1803 : Cond.code yX7_move cX7_move 9 (some .int) ∈ en_cw := cw_at 1803 (by decide +kernel) (by decide +kernel)
theorem cwl1804 : Cond.methodLink RL 289 yX7_wrongBall ∈ en_cw := cw_at 1804 (by decide +kernel) (by decide +kernel)
theorem cwl1805 : Cond.instanceMethod yX7_wrongBall ∈ en_cw := cw_at 1805 (by decide +kernel) (by decide +kernel)
theorem cwl1806 : Cond.selects RX7 yX7_wrongBall yX7_wrongBall ∈ en_cw := cw_at 1806 (by decide +kernel) (by decide +kernel)
theorem cwl1807 : Cond.code yX7_wrongBall cX7_wrongBall 4 (some .int) ∈ en_cw := cw_at 1807 (by decide +kernel) (by decide +kernel)
theorem cwl1808 : Cond.methodLink RL 292 yX7_pickUp ∈ en_cw := cw_at 1808 (by decide +kernel) (by decide +kernel)
theorem cwl1809 : Cond.instanceMethod yX7_pickUp ∈ en_cw := cw_at 1809 (by decide +kernel) (by decide +kernel)
theorem cwl1810 : Cond.selects RX7 yX7_pickUp yX7_pickUp ∈ en_cw := cw_at 1810 (by decide +kernel) (by decide +kernel)
theorem cwl1811 : Cond.code yX7_pickUp cX7_pickUp 2 (some .int) ∈ en_cw := cw_at 1811 (by decide +kernel) (by decide +kernel)
theorem cwl1812 : Cond.methodLink RL 296 yX7_suspend ∈ en_cw := cw_at 1812 (by decide +kernel) (by decide +kernel)
theorem cwl1813 : Cond.instanceMethod yX7_suspend ∈ en_cw := cw_at 1813 (by decide +kernel) (by decide +kernel)
theorem cwl1814 : Cond.selects RX7 yX7_suspend yX7_suspend ∈ en_cw := cw_at 1814 (by decide +kernel) (by decide +kernel)
theorem cwl1815 : Cond.code yX7_suspend cX7_suspend 3 (some .boolean) ∈ en_cw := cw_at 1815 (by decide +kernel) (by decide +kernel)
theorem cwl1816 : Cond.methodLink RL 299 yX7_cancel ∈ en_cw := cw_at 1816 (by decide +kernel) (by decide +kernel)
theorem cwl1817 : Cond.instanceMethod yX7_cancel ∈ en_cw := cw_at 1817 (by decide +kernel) (by decide +kernel)
theorem cwl1818 : Cond.selects RX7 yX7_cancel yX7_cancel ∈ en_cw := cw_at 1818 (by decide +kernel) (by decide +kernel)
theorem cwl1819 : Cond.code yX7_cancel cX7_cancel 2 (some .boolean) ∈ en_cw := cw_at 1819 (by decide +kernel) (by decide +kernel)
theorem cwl1820 : Cond.methodLink RL 303 yX7_concede ∈ en_cw := cw_at 1820 (by decide +kernel) (by decide +kernel)
theorem cwl1821 : Cond.instanceMethod yX7_concede ∈ en_cw := cw_at 1821 (by decide +kernel) (by decide +kernel)
theorem cwl1822 : Cond.selects RX7 yX7_concede yX7_concede ∈ en_cw := cw_at 1822 (by decide +kernel) (by decide +kernel)
theorem cwl1823 : Cond.code yX7_concede cX7_concede 6 (some .int) ∈ en_cw := cw_at 1823 (by decide +kernel) (by decide +kernel)
theorem cwl1828 : Cond.methodLink RL 306 yX7_nextHole ∈ en_cw := cw_at 1828 (by decide +kernel) (by decide +kernel)
theorem cwl1829 : Cond.instanceMethod yX7_nextHole ∈ en_cw := cw_at 1829 (by decide +kernel) (by decide +kernel)
theorem cwl1830 : Cond.selects RX7 yX7_nextHole yX7_nextHole ∈ en_cw := cw_at 1830 (by decide +kernel) (by decide +kernel)
theorem cwl1831 : Cond.code yX7_nextHole cX7_nextHole 4 (some .int) ∈ en_cw := cw_at 1831 (by decide +kernel) (by decide +kernel)
theorem cwl1840 : Cond.methodLink RL 309 yX7_state ∈ en_cw := cw_at 1840 (by decide +kernel) (by decide +kernel)
theorem cwl1841 : Cond.instanceMethod yX7_state ∈ en_cw := cw_at 1841 (by decide +kernel) (by decide +kernel)
theorem cwl1842 : Cond.selects RX7 yX7_state yX7_state ∈ en_cw := cw_at 1842 (by decide +kernel) (by decide +kernel)
theorem cwl1843 : Cond.code yX7_state cX7_state 2 (some .char) ∈ en_cw := cw_at 1843 (by decide +kernel) (by decide +kernel)
theorem cwl1848 : Cond.methodLink RL 312 yX7_lie ∈ en_cw := cw_at 1848 (by decide +kernel) (by decide +kernel)
theorem cwl1849 : Cond.instanceMethod yX7_lie ∈ en_cw := cw_at 1849 (by decide +kernel) (by decide +kernel)
theorem cwl1850 : Cond.selects RX7 yX7_lie yX7_lie ∈ en_cw := cw_at 1850 (by decide +kernel) (by decide +kernel)
theorem cwl1851 : Cond.code yX7_lie cX7_lie 3 (some .int) ∈ en_cw := cw_at 1851 (by decide +kernel) (by decide +kernel)
theorem cwl1852 : Cond.methodLink RL 315 yX7_strokes ∈ en_cw := cw_at 1852 (by decide +kernel) (by decide +kernel)
theorem cwl1853 : Cond.instanceMethod yX7_strokes ∈ en_cw := cw_at 1853 (by decide +kernel) (by decide +kernel)
theorem cwl1854 : Cond.selects RX7 yX7_strokes yX7_strokes ∈ en_cw := cw_at 1854 (by decide +kernel) (by decide +kernel)
theorem cwl1855 : Cond.code yX7_strokes cX7_strokes 2 (some .int) ∈ en_cw := cw_at 1855 (by decide +kernel) (by decide +kernel)
theorem cwl1856 : Cond.methodLink RL 318 yX7_penalties ∈ en_cw := cw_at 1856 (by decide +kernel) (by decide +kernel)
theorem cwl1857 : Cond.instanceMethod yX7_penalties ∈ en_cw := cw_at 1857 (by decide +kernel) (by decide +kernel)
theorem cwl1858 : Cond.selects RX7 yX7_penalties yX7_penalties ∈ en_cw := cw_at 1858 (by decide +kernel) (by decide +kernel)
theorem cwl1859 : Cond.code yX7_penalties cX7_penalties 2 (some .int) ∈ en_cw := cw_at 1859 (by decide +kernel) (by decide +kernel)
theorem cwl1860 : Cond.methodLink RL 321 yX7_isOut ∈ en_cw := cw_at 1860 (by decide +kernel) (by decide +kernel)
theorem cwl1861 : Cond.instanceMethod yX7_isOut ∈ en_cw := cw_at 1861 (by decide +kernel) (by decide +kernel)
theorem cwl1862 : Cond.selects RX7 yX7_isOut yX7_isOut ∈ en_cw := cw_at 1862 (by decide +kernel) (by decide +kernel)
theorem cwl1863 : Cond.code yX7_isOut cX7_isOut 2 (some .boolean) ∈ en_cw := cw_at 1863 (by decide +kernel) (by decide +kernel)
theorem cwl1864 : Cond.methodLink RL 324 yX7_score ∈ en_cw := cw_at 1864 (by decide +kernel) (by decide +kernel)
theorem cwl1865 : Cond.instanceMethod yX7_score ∈ en_cw := cw_at 1865 (by decide +kernel) (by decide +kernel)
theorem cwl1866 : Cond.selects RX7 yX7_score yX7_score ∈ en_cw := cw_at 1866 (by decide +kernel) (by decide +kernel)
theorem cwl1867 : Cond.code yX7_score cX7_score 3 (some .int) ∈ en_cw := cw_at 1867 (by decide +kernel) (by decide +kernel)
theorem cwl1868 : Cond.methodLink RL 327 yX7_up ∈ en_cw := cw_at 1868 (by decide +kernel) (by decide +kernel)
theorem cwl1869 : Cond.instanceMethod yX7_up ∈ en_cw := cw_at 1869 (by decide +kernel) (by decide +kernel)
theorem cwl1870 : Cond.selects RX7 yX7_up yX7_up ∈ en_cw := cw_at 1870 (by decide +kernel) (by decide +kernel)
theorem cwl1871 : Cond.code yX7_up cX7_up 1 (some .int) ∈ en_cw := cw_at 1871 (by decide +kernel) (by decide +kernel)
theorem cwl1872 : Cond.methodLink RL 330 yX7_isMatchOver ∈ en_cw := cw_at 1872 (by decide +kernel) (by decide +kernel)
theorem cwl1873 : Cond.instanceMethod yX7_isMatchOver ∈ en_cw := cw_at 1873 (by decide +kernel) (by decide +kernel)
theorem cwl1874 : Cond.selects RX7 yX7_isMatchOver yX7_isMatchOver ∈ en_cw := cw_at 1874 (by decide +kernel) (by decide +kernel)
theorem cwl1875 : Cond.code yX7_isMatchOver cX7_isMatchOver 2 (some .boolean) ∈ en_cw := cw_at 1875 (by decide +kernel) (by decide +kernel)
theorem cwl1876 : Cond.methodLink RL 333 yX7_write ∈ en_cw := cw_at 1876 (by decide +kernel) (by decide +kernel)
theorem cwl1877 : Cond.instanceMethod yX7_write ∈ en_cw := cw_at 1877 (by decide +kernel) (by decide +kernel)
theorem cwl1878 : Cond.selects RX7 yX7_write yX7_write ∈ en_cw := cw_at 1878 (by decide +kernel) (by decide +kernel)
theorem cwl1879 : Cond.code yX7_write cX7_write 5 (some .int) ∈ en_cw := cw_at 1879 (by decide +kernel) (by decide +kernel)
theorem cwl1884 : Cond.methodLink RL 336 yX7_sign ∈ en_cw := cw_at 1884 (by decide +kernel) (by decide +kernel)
theorem cwl1885 : Cond.instanceMethod yX7_sign ∈ en_cw := cw_at 1885 (by decide +kernel) (by decide +kernel)
theorem cwl1886 : Cond.selects RX7 yX7_sign yX7_sign ∈ en_cw := cw_at 1886 (by decide +kernel) (by decide +kernel)
theorem cwl1887 : Cond.code yX7_sign cX7_sign 5 (some .boolean) ∈ en_cw := cw_at 1887 (by decide +kernel) (by decide +kernel)
theorem cwl1888 : Cond.methodLink RL 339 yX7_total ∈ en_cw := cw_at 1888 (by decide +kernel) (by decide +kernel)
theorem cwl1889 : Cond.instanceMethod yX7_total ∈ en_cw := cw_at 1889 (by decide +kernel) (by decide +kernel)
theorem cwl1890 : Cond.selects RX7 yX7_total yX7_total ∈ en_cw := cw_at 1890 (by decide +kernel) (by decide +kernel)
theorem cwl1891 : Cond.code yX7_total cX7_total 2 (some .int) ∈ en_cw := cw_at 1891 (by decide +kernel) (by decide +kernel)
theorem cwl1900 : Cond.methodLink RL 342 yX7_stableford ∈ en_cw := cw_at 1900 (by decide +kernel) (by decide +kernel)
theorem cwl1901 : Cond.instanceMethod yX7_stableford ∈ en_cw := cw_at 1901 (by decide +kernel) (by decide +kernel)
theorem cwl1902 : Cond.selects RX7 yX7_stableford yX7_stableford ∈ en_cw := cw_at 1902 (by decide +kernel) (by decide +kernel)
theorem cwl1903 : Cond.code yX7_stableford cX7_stableford 4 (some .int) ∈ en_cw := cw_at 1903 (by decide +kernel) (by decide +kernel)
theorem cwl1909 : Cond.methodLink RL 345 yX7_parPlay ∈ en_cw := cw_at 1909 (by decide +kernel) (by decide +kernel)
theorem cwl1910 : Cond.instanceMethod yX7_parPlay ∈ en_cw := cw_at 1910 (by decide +kernel) (by decide +kernel)
theorem cwl1911 : Cond.selects RX7 yX7_parPlay yX7_parPlay ∈ en_cw := cw_at 1911 (by decide +kernel) (by decide +kernel)
theorem cwl1912 : Cond.code yX7_parPlay cX7_parPlay 4 (some .int) ∈ en_cw := cw_at 1912 (by decide +kernel) (by decide +kernel)
theorem cwl1914 : Cond.methodLink RL 348 yX7_together ∈ en_cw := cw_at 1914 (by decide +kernel) (by decide +kernel)
theorem cwl1915 : Cond.instanceMethod yX7_together ∈ en_cw := cw_at 1915 (by decide +kernel) (by decide +kernel)
theorem cwl1916 : Cond.selects RX7 yX7_together yX7_together ∈ en_cw := cw_at 1916 (by decide +kernel) (by decide +kernel)
theorem cwl1917 : Cond.code yX7_together cX7_together 8 (some .int) ∈ en_cw := cw_at 1917 (by decide +kernel) (by decide +kernel)
theorem cwl1919 : Cond.methodLink RL 351 yX7_skins ∈ en_cw := cw_at 1919 (by decide +kernel) (by decide +kernel)
theorem cwl1920 : Cond.instanceMethod yX7_skins ∈ en_cw := cw_at 1920 (by decide +kernel) (by decide +kernel)
theorem cwl1921 : Cond.selects RX7 yX7_skins yX7_skins ∈ en_cw := cw_at 1921 (by decide +kernel) (by decide +kernel)
theorem cwl1922 : Cond.code yX7_skins cX7_skins 9 (some .int) ∈ en_cw := cw_at 1922 (by decide +kernel) (by decide +kernel)
theorem cwl1923 : Cond.methodLink RL 354 yX7_rank ∈ en_cw := cw_at 1923 (by decide +kernel) (by decide +kernel)
theorem cwl1924 : Cond.instanceMethod yX7_rank ∈ en_cw := cw_at 1924 (by decide +kernel) (by decide +kernel)
theorem cwl1925 : Cond.selects RX7 yX7_rank yX7_rank ∈ en_cw := cw_at 1925 (by decide +kernel) (by decide +kernel)
theorem cwl1926 : Cond.code yX7_rank cX7_rank 2 (some .int) ∈ en_cw := cw_at 1926 (by decide +kernel) (by decide +kernel)
theorem cwl1935 : Cond.methodLink RL 357 yX7_isAhead ∈ en_cw := cw_at 1935 (by decide +kernel) (by decide +kernel)
theorem cwl1936 : Cond.instanceMethod yX7_isAhead ∈ en_cw := cw_at 1936 (by decide +kernel) (by decide +kernel)
theorem cwl1937 : Cond.selects RX7 yX7_isAhead yX7_isAhead ∈ en_cw := cw_at 1937 (by decide +kernel) (by decide +kernel)
theorem cwl1938 : Cond.code yX7_isAhead cX7_isAhead 9 (some .boolean) ∈ en_cw := cw_at 1938 (by decide +kernel) (by decide +kernel)
theorem cwl1939 : Cond.methodLink RL 360 yX7_cut ∈ en_cw := cw_at 1939 (by decide +kernel) (by decide +kernel)
theorem cwl1940 : Cond.instanceMethod yX7_cut ∈ en_cw := cw_at 1940 (by decide +kernel) (by decide +kernel)
theorem cwl1941 : Cond.selects RX7 yX7_cut yX7_cut ∈ en_cw := cw_at 1941 (by decide +kernel) (by decide +kernel)
theorem cwl1942 : Cond.code yX7_cut cX7_cut 4 (some .int) ∈ en_cw := cw_at 1942 (by decide +kernel) (by decide +kernel)
theorem cwl1943 : Cond.methodLink RL 363 yX7_conditions ∈ en_cw := cw_at 1943 (by decide +kernel) (by decide +kernel)
theorem cwl1944 : Cond.instanceMethod yX7_conditions ∈ en_cw := cw_at 1944 (by decide +kernel) (by decide +kernel)
theorem cwl1945 : Cond.selects RX7 yX7_conditions yX7_conditions ∈ en_cw := cw_at 1945 (by decide +kernel) (by decide +kernel)
theorem cwl1946 : Cond.code yX7_conditions cX7_conditions 3 (some .int) ∈ en_cw := cw_at 1946 (by decide +kernel) (by decide +kernel)
theorem cwl2327 : Cond.methodLink RL 380 yX7_checksum ∈ en_cw := cw_at 2327 (by decide +kernel) (by decide +kernel)
theorem cwl2328 : Cond.instanceMethod yX7_checksum ∈ en_cw := cw_at 2328 (by decide +kernel) (by decide +kernel)
theorem cwl2329 : Cond.selects RX7 yX7_checksum yX7_checksum ∈ en_cw := cw_at 2329 (by decide +kernel) (by decide +kernel)
theorem cwl2330 : Cond.code yX7_checksum cX7_checksum 5 (some .long) ∈ en_cw := cw_at 2330 (by decide +kernel) (by decide +kernel)
theorem cwl2333 : Cond.methodLink RL 384 yX7_penaltyShare ∈ en_cw := cw_at 2333 (by decide +kernel) (by decide +kernel)
theorem cwl2334 : Cond.instanceMethod yX7_penaltyShare ∈ en_cw := cw_at 2334 (by decide +kernel) (by decide +kernel)
theorem cwl2335 : Cond.selects RX7 yX7_penaltyShare yX7_penaltyShare ∈ en_cw := cw_at 2335 (by decide +kernel) (by decide +kernel)
theorem cwl2336 : Cond.code yX7_penaltyShare cX7_penaltyShare 5 (some .float) ∈ en_cw := cw_at 2336 (by decide +kernel) (by decide +kernel)
theorem cwl2337 : Cond.methodLink RL 387 yX7_meanScore ∈ en_cw := cw_at 2337 (by decide +kernel) (by decide +kernel)
theorem cwl2338 : Cond.instanceMethod yX7_meanScore ∈ en_cw := cw_at 2338 (by decide +kernel) (by decide +kernel)
theorem cwl2339 : Cond.selects RX7 yX7_meanScore yX7_meanScore ∈ en_cw := cw_at 2339 (by decide +kernel) (by decide +kernel)
theorem cwl2340 : Cond.code yX7_meanScore cX7_meanScore 5 (some .double) ∈ en_cw := cw_at 2340 (by decide +kernel) (by decide +kernel)
theorem cwl2341 : Cond.methodLink RL 391 yX7_isSound ∈ en_cw := cw_at 2341 (by decide +kernel) (by decide +kernel)
theorem cwl2342 : Cond.instanceMethod yX7_isSound ∈ en_cw := cw_at 2342 (by decide +kernel) (by decide +kernel)
theorem cwl2343 : Cond.selects RX7 yX7_isSound yX7_isSound ∈ en_cw := cw_at 2343 (by decide +kernel) (by decide +kernel)
theorem cwl2344 : Cond.code yX7_isSound cX7_isSound 1 (some .boolean) ∈ en_cw := cw_at 2344 (by decide +kernel) (by decide +kernel)
theorem dlw_949 : decode cL_law 949 = .ok (.invokevirtual 263, 3) := by decide +kernel
theorem gm_X7_again : en_CV en_cw RL 263 yX7_again RX7 cX7_again 4 (some .int) 1 := en_gv cwl1745 cwl1746 cwl1747 cwl82 cwl1748 ⟨rfl, by decide, by decide, by decide +kernel⟩
theorem dlw_1041 : decode cL_law 1041 = .ok (.invokevirtual 269, 3) := by decide +kernel
theorem gm_X7_aside : en_CV en_cw RL 269 yX7_aside RX7 cX7_aside 6 (some .int) 3 := en_gv cwl1772 cwl1773 cwl1774 cwl82 cwl1775 ⟨rfl, by decide, by decide, by decide +kernel⟩
theorem dlw_723 : decode cL_law 723 = .ok (.invokevirtual 246, 3) := by decide +kernel
theorem gm_X7_away : en_CV en_cw RL 246 yX7_away RX7 cX7_away 1 (some .int) 0 := en_gv cwl1662 cwl1663 cwl1664 cwl82 cwl1665 ⟨rfl, by decide, by decide, by decide +kernel⟩
theorem dlw_1435 : decode cL_law 1435 = .ok (.invokevirtual 299, 3) := by decide +kernel
theorem gm_X7_cancel : en_CV en_cw RL 299 yX7_cancel RX7 cX7_cancel 2 (some .boolean) 1 := en_gv cwl1816 cwl1817 cwl1818 cwl82 cwl1819 ⟨rfl, by decide, by decide, by decide +kernel⟩
theorem dlw_2250 : decode cL_law 2250 = .ok (.invokevirtual 380, 3) := by decide +kernel
theorem gm_X7_checksum : en_CV en_cw RL 380 yX7_checksum RX7 cX7_checksum 5 (some .long) 0 := en_gv cwl2327 cwl2328 cwl2329 cwl82 cwl2330 ⟨rfl, by decide, by decide, by decide +kernel⟩
theorem dlw_1477 : decode cL_law 1477 = .ok (.invokevirtual 303, 3) := by decide +kernel
theorem gm_X7_concede : en_CV en_cw RL 303 yX7_concede RX7 cX7_concede 6 (some .int) 2 := en_gv cwl1820 cwl1821 cwl1822 cwl82 cwl1823 ⟨rfl, by decide, by decide, by decide +kernel⟩
theorem dlw_2089 : decode cL_law 2089 = .ok (.invokevirtual 363, 3) := by decide +kernel
theorem gm_X7_conditions : en_CV en_cw RL 363 yX7_conditions RX7 cX7_conditions 3 (some .int) 1 := en_gv cwl1943 cwl1944 cwl1945 cwl82 cwl1946 ⟨rfl, by decide, by decide, by decide +kernel⟩
theorem dlw_1229 : decode cL_law 1229 = .ok (.invokevirtual 282, 3) := by decide +kernel
theorem gm_X7_correct : en_CV en_cw RL 282 yX7_correct RX7 cX7_correct 3 (some .int) 1 := en_gv cwl1796 cwl1797 cwl1798 cwl82 cwl1799 ⟨rfl, by decide, by decide, by decide +kernel⟩
theorem dlw_2061 : decode cL_law 2061 = .ok (.invokevirtual 360, 3) := by decide +kernel
theorem gm_X7_cut : en_CV en_cw RL 360 yX7_cut RX7 cX7_cut 4 (some .int) 1 := en_gv cwl1939 cwl1940 cwl1941 cwl82 cwl1942 ⟨rfl, by decide, by decide, by decide +kernel⟩
theorem dlw_661 : decode cL_law 661 = .ok (.invokevirtual 237, 3) := by decide +kernel
theorem gm_X7_edition : en_CV en_cw RL 237 yX7_edition RX7 cX7_edition 3 (some .char) 1 := en_gv cwl1646 cwl1647 cwl1648 cwl82 cwl1649 ⟨rfl, by decide, by decide, by decide +kernel⟩
theorem dlw_1149 : decode cL_law 1149 = .ok (.invokevirtual 276, 3) := by decide +kernel
theorem gm_X7_free : en_CV en_cw RL 276 yX7_free RX7 cX7_free 10 (some .char) 3 := en_gv cwl1788 cwl1789 cwl1790 cwl82 cwl1791 ⟨rfl, by decide, by decide, by decide +kernel⟩
theorem dlw_606 : decode cL_law 606 = .ok (.invokevirtual 229, 3) := by decide +kernel
theorem gm_X7_gets : en_CV en_cw RL 229 yX7_gets RX7 cX7_gets 3 (some .int) 2 := en_gv cwl1634 cwl1635 cwl1636 cwl82 cwl1637 ⟨rfl, by decide, by decide, by decide +kernel⟩
theorem dlw_707 : decode cL_law 707 = .ok (.invokevirtual 243, 3) := by decide +kernel
theorem gm_X7_holeOn : en_CV en_cw RL 243 yX7_holeOn RX7 cX7_holeOn 1 (some .int) 0 := en_gv cwl1658 cwl1659 cwl1660 cwl82 cwl1661 ⟨rfl, by decide, by decide, by decide +kernel⟩
theorem dlw_2033 : decode cL_law 2033 = .ok (.invokevirtual 357, 3) := by decide +kernel
theorem gm_X7_isAhead : en_CV en_cw RL 357 yX7_isAhead RX7 cX7_isAhead 9 (some .boolean) 2 := en_gv cwl1935 cwl1936 cwl1937 cwl82 cwl1938 ⟨rfl, by decide, by decide, by decide +kernel⟩
theorem dlw_1733 : decode cL_law 1733 = .ok (.invokevirtual 330, 3) := by decide +kernel
theorem gm_X7_isMatchOver : en_CV en_cw RL 330 yX7_isMatchOver RX7 cX7_isMatchOver 2 (some .boolean) 0 := en_gv cwl1872 cwl1873 cwl1874 cwl82 cwl1875 ⟨rfl, by decide, by decide, by decide +kernel⟩
theorem dlw_1661 : decode cL_law 1661 = .ok (.invokevirtual 321, 3) := by decide +kernel
theorem gm_X7_isOut : en_CV en_cw RL 321 yX7_isOut RX7 cX7_isOut 2 (some .boolean) 1 := en_gv cwl1860 cwl1861 cwl1862 cwl82 cwl1863 ⟨rfl, by decide, by decide, by decide +kernel⟩
theorem dlw_2323 : decode cL_law 2323 = .ok (.invokevirtual 391, 3) := by decide +kernel
theorem gm_X7_isSound : en_CV en_cw RL 391 yX7_isSound RX7 cX7_isSound 1 (some .boolean) 0 := en_gv cwl2341 cwl2342 cwl2343 cwl82 cwl2344 ⟨rfl, by decide, by decide, by decide +kernel⟩
theorem dlw_510 : decode cL_law 510 = .ok (.invokevirtual 218, 3) := by decide +kernel
theorem gm_X7_kindAt : en_CV en_cw RL 218 yX7_kindAt RX7 cX7_kindAt 4 (some .char) 3 := en_gv cwl1618 cwl1619 cwl1620 cwl82 cwl1621 ⟨rfl, by decide, by decide, by decide +kernel⟩
theorem dlw_1577 : decode cL_law 1577 = .ok (.invokevirtual 312, 3) := by decide +kernel
theorem gm_X7_lie : en_CV en_cw RL 312 yX7_lie RX7 cX7_lie 3 (some .int) 2 := en_gv cwl1848 cwl1849 cwl1850 cwl82 cwl1851 ⟨rfl, by decide, by decide, by decide +kernel⟩
theorem dlw_989 : decode cL_law 989 = .ok (.invokevirtual 266, 3) := by decide +kernel
theorem gm_X7_line : en_CV en_cw RL 266 yX7_line RX7 cX7_line 9 (some .int) 2 := en_gv cwl1752 cwl1753 cwl1754 cwl82 cwl1755 ⟨rfl, by decide, by decide, by decide +kernel⟩
theorem dlw_2309 : decode cL_law 2309 = .ok (.invokevirtual 387, 3) := by decide +kernel
theorem gm_X7_meanScore : en_CV en_cw RL 387 yX7_meanScore RX7 cX7_meanScore 5 (some .double) 1 := en_gv cwl2337 cwl2338 cwl2339 cwl82 cwl2340 ⟨rfl, by decide, by decide, by decide +kernel⟩
theorem dlw_1295 : decode cL_law 1295 = .ok (.invokevirtual 286, 3) := by decide +kernel
theorem gm_X7_move : en_CV en_cw RL 286 yX7_move RX7 cX7_move 9 (some .int) 4 := en_gv cwl1800 cwl1801 cwl1802 cwl82 cwl1803 ⟨rfl, by decide, by decide, by decide +kernel⟩
theorem dlw_1493 : decode cL_law 1493 = .ok (.invokevirtual 306, 3) := by decide +kernel
theorem gm_X7_nextHole : en_CV en_cw RL 306 yX7_nextHole RX7 cX7_nextHole 4 (some .int) 0 := en_gv cwl1828 cwl1829 cwl1830 cwl82 cwl1831 ⟨rfl, by decide, by decide, by decide +kernel⟩
theorem dlw_841 : decode cL_law 841 = .ok (.invokevirtual 253, 3) := by decide +kernel
theorem gm_X7_odds : en_CV en_cw RL 253 yX7_odds RX7 cX7_odds 12 (some .int) 4 := en_gv cwl1730 cwl1731 cwl1732 cwl82 cwl1733 ⟨rfl, by decide, by decide, by decide +kernel⟩
theorem dlw_1897 : decode cL_law 1897 = .ok (.invokevirtual 345, 3) := by decide +kernel
theorem gm_X7_parPlay : en_CV en_cw RL 345 yX7_parPlay RX7 cX7_parPlay 4 (some .int) 1 := en_gv cwl1909 cwl1910 cwl1911 cwl82 cwl1912 ⟨rfl, by decide, by decide, by decide +kernel⟩
theorem dlw_1633 : decode cL_law 1633 = .ok (.invokevirtual 318, 3) := by decide +kernel
theorem gm_X7_penalties : en_CV en_cw RL 318 yX7_penalties RX7 cX7_penalties 2 (some .int) 1 := en_gv cwl1856 cwl1857 cwl1858 cwl82 cwl1859 ⟨rfl, by decide, by decide, by decide +kernel⟩
theorem dlw_2280 : decode cL_law 2280 = .ok (.invokevirtual 384, 3) := by decide +kernel
theorem gm_X7_penaltyShare : en_CV en_cw RL 384 yX7_penaltyShare RX7 cX7_penaltyShare 5 (some .float) 1 := en_gv cwl2333 cwl2334 cwl2335 cwl82 cwl2336 ⟨rfl, by decide, by decide, by decide +kernel⟩
theorem dlw_1363 : decode cL_law 1363 = .ok (.invokevirtual 292, 3) := by decide +kernel
theorem gm_X7_pickUp : en_CV en_cw RL 292 yX7_pickUp RX7 cX7_pickUp 2 (some .int) 1 := en_gv cwl1808 cwl1809 cwl1810 cwl82 cwl1811 ⟨rfl, by decide, by decide, by decide +kernel⟩
theorem dlw_1097 : decode cL_law 1097 = .ok (.invokevirtual 273, 3) := by decide +kernel
theorem gm_X7_point : en_CV en_cw RL 273 yX7_point RX7 cX7_point 4 (some .int) 2 := en_gv cwl1776 cwl1777 cwl1778 cwl82 cwl1779 ⟨rfl, by decide, by decide, by decide +kernel⟩
theorem dlw_893 : decode cL_law 893 = .ok (.invokevirtual 256, 3) := by decide +kernel
theorem gm_X7_provisional : en_CV en_cw RL 256 yX7_provisional RX7 cX7_provisional 10 (some .char) 3 := en_gv cwl1737 cwl1738 cwl1739 cwl82 cwl1740 ⟨rfl, by decide, by decide, by decide +kernel⟩
theorem dlw_1993 : decode cL_law 1993 = .ok (.invokevirtual 354, 3) := by decide +kernel
theorem gm_X7_rank : en_CV en_cw RL 354 yX7_rank RX7 cX7_rank 2 (some .int) 1 := en_gv cwl1923 cwl1924 cwl1925 cwl82 cwl1926 ⟨rfl, by decide, by decide, by decide +kernel⟩
theorem dlw_1701 : decode cL_law 1701 = .ok (.invokevirtual 324, 3) := by decide +kernel
theorem gm_X7_score : en_CV en_cw RL 324 yX7_score RX7 cX7_score 3 (some .int) 2 := en_gv cwl1864 cwl1865 cwl1866 cwl82 cwl1867 ⟨rfl, by decide, by decide, by decide +kernel⟩
theorem dlw_921 : decode cL_law 921 = .ok (.invokevirtual 260, 3) := by decide +kernel
theorem gm_X7_search : en_CV en_cw RL 260 yX7_search RX7 cX7_search 5 (some .char) 1 := en_gv cwl1741 cwl1742 cwl1743 cwl82 cwl1744 ⟨rfl, by decide, by decide, by decide +kernel⟩
theorem dlw_566 : decode cL_law 566 = .ok (.invokevirtual 226, 3) := by decide +kernel
theorem gm_X7_setHandicap : en_CV en_cw RL 226 yX7_setHandicap RX7 cX7_setHandicap 4 (some .int) 2 := en_gv cwl1626 cwl1627 cwl1628 cwl82 cwl1629 ⟨rfl, by decide, by decide, by decide +kernel⟩
theorem dlw_632 : decode cL_law 632 = .ok (.invokevirtual 233, 3) := by decide +kernel
theorem gm_X7_setSeed : en_CV en_cw RL 233 yX7_setSeed RX7 cX7_setSeed 3 (some .int) 1 := en_gv cwl1642 cwl1643 cwl1644 cwl82 cwl1645 ⟨rfl, by decide, by decide, by decide +kernel⟩
theorem dlw_1813 : decode cL_law 1813 = .ok (.invokevirtual 336, 3) := by decide +kernel
theorem gm_X7_sign : en_CV en_cw RL 336 yX7_sign RX7 cX7_sign 5 (some .boolean) 1 := en_gv cwl1884 cwl1885 cwl1886 cwl82 cwl1887 ⟨rfl, by decide, by decide, by decide +kernel⟩
theorem dlw_1965 : decode cL_law 1965 = .ok (.invokevirtual 351, 3) := by decide +kernel
theorem gm_X7_skins : en_CV en_cw RL 351 yX7_skins RX7 cX7_skins 9 (some .int) 1 := en_gv cwl1919 cwl1920 cwl1921 cwl82 cwl1922 ⟨rfl, by decide, by decide, by decide +kernel⟩
theorem dlw_1869 : decode cL_law 1869 = .ok (.invokevirtual 342, 3) := by decide +kernel
theorem gm_X7_stableford : en_CV en_cw RL 342 yX7_stableford RX7 cX7_stableford 4 (some .int) 1 := en_gv cwl1900 cwl1901 cwl1902 cwl82 cwl1903 ⟨rfl, by decide, by decide, by decide +kernel⟩
theorem dlw_1521 : decode cL_law 1521 = .ok (.invokevirtual 309, 3) := by decide +kernel
theorem gm_X7_state : en_CV en_cw RL 309 yX7_state RX7 cX7_state 2 (some .char) 1 := en_gv cwl1840 cwl1841 cwl1842 cwl82 cwl1843 ⟨rfl, by decide, by decide, by decide +kernel⟩
theorem dlw_775 : decode cL_law 775 = .ok (.invokevirtual 249, 3) := by decide +kernel
theorem gm_X7_stroke : en_CV en_cw RL 249 yX7_stroke RX7 cX7_stroke 6 (some .char) 3 := en_gv cwl1693 cwl1694 cwl1695 cwl82 cwl1696 ⟨rfl, by decide, by decide, by decide +kernel⟩
theorem dlw_1605 : decode cL_law 1605 = .ok (.invokevirtual 315, 3) := by decide +kernel
theorem gm_X7_strokes : en_CV en_cw RL 315 yX7_strokes RX7 cX7_strokes 2 (some .int) 1 := en_gv cwl1852 cwl1853 cwl1854 cwl82 cwl1855 ⟨rfl, by decide, by decide, by decide +kernel⟩
theorem dlw_1407 : decode cL_law 1407 = .ok (.invokevirtual 296, 3) := by decide +kernel
theorem gm_X7_suspend : en_CV en_cw RL 296 yX7_suspend RX7 cX7_suspend 3 (some .boolean) 1 := en_gv cwl1812 cwl1813 cwl1814 cwl82 cwl1815 ⟨rfl, by decide, by decide, by decide +kernel⟩
theorem dlw_1937 : decode cL_law 1937 = .ok (.invokevirtual 348, 3) := by decide +kernel
theorem gm_X7_together : en_CV en_cw RL 348 yX7_together RX7 cX7_together 8 (some .int) 2 := en_gv cwl1914 cwl1915 cwl1916 cwl82 cwl1917 ⟨rfl, by decide, by decide, by decide +kernel⟩
theorem dlw_1841 : decode cL_law 1841 = .ok (.invokevirtual 339, 3) := by decide +kernel
theorem gm_X7_total : en_CV en_cw RL 339 yX7_total RX7 cX7_total 2 (some .int) 1 := en_gv cwl1888 cwl1889 cwl1890 cwl82 cwl1891 ⟨rfl, by decide, by decide, by decide +kernel⟩
theorem dlw_1717 : decode cL_law 1717 = .ok (.invokevirtual 327, 3) := by decide +kernel
theorem gm_X7_up : en_CV en_cw RL 327 yX7_up RX7 cX7_up 1 (some .int) 0 := en_gv cwl1868 cwl1869 cwl1870 cwl82 cwl1871 ⟨rfl, by decide, by decide, by decide +kernel⟩
theorem dlw_1785 : decode cL_law 1785 = .ok (.invokevirtual 333, 3) := by decide +kernel
theorem gm_X7_write : en_CV en_cw RL 333 yX7_write RX7 cX7_write 5 (some .int) 3 := en_gv cwl1876 cwl1877 cwl1878 cwl82 cwl1879 ⟨rfl, by decide, by decide, by decide +kernel⟩
theorem dlw_1335 : decode cL_law 1335 = .ok (.invokevirtual 289, 3) := by decide +kernel
theorem gm_X7_wrongBall : en_CV en_cw RL 289 yX7_wrongBall RX7 cX7_wrongBall 4 (some .int) 2 := en_gv cwl1804 cwl1805 cwl1806 cwl82 cwl1807 ⟨rfl, by decide, by decide, by decide +kernel⟩
theorem dlw_1201 : decode cL_law 1201 = .ok (.invokevirtual 279, 3) := by decide +kernel
theorem gm_X7_wrongPlace : en_CV en_cw RL 279 yX7_wrongPlace RX7 cX7_wrongPlace 6 (some .boolean) 3 := en_gv cwl1792 cwl1793 cwl1794 cwl82 cwl1795 ⟨rfl, by decide, by decide, by decide +kernel⟩
theorem dlw_937 : decode cL_law 937 = .ok (.invokestatic 261, 3) := by decide +kernel
theorem gx_again : GoodIn en_cw (va_wsS RL 261 yL_again (Cond.codeWith yL_again cL_again 4 (some .int) [(0, 9, 12, 23), (0, 9, 15, 15), (0, 9, 18, 17)] :: en_cw)) ∧ (yL_again.cls ≠ "java/lang/invoke/MethodHandle" ∧ yL_again.cls ≠ "java/lang/invoke/VarHandle" ∧ (parseMethodDescriptor yL_again.desc).map (fun d => d.parameters.length) = some 3) := ⟨cw_g (cw_c cwl908 (cw_c cwl909 (cw_c cwl74 (cw_c cwl910 fun _ h => h)))), by decide, by decide, by decide +kernel⟩
theorem dlw_1017 : decode cL_law 1017 = .ok (.invokestatic 267, 3) := by decide +kernel
theorem gx_aside : GoodIn en_cw (va_wsS RL 267 yL_aside (Cond.codeWith yL_aside cL_aside 6 (some .int) [(0, 12, 15, 23), (0, 12, 19, 15), (0, 12, 23, 17)] :: en_cw)) ∧ (yL_aside.cls ≠ "java/lang/invoke/MethodHandle" ∧ yL_aside.cls ≠ "java/lang/invoke/VarHandle" ∧ (parseMethodDescriptor yL_aside.desc).map (fun d => d.parameters.length) = some 5) := ⟨cw_g (cw_c cwl953 (cw_c cwl954 (cw_c cwl74 (cw_c cwl955 fun _ h => h)))), by decide, by decide, by decide +kernel⟩
theorem dlw_717 : decode cL_law 717 = .ok (.invokestatic 244, 3) := by decide +kernel
theorem gx_away : GoodIn en_cw (va_wsS RL 244 yL_away (Cond.codeWith yL_away cL_away 3 (some .int) [(0, 8, 11, 15), (0, 8, 14, 54)] :: en_cw)) ∧ (yL_away.cls ≠ "java/lang/invoke/MethodHandle" ∧ yL_away.cls ≠ "java/lang/invoke/VarHandle" ∧ (parseMethodDescriptor yL_away.desc).map (fun d => d.parameters.length) = some 2) := ⟨cw_g (cw_c cwl762 (cw_c cwl763 (cw_c cwl74 (cw_c cwl764 fun _ h => h)))), by decide, by decide, by decide +kernel⟩
theorem dlw_1423 : decode cL_law 1423 = .ok (.invokestatic 297, 3) := by decide +kernel
theorem gx_cancel : GoodIn en_cw (va_wsS RL 297 yL_cancel (Cond.codeWith yL_cancel cL_cancel 4 (some .int) [(0, 16, 19, 23), (0, 16, 22, 15), (0, 16, 25, 17)] :: en_cw)) ∧ (yL_cancel.cls ≠ "java/lang/invoke/MethodHandle" ∧ yL_cancel.cls ≠ "java/lang/invoke/VarHandle" ∧ (parseMethodDescriptor yL_cancel.desc).map (fun d => d.parameters.length) = some 3) := ⟨cw_g (cw_c cwl1050 (cw_c cwl1051 (cw_c cwl74 (cw_c cwl1052 fun _ h => h)))), by decide, by decide, by decide +kernel⟩
theorem dlw_1458 : decode cL_law 1458 = .ok (.invokestatic 300, 3) := by decide +kernel
theorem gx_concede : GoodIn en_cw (va_wsS RL 300 yL_concede (Cond.codeWith yL_concede cL_concede 5 (some .int) [(0, 10, 13, 23), (0, 10, 17, 13), (0, 10, 21, 15), (0, 10, 25, 17)] :: en_cw)) ∧ (yL_concede.cls ≠ "java/lang/invoke/MethodHandle" ∧ yL_concede.cls ≠ "java/lang/invoke/VarHandle" ∧ (parseMethodDescriptor yL_concede.desc).map (fun d => d.parameters.length) = some 4) := ⟨cw_g (cw_c cwl1058 (cw_c cwl1059 (cw_c cwl74 (cw_c cwl1060 fun _ h => h)))), by decide, by decide, by decide +kernel⟩
theorem dlw_2077 : decode cL_law 2077 = .ok (.invokestatic 361, 3) := by decide +kernel
theorem gx_conditions : GoodIn en_cw (va_wsS RL 361 yL_conditions (Cond.codeWith yL_conditions cL_conditions 4 (some .int) [(0, 9, 12, 13)] :: en_cw)) ∧ (yL_conditions.cls ≠ "java/lang/invoke/MethodHandle" ∧ yL_conditions.cls ≠ "java/lang/invoke/VarHandle" ∧ (parseMethodDescriptor yL_conditions.desc).map (fun d => d.parameters.length) = some 3) := ⟨cw_g (cw_c cwl1304 (cw_c cwl1305 (cw_c cwl74 (cw_c cwl1306 fun _ h => h)))), by decide, by decide, by decide +kernel⟩
theorem dlw_1217 : decode cL_law 1217 = .ok (.invokestatic 280, 3) := by decide +kernel
theorem gx_correct : GoodIn en_cw (va_wsS RL 280 yL_correct (Cond.codeWith yL_correct cL_correct 4 (some .int) [(0, 9, 12, 23), (0, 9, 15, 15), (0, 9, 18, 17)] :: en_cw)) ∧ (yL_correct.cls ≠ "java/lang/invoke/MethodHandle" ∧ yL_correct.cls ≠ "java/lang/invoke/VarHandle" ∧ (parseMethodDescriptor yL_correct.desc).map (fun d => d.parameters.length) = some 3) := ⟨cw_g (cw_c cwl1002 (cw_c cwl1003 (cw_c cwl74 (cw_c cwl1004 fun _ h => h)))), by decide, by decide, by decide +kernel⟩
theorem dlw_2049 : decode cL_law 2049 = .ok (.invokestatic 358, 3) := by decide +kernel
theorem gx_cut : GoodIn en_cw (va_wsS RL 358 yL_cut (Cond.codeWith yL_cut cL_cut 4 (some .int) [(0, 9, 12, 13)] :: en_cw)) ∧ (yL_cut.cls ≠ "java/lang/invoke/MethodHandle" ∧ yL_cut.cls ≠ "java/lang/invoke/VarHandle" ∧ (parseMethodDescriptor yL_cut.desc).map (fun d => d.parameters.length) = some 3) := ⟨cw_g (cw_c cwl1296 (cw_c cwl1297 (cw_c cwl74 (cw_c cwl1298 fun _ h => h)))), by decide, by decide, by decide +kernel⟩
theorem dlw_2163 : decode cL_law 2163 = .ok (.invokestatic 367, 3) := by decide +kernel
theorem gx_difference : GoodIn en_cw (va_wsS RL 367 yL_difference (Cond.codeWith yL_difference cL_difference 5 (some .int) [(0, 10, 13, 23)] :: en_cw)) ∧ (yL_difference.cls ≠ "java/lang/invoke/MethodHandle" ∧ yL_difference.cls ≠ "java/lang/invoke/VarHandle" ∧ (parseMethodDescriptor yL_difference.desc).map (fun d => d.parameters.length) = some 4) := ⟨cw_g (cw_c cwl1337 (cw_c cwl1338 (cw_c cwl74 (cw_c cwl1339 fun _ h => h)))), by decide, by decide, by decide +kernel⟩
theorem dlw_648 : decode cL_law 648 = .ok (.invokestatic 234, 3) := by decide +kernel
theorem gx_edition : GoodIn en_cw (va_wsS RL 234 yL_edition (Cond.codeWith yL_edition cL_edition 4 (some .int) [(0, 9, 12, 13)] :: en_cw)) ∧ (yL_edition.cls ≠ "java/lang/invoke/MethodHandle" ∧ yL_edition.cls ≠ "java/lang/invoke/VarHandle" ∧ (parseMethodDescriptor yL_edition.desc).map (fun d => d.parameters.length) = some 3) := ⟨cw_g (cw_c cwl713 (cw_c cwl714 (cw_c cwl74 (cw_c cwl715 fun _ h => h)))), by decide, by decide, by decide +kernel⟩
theorem dlw_1125 : decode cL_law 1125 = .ok (.invokestatic 274, 3) := by decide +kernel
theorem gx_free : GoodIn en_cw (va_wsS RL 274 yL_free (Cond.codeWith yL_free cL_free 6 (some .int) [(0, 12, 15, 23), (0, 12, 19, 15), (0, 12, 23, 17), (0, 12, 27, 54)] :: en_cw)) ∧ (yL_free.cls ≠ "java/lang/invoke/MethodHandle" ∧ yL_free.cls ≠ "java/lang/invoke/VarHandle" ∧ (parseMethodDescriptor yL_free.desc).map (fun d => d.parameters.length) = some 5) := ⟨cw_g (cw_c cwl979 (cw_c cwl980 (cw_c cwl74 (cw_c cwl981 fun _ h => h)))), by decide, by decide, by decide +kernel⟩
theorem dlw_588 : decode cL_law 588 = .ok (.invokestatic 227, 3) := by decide +kernel
theorem gx_gets : GoodIn en_cw (va_wsS RL 227 yL_gets (Cond.codeWith yL_gets cL_gets 5 (some .int) [(0, 10, 13, 23)] :: en_cw)) ∧ (yL_gets.cls ≠ "java/lang/invoke/MethodHandle" ∧ yL_gets.cls ≠ "java/lang/invoke/VarHandle" ∧ (parseMethodDescriptor yL_gets.desc).map (fun d => d.parameters.length) = some 4) := ⟨cw_g (cw_c cwl706 (cw_c cwl707 (cw_c cwl74 (cw_c cwl708 fun _ h => h)))), by decide, by decide, by decide +kernel⟩
theorem dlw_701 : decode cL_law 701 = .ok (.invokestatic 241, 3) := by decide +kernel
theorem gx_holeOn : GoodIn en_cw (va_wsS RL 241 yL_holeOn (Cond.codeWith yL_holeOn cL_holeOn 3 (some .int) [(0, 8, 11, 15)] :: en_cw)) ∧ (yL_holeOn.cls ≠ "java/lang/invoke/MethodHandle" ∧ yL_holeOn.cls ≠ "java/lang/invoke/VarHandle" ∧ (parseMethodDescriptor yL_holeOn.desc).map (fun d => d.parameters.length) = some 2) := ⟨cw_g (cw_c cwl750 (cw_c cwl751 (cw_c cwl74 (cw_c cwl752 fun _ h => h)))), by decide, by decide, by decide +kernel⟩
theorem dlw_2197 : decode cL_law 2197 = .ok (.invokestatic 370, 3) := by decide +kernel
theorem gx_index : GoodIn en_cw (va_wsS RL 370 yL_index (Cond.codeWith yL_index cL_index 4 (some .int) [(0, 9, 12, 23), (0, 9, 15, 54)] :: en_cw)) ∧ (yL_index.cls ≠ "java/lang/invoke/MethodHandle" ∧ yL_index.cls ≠ "java/lang/invoke/VarHandle" ∧ (parseMethodDescriptor yL_index.desc).map (fun d => d.parameters.length) = some 3) := ⟨cw_g (cw_c cwl1346 (cw_c cwl1347 (cw_c cwl74 (cw_c cwl1348 fun _ h => h)))), by decide, by decide, by decide +kernel⟩
theorem dlw_2015 : decode cL_law 2015 = .ok (.invokestatic 355, 3) := by decide +kernel
theorem gx_isAhead : GoodIn en_cw (va_wsS RL 355 yL_isAhead (Cond.codeWith yL_isAhead cL_isAhead 5 (some .int) [(0, 17, 20, 23), (0, 17, 24, 54)] :: en_cw)) ∧ (yL_isAhead.cls ≠ "java/lang/invoke/MethodHandle" ∧ yL_isAhead.cls ≠ "java/lang/invoke/VarHandle" ∧ (parseMethodDescriptor yL_isAhead.desc).map (fun d => d.parameters.length) = some 4) := ⟨cw_g (cw_c cwl1289 (cw_c cwl1290 (cw_c cwl74 (cw_c cwl1291 fun _ h => h)))), by decide, by decide, by decide +kernel⟩
theorem dlw_1727 : decode cL_law 1727 = .ok (.invokestatic 328, 3) := by decide +kernel
theorem gx_isMatchOver : GoodIn en_cw (va_wsS RL 328 yL_isMatchOver (Cond.codeWith yL_isMatchOver cL_isMatchOver 3 (some .int) [(0, 15, 18, 17)] :: en_cw)) ∧ (yL_isMatchOver.cls ≠ "java/lang/invoke/MethodHandle" ∧ yL_isMatchOver.cls ≠ "java/lang/invoke/VarHandle" ∧ (parseMethodDescriptor yL_isMatchOver.desc).map (fun d => d.parameters.length) = some 2) := ⟨cw_g (cw_c cwl1172 (cw_c cwl1173 (cw_c cwl74 (cw_c cwl1174 fun _ h => h)))), by decide, by decide, by decide +kernel⟩
theorem dlw_1649 : decode cL_law 1649 = .ok (.invokestatic 319, 3) := by decide +kernel
theorem gx_isOut : GoodIn en_cw (va_wsS RL 319 yL_isOut (Cond.codeWith yL_isOut cL_isOut 4 (some .int) [(0, 16, 19, 23)] :: en_cw)) ∧ (yL_isOut.cls ≠ "java/lang/invoke/MethodHandle" ∧ yL_isOut.cls ≠ "java/lang/invoke/VarHandle" ∧ (parseMethodDescriptor yL_isOut.desc).map (fun d => d.parameters.length) = some 3) := ⟨cw_g (cw_c cwl1145 (cw_c cwl1146 (cw_c cwl74 (cw_c cwl1147 fun _ h => h)))), by decide, by decide, by decide +kernel⟩
theorem dlw_486 : decode cL_law 486 = .ok (.invokestatic 215, 3) := by decide +kernel
theorem gx_kindAt : GoodIn en_cw (va_wsS RL 215 yL_kindAt (Cond.codeWith yL_kindAt cL_kindAt 6 (some .int) [(0, 12, 15, 23)] :: en_cw)) ∧ (yL_kindAt.cls ≠ "java/lang/invoke/MethodHandle" ∧ yL_kindAt.cls ≠ "java/lang/invoke/VarHandle" ∧ (parseMethodDescriptor yL_kindAt.desc).map (fun d => d.parameters.length) = some 5) := ⟨cw_g (cw_c cwl673 (cw_c cwl674 (cw_c cwl74 (cw_c cwl675 fun _ h => h)))), by decide, by decide, by decide +kernel⟩
theorem dlw_1551 : decode cL_law 1551 = .ok (.invokestatic 310, 3) := by decide +kernel
theorem gx_lie : GoodIn en_cw (va_wsS RL 310 yL_lie (Cond.codeWith yL_lie cL_lie 5 (some .int) [(0, 10, 13, 23), (0, 10, 17, 15), (0, 10, 21, 54)] :: en_cw)) ∧ (yL_lie.cls ≠ "java/lang/invoke/MethodHandle" ∧ yL_lie.cls ≠ "java/lang/invoke/VarHandle" ∧ (parseMethodDescriptor yL_lie.desc).map (fun d => d.parameters.length) = some 4) := ⟨cw_g (cw_c cwl1123 (cw_c cwl1124 (cw_c cwl74 (cw_c cwl1125 fun _ h => h)))), by decide, by decide, by decide +kernel⟩
theorem dlw_971 : decode cL_law 971 = .ok (.invokestatic 264, 3) := by decide +kernel
theorem gx_line : GoodIn en_cw (va_wsS RL 264 yL_line (Cond.codeWith yL_line cL_line 5 (some .int) [(0, 10, 13, 23), (0, 10, 17, 13), (0, 10, 21, 15), (0, 10, 25, 17)] :: en_cw)) ∧ (yL_line.cls ≠ "java/lang/invoke/MethodHandle" ∧ yL_line.cls ≠ "java/lang/invoke/VarHandle" ∧ (parseMethodDescriptor yL_line.desc).map (fun d => d.parameters.length) = some 4) := ⟨cw_g (cw_c cwl928 (cw_c cwl929 (cw_c cwl74 (cw_c cwl930 fun _ h => h)))), by decide, by decide, by decide +kernel⟩
theorem dlw_2225 : decode cL_law 2225 = .ok (.invokestatic 373, 3) := by decide +kernel
theorem gx_lowIndex : GoodIn en_cw (va_wsS RL 373 yL_lowIndex (Cond.codeWith yL_lowIndex cL_lowIndex 4 (some .int) [(0, 9, 12, 23), (0, 9, 15, 54)] :: en_cw)) ∧ (yL_lowIndex.cls ≠ "java/lang/invoke/MethodHandle" ∧ yL_lowIndex.cls ≠ "java/lang/invoke/VarHandle" ∧ (parseMethodDescriptor yL_lowIndex.desc).map (fun d => d.parameters.length) = some 3) := ⟨cw_g (cw_c cwl1358 (cw_c cwl1359 (cw_c cwl74 (cw_c cwl1360 fun _ h => h)))), by decide, by decide, by decide +kernel⟩
theorem dlw_2297 : decode cL_law 2297 = .ok (.invokestatic 385, 3) := by decide +kernel
theorem gx_meanScore : GoodIn en_cw (va_wsS RL 385 yL_meanScore (Cond.codeWith yL_meanScore cL_meanScore 4 (some .int) [(0, 8, 11, 23), (0, 8, 14, 195)] :: en_cw)) ∧ (yL_meanScore.cls ≠ "java/lang/invoke/MethodHandle" ∧ yL_meanScore.cls ≠ "java/lang/invoke/VarHandle" ∧ (parseMethodDescriptor yL_meanScore.desc).map (fun d => d.parameters.length) = some 3) := ⟨cw_g (cw_c cwl1388 (cw_c cwl1389 (cw_c cwl74 (cw_c cwl1390 fun _ h => h)))), by decide, by decide, by decide +kernel⟩
theorem dlw_1264 : decode cL_law 1264 = .ok (.invokestatic 283, 3) := by decide +kernel
theorem gx_move : GoodIn en_cw (va_wsS RL 283 yL_move (Cond.codeWith yL_move cL_move 7 (some .int) [(0, 14, 17, 23), (0, 14, 21, 13), (0, 14, 25, 15), (0, 14, 29, 17)] :: en_cw)) ∧ (yL_move.cls ≠ "java/lang/invoke/MethodHandle" ∧ yL_move.cls ≠ "java/lang/invoke/VarHandle" ∧ (parseMethodDescriptor yL_move.desc).map (fun d => d.parameters.length) = some 6) := ⟨cw_g (cw_c cwl1014 (cw_c cwl1015 (cw_c cwl74 (cw_c cwl1016 fun _ h => h)))), by decide, by decide, by decide +kernel⟩
theorem dlw_810 : decode cL_law 810 = .ok (.invokestatic 250, 3) := by decide +kernel
theorem gx_odds : GoodIn en_cw (va_wsS RL 250 yL_odds (Cond.codeWith yL_odds cL_odds 7 (some .int) [(0, 14, 17, 23), (0, 14, 21, 13), (0, 14, 25, 15), (0, 14, 29, 17)] :: en_cw)) ∧ (yL_odds.cls ≠ "java/lang/invoke/MethodHandle" ∧ yL_odds.cls ≠ "java/lang/invoke/VarHandle" ∧ (parseMethodDescriptor yL_odds.desc).map (fun d => d.parameters.length) = some 6) := ⟨cw_g (cw_c cwl876 (cw_c cwl877 (cw_c cwl74 (cw_c cwl878 fun _ h => h)))), by decide, by decide, by decide +kernel⟩
theorem dlw_1885 : decode cL_law 1885 = .ok (.invokestatic 343, 3) := by decide +kernel
theorem gx_parPlay : GoodIn en_cw (va_wsS RL 343 yL_parPlay (Cond.codeWith yL_parPlay cL_parPlay 4 (some .int) [(0, 9, 12, 23), (0, 9, 15, 54)] :: en_cw)) ∧ (yL_parPlay.cls ≠ "java/lang/invoke/MethodHandle" ∧ yL_parPlay.cls ≠ "java/lang/invoke/VarHandle" ∧ (parseMethodDescriptor yL_parPlay.desc).map (fun d => d.parameters.length) = some 3) := ⟨cw_g (cw_c cwl1236 (cw_c cwl1237 (cw_c cwl74 (cw_c cwl1238 fun _ h => h)))), by decide, by decide, by decide +kernel⟩
theorem dlw_1621 : decode cL_law 1621 = .ok (.invokestatic 316, 3) := by decide +kernel
theorem gx_penalties : GoodIn en_cw (va_wsS RL 316 yL_penalties (Cond.codeWith yL_penalties cL_penalties 4 (some .int) [(0, 9, 12, 23), (0, 9, 15, 15)] :: en_cw)) ∧ (yL_penalties.cls ≠ "java/lang/invoke/MethodHandle" ∧ yL_penalties.cls ≠ "java/lang/invoke/VarHandle" ∧ (parseMethodDescriptor yL_penalties.desc).map (fun d => d.parameters.length) = some 3) := ⟨cw_g (cw_c cwl1138 (cw_c cwl1139 (cw_c cwl74 (cw_c cwl1140 fun _ h => h)))), by decide, by decide, by decide +kernel⟩
theorem dlw_2268 : decode cL_law 2268 = .ok (.invokestatic 381, 3) := by decide +kernel
theorem gx_penaltyShare : GoodIn en_cw (va_wsS RL 381 yL_penaltyShare (Cond.codeWith yL_penaltyShare cL_penaltyShare 4 (some .int) [(0, 9, 12, 23), (0, 9, 15, 195)] :: en_cw)) ∧ (yL_penaltyShare.cls ≠ "java/lang/invoke/MethodHandle" ∧ yL_penaltyShare.cls ≠ "java/lang/invoke/VarHandle" ∧ (parseMethodDescriptor yL_penaltyShare.desc).map (fun d => d.parameters.length) = some 3) := ⟨cw_g (cw_c cwl1365 (cw_c cwl1366 (cw_c cwl74 (cw_c cwl1367 fun _ h => h)))), by decide, by decide, by decide +kernel⟩
theorem dlw_1351 : decode cL_law 1351 = .ok (.invokestatic 290, 3) := by decide +kernel
theorem gx_pickUp : GoodIn en_cw (va_wsS RL 290 yL_pickUp (Cond.codeWith yL_pickUp cL_pickUp 4 (some .int) [(0, 9, 12, 23), (0, 9, 15, 15), (0, 9, 18, 17)] :: en_cw)) ∧ (yL_pickUp.cls ≠ "java/lang/invoke/MethodHandle" ∧ yL_pickUp.cls ≠ "java/lang/invoke/VarHandle" ∧ (parseMethodDescriptor yL_pickUp.desc).map (fun d => d.parameters.length) = some 3) := ⟨cw_g (cw_c cwl1031 (cw_c cwl1032 (cw_c cwl74 (cw_c cwl1033 fun _ h => h)))), by decide, by decide, by decide +kernel⟩
theorem dlw_1071 : decode cL_law 1071 = .ok (.invokestatic 270, 3) := by decide +kernel
theorem gx_point : GoodIn en_cw (va_wsS RL 270 yL_point (Cond.codeWith yL_point cL_point 5 (some .int) [(0, 10, 13, 23), (0, 10, 17, 15), (0, 10, 21, 17), (0, 10, 25, 54)] :: en_cw)) ∧ (yL_point.cls ≠ "java/lang/invoke/MethodHandle" ∧ yL_point.cls ≠ "java/lang/invoke/VarHandle" ∧ (parseMethodDescriptor yL_point.desc).map (fun d => d.parameters.length) = some 4) := ⟨cw_g (cw_c cwl970 (cw_c cwl971 (cw_c cwl74 (cw_c cwl972 fun _ h => h)))), by decide, by decide, by decide +kernel⟩
theorem dlw_2117 : decode cL_law 2117 = .ok (.invokestatic 364, 3) := by decide +kernel
theorem gx_post : GoodIn en_cw (va_wsS RL 364 yL_post (Cond.codeWith yL_post cL_post 6 (some .int) [(0, 12, 15, 23), (0, 12, 19, 13), (0, 12, 23, 17)] :: en_cw)) ∧ (yL_post.cls ≠ "java/lang/invoke/MethodHandle" ∧ yL_post.cls ≠ "java/lang/invoke/VarHandle" ∧ (parseMethodDescriptor yL_post.desc).map (fun d => d.parameters.length) = some 5) := ⟨cw_g (cw_c cwl1312 (cw_c cwl1313 (cw_c cwl74 (cw_c cwl1314 fun _ h => h)))), by decide, by decide, by decide +kernel⟩
theorem dlw_869 : decode cL_law 869 = .ok (.invokestatic 254, 3) := by decide +kernel
theorem gx_provisional : GoodIn en_cw (va_wsS RL 254 yL_provisional (Cond.codeWith yL_provisional cL_provisional 6 (some .int) [(0, 12, 15, 23), (0, 12, 19, 15), (0, 12, 23, 17)] :: en_cw)) ∧ (yL_provisional.cls ≠ "java/lang/invoke/MethodHandle" ∧ yL_provisional.cls ≠ "java/lang/invoke/VarHandle" ∧ (parseMethodDescriptor yL_provisional.desc).map (fun d => d.parameters.length) = some 5) := ⟨cw_g (cw_c cwl884 (cw_c cwl885 (cw_c cwl74 (cw_c cwl886 fun _ h => h)))), by decide, by decide, by decide +kernel⟩
theorem dlw_1981 : decode cL_law 1981 = .ok (.invokestatic 352, 3) := by decide +kernel
theorem gx_rank : GoodIn en_cw (va_wsS RL 352 yL_rank (Cond.codeWith yL_rank cL_rank 4 (some .int) [(0, 9, 12, 23), (0, 9, 15, 54)] :: en_cw)) ∧ (yL_rank.cls ≠ "java/lang/invoke/MethodHandle" ∧ yL_rank.cls ≠ "java/lang/invoke/VarHandle" ∧ (parseMethodDescriptor yL_rank.desc).map (fun d => d.parameters.length) = some 3) := ⟨cw_g (cw_c cwl1265 (cw_c cwl1266 (cw_c cwl74 (cw_c cwl1267 fun _ h => h)))), by decide, by decide, by decide +kernel⟩
theorem dlw_1683 : decode cL_law 1683 = .ok (.invokestatic 322, 3) := by decide +kernel
theorem gx_score : GoodIn en_cw (va_wsS RL 322 yL_score (Cond.codeWith yL_score cL_score 5 (some .int) [(0, 10, 13, 23), (0, 10, 17, 54)] :: en_cw)) ∧ (yL_score.cls ≠ "java/lang/invoke/MethodHandle" ∧ yL_score.cls ≠ "java/lang/invoke/VarHandle" ∧ (parseMethodDescriptor yL_score.desc).map (fun d => d.parameters.length) = some 4) := ⟨cw_g (cw_c cwl1152 (cw_c cwl1153 (cw_c cwl74 (cw_c cwl1154 fun _ h => h)))), by decide, by decide, by decide +kernel⟩
theorem dlw_909 : decode cL_law 909 = .ok (.invokestatic 257, 3) := by decide +kernel
theorem gx_search : GoodIn en_cw (va_wsS RL 257 yL_search (Cond.codeWith yL_search cL_search 4 (some .int) [(0, 9, 12, 23), (0, 9, 15, 15), (0, 9, 18, 17)] :: en_cw)) ∧ (yL_search.cls ≠ "java/lang/invoke/MethodHandle" ∧ yL_search.cls ≠ "java/lang/invoke/VarHandle" ∧ (parseMethodDescriptor yL_search.desc).map (fun d => d.parameters.length) = some 3) := ⟨cw_g (cw_c cwl892 (cw_c cwl893 (cw_c cwl74 (cw_c cwl894 fun _ h => h)))), by decide, by decide, by decide +kernel⟩
theorem dlw_548 : decode cL_law 548 = .ok (.invokestatic 223, 3) := by decide +kernel
theorem gx_setHandicap : GoodIn en_cw (va_wsS RL 223 yL_setHandicap (Cond.codeWith yL_setHandicap cL_setHandicap 5 (some .int) [(0, 10, 13, 23), (0, 10, 17, 13), (0, 10, 21, 15)] :: en_cw)) ∧ (yL_setHandicap.cls ≠ "java/lang/invoke/MethodHandle" ∧ yL_setHandicap.cls ≠ "java/lang/invoke/VarHandle" ∧ (parseMethodDescriptor yL_setHandicap.desc).map (fun d => d.parameters.length) = some 4) := ⟨cw_g (cw_c cwl692 (cw_c cwl693 (cw_c cwl74 (cw_c cwl694 fun _ h => h)))), by decide, by decide, by decide +kernel⟩
theorem dlw_1801 : decode cL_law 1801 = .ok (.invokestatic 334, 3) := by decide +kernel
theorem gx_sign : GoodIn en_cw (va_wsS RL 334 yL_sign (Cond.codeWith yL_sign cL_sign 4 (some .int) [(0, 16, 19, 23), (0, 16, 22, 17), (0, 16, 25, 54)] :: en_cw)) ∧ (yL_sign.cls ≠ "java/lang/invoke/MethodHandle" ∧ yL_sign.cls ≠ "java/lang/invoke/VarHandle" ∧ (parseMethodDescriptor yL_sign.desc).map (fun d => d.parameters.length) = some 3) := ⟨cw_g (cw_c cwl1191 (cw_c cwl1192 (cw_c cwl74 (cw_c cwl1193 fun _ h => h)))), by decide, by decide, by decide +kernel⟩
theorem dlw_1953 : decode cL_law 1953 = .ok (.invokestatic 349, 3) := by decide +kernel
theorem gx_skins : GoodIn en_cw (va_wsS RL 349 yL_skins (Cond.codeWith yL_skins cL_skins 4 (some .int) [(0, 9, 12, 23), (0, 9, 15, 54)] :: en_cw)) ∧ (yL_skins.cls ≠ "java/lang/invoke/MethodHandle" ∧ yL_skins.cls ≠ "java/lang/invoke/VarHandle" ∧ (parseMethodDescriptor yL_skins.desc).map (fun d => d.parameters.length) = some 3) := ⟨cw_g (cw_c cwl1258 (cw_c cwl1259 (cw_c cwl74 (cw_c cwl1260 fun _ h => h)))), by decide, by decide, by decide +kernel⟩
theorem dlw_1857 : decode cL_law 1857 = .ok (.invokestatic 340, 3) := by decide +kernel
theorem gx_stableford : GoodIn en_cw (va_wsS RL 340 yL_stableford (Cond.codeWith yL_stableford cL_stableford 4 (some .int) [(0, 9, 12, 23)] :: en_cw)) ∧ (yL_stableford.cls ≠ "java/lang/invoke/MethodHandle" ∧ yL_stableford.cls ≠ "java/lang/invoke/VarHandle" ∧ (parseMethodDescriptor yL_stableford.desc).map (fun d => d.parameters.length) = some 3) := ⟨cw_g (cw_c cwl1226 (cw_c cwl1227 (cw_c cwl74 (cw_c cwl1228 fun _ h => h)))), by decide, by decide, by decide +kernel⟩
theorem dlw_1509 : decode cL_law 1509 = .ok (.invokestatic 307, 3) := by decide +kernel
theorem gx_state : GoodIn en_cw (va_wsS RL 307 yL_state (Cond.codeWith yL_state cL_state 4 (some .int) [(0, 9, 12, 23), (0, 9, 15, 15)] :: en_cw)) ∧ (yL_state.cls ≠ "java/lang/invoke/MethodHandle" ∧ yL_state.cls ≠ "java/lang/invoke/VarHandle" ∧ (parseMethodDescriptor yL_state.desc).map (fun d => d.parameters.length) = some 3) := ⟨cw_g (cw_c cwl1116 (cw_c cwl1117 (cw_c cwl74 (cw_c cwl1118 fun _ h => h)))), by decide, by decide, by decide +kernel⟩
theorem dlw_751 : decode cL_law 751 = .ok (.invokestatic 247, 3) := by decide +kernel
theorem gx_stroke : GoodIn en_cw (va_wsS RL 247 yL_stroke (Cond.codeWith yL_stroke cL_stroke 6 (some .int) [(0, 12, 15, 23), (0, 12, 19, 15), (0, 12, 23, 17)] :: en_cw)) ∧ (yL_stroke.cls ≠ "java/lang/invoke/MethodHandle" ∧ yL_stroke.cls ≠ "java/lang/invoke/VarHandle" ∧ (parseMethodDescriptor yL_stroke.desc).map (fun d => d.parameters.length) = some 5) := ⟨cw_g (cw_c cwl803 (cw_c cwl804 (cw_c cwl74 (cw_c cwl805 fun _ h => h)))), by decide, by decide, by decide +kernel⟩
theorem dlw_1593 : decode cL_law 1593 = .ok (.invokestatic 313, 3) := by decide +kernel
theorem gx_strokes : GoodIn en_cw (va_wsS RL 313 yL_strokes (Cond.codeWith yL_strokes cL_strokes 4 (some .int) [(0, 9, 12, 23), (0, 9, 15, 15)] :: en_cw)) ∧ (yL_strokes.cls ≠ "java/lang/invoke/MethodHandle" ∧ yL_strokes.cls ≠ "java/lang/invoke/VarHandle" ∧ (parseMethodDescriptor yL_strokes.desc).map (fun d => d.parameters.length) = some 3) := ⟨cw_g (cw_c cwl1131 (cw_c cwl1132 (cw_c cwl74 (cw_c cwl1133 fun _ h => h)))), by decide, by decide, by decide +kernel⟩
theorem dlw_1387 : decode cL_law 1387 = .ok (.invokestatic 293, 3) := by decide +kernel
theorem gx_suspend : GoodIn en_cw (va_wsS RL 293 yL_suspend (Cond.codeWith yL_suspend cL_suspend 4 (some .int) [(0, 16, 19, 15)] :: en_cw)) ∧ (yL_suspend.cls ≠ "java/lang/invoke/MethodHandle" ∧ yL_suspend.cls ≠ "java/lang/invoke/VarHandle" ∧ (parseMethodDescriptor yL_suspend.desc).map (fun d => d.parameters.length) = some 3) := ⟨cw_g (cw_c cwl1043 (cw_c cwl1044 (cw_c cwl74 (cw_c cwl1045 fun _ h => h)))), by decide, by decide, by decide +kernel⟩
theorem dlw_1919 : decode cL_law 1919 = .ok (.invokestatic 346, 3) := by decide +kernel
theorem gx_together : GoodIn en_cw (va_wsS RL 346 yL_together (Cond.codeWith yL_together cL_together 5 (some .int) [(0, 10, 13, 23), (0, 10, 17, 13), (0, 10, 21, 54)] :: en_cw)) ∧ (yL_together.cls ≠ "java/lang/invoke/MethodHandle" ∧ yL_together.cls ≠ "java/lang/invoke/VarHandle" ∧ (parseMethodDescriptor yL_together.desc).map (fun d => d.parameters.length) = some 4) := ⟨cw_g (cw_c cwl1248 (cw_c cwl1249 (cw_c cwl74 (cw_c cwl1250 fun _ h => h)))), by decide, by decide, by decide +kernel⟩
theorem dlw_1829 : decode cL_law 1829 = .ok (.invokestatic 337, 3) := by decide +kernel
theorem gx_total : GoodIn en_cw (va_wsS RL 337 yL_total (Cond.codeWith yL_total cL_total 4 (some .int) [(0, 9, 12, 23), (0, 9, 15, 54)] :: en_cw)) ∧ (yL_total.cls ≠ "java/lang/invoke/MethodHandle" ∧ yL_total.cls ≠ "java/lang/invoke/VarHandle" ∧ (parseMethodDescriptor yL_total.desc).map (fun d => d.parameters.length) = some 3) := ⟨cw_g (cw_c cwl1210 (cw_c cwl1211 (cw_c cwl74 (cw_c cwl1212 fun _ h => h)))), by decide, by decide, by decide +kernel⟩
theorem dlw_1711 : decode cL_law 1711 = .ok (.invokestatic 325, 3) := by decide +kernel
theorem gx_up : GoodIn en_cw (va_wsS RL 325 yL_up (Cond.codeWith yL_up cL_up 3 (some .int) [(0, 8, 11, 17)] :: en_cw)) ∧ (yL_up.cls ≠ "java/lang/invoke/MethodHandle" ∧ yL_up.cls ≠ "java/lang/invoke/VarHandle" ∧ (parseMethodDescriptor yL_up.desc).map (fun d => d.parameters.length) = some 2) := ⟨cw_g (cw_c cwl1160 (cw_c cwl1161 (cw_c cwl74 (cw_c cwl1162 fun _ h => h)))), by decide, by decide, by decide +kernel⟩
theorem dlw_1761 : decode cL_law 1761 = .ok (.invokestatic 331, 3) := by decide +kernel
theorem gx_write : GoodIn en_cw (va_wsS RL 331 yL_write (Cond.codeWith yL_write cL_write 6 (some .int) [(0, 12, 15, 23), (0, 12, 19, 13), (0, 12, 23, 17)] :: en_cw)) ∧ (yL_write.cls ≠ "java/lang/invoke/MethodHandle" ∧ yL_write.cls ≠ "java/lang/invoke/VarHandle" ∧ (parseMethodDescriptor yL_write.desc).map (fun d => d.parameters.length) = some 5) := ⟨cw_g (cw_c cwl1182 (cw_c cwl1183 (cw_c cwl74 (cw_c cwl1184 fun _ h => h)))), by decide, by decide, by decide +kernel⟩
theorem dlw_1317 : decode cL_law 1317 = .ok (.invokestatic 287, 3) := by decide +kernel
theorem gx_wrongBall : GoodIn en_cw (va_wsS RL 287 yL_wrongBall (Cond.codeWith yL_wrongBall cL_wrongBall 5 (some .int) [(0, 10, 13, 23), (0, 10, 17, 15), (0, 10, 21, 17)] :: en_cw)) ∧ (yL_wrongBall.cls ≠ "java/lang/invoke/MethodHandle" ∧ yL_wrongBall.cls ≠ "java/lang/invoke/VarHandle" ∧ (parseMethodDescriptor yL_wrongBall.desc).map (fun d => d.parameters.length) = some 4) := ⟨cw_g (cw_c cwl1023 (cw_c cwl1024 (cw_c cwl74 (cw_c cwl1025 fun _ h => h)))), by decide, by decide, by decide +kernel⟩
theorem dlw_1177 : decode cL_law 1177 = .ok (.invokestatic 277, 3) := by decide +kernel
theorem gx_wrongPlace : GoodIn en_cw (va_wsS RL 277 yL_wrongPlace (Cond.codeWith yL_wrongPlace cL_wrongPlace 6 (some .int) [(0, 19, 22, 23), (0, 19, 26, 15), (0, 19, 30, 17)] :: en_cw)) ∧ (yL_wrongPlace.cls ≠ "java/lang/invoke/MethodHandle" ∧ yL_wrongPlace.cls ≠ "java/lang/invoke/VarHandle" ∧ (parseMethodDescriptor yL_wrongPlace.desc).map (fun d => d.parameters.length) = some 5) := ⟨cw_g (cw_c cwl989 (cw_c cwl990 (cw_c cwl74 (cw_c cwl991 fun _ h => h)))), by decide, by decide, by decide +kernel⟩
theorem dlw_2246 : decode cL_law 2246 = .ok (.invokevirtual 376, 3) := by decide +kernel
theorem gm_X6_checksum : en_CV en_cw RL 376 yX6_checksum RX6 cX6_checksum 6 (some .long) 0 := en_gv cwl375 cwl376 cwl377 cwl75 cwl378 ⟨rfl, by decide, by decide, by decide +kernel⟩
theorem dlw_2318 : decode cL_law 2318 = .ok (.invokevirtual 388, 3) := by decide +kernel
theorem gm_X6_isSound : en_CV en_cw RL 388 yX6_isSound RX6 cX6_isSound 3 (some .boolean) 0 := en_gv cwl385 cwl386 cwl387 cwl75 cwl388 ⟨rfl, by decide, by decide, by decide +kernel⟩
theorem dlw_621 : decode cL_law 621 = .ok (.invokevirtual 230, 3) := by decide +kernel
theorem gm_X6_setSeed : en_CV en_cw RL 230 yX6_setSeed RX6 cX6_setSeed 3 (some .int) 1 := en_gv cwl371 cwl372 cwl373 cwl75 cwl374 ⟨rfl, by decide, by decide, by decide +kernel⟩
