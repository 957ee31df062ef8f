def tb_X6_lowIndex : en_Tb := [
  (23, [(0, .aload_n 0, 1), (1, .iload_n 1, 1), (2, .invokevirtual 127, 3), (5, .aload_n 0, 1), (6, .iload_n 1, 1), (7, .invokevirtual 543, 3), (10, .aload_n 0, 1), (11, .getfield 18, 3), (14, .iload_n 1, 1), (15, .aaload, 1), (16, .getfield 524, 3), (19, .getfield 547, 3), (22, .ireturn, 1)])]
set_option maxRecDepth 40000 in
theorem de_X6_lowIndex : en_De tb_X6_lowIndex cX6_lowIndex := by
  unfold en_De
  decide +kernel
def k_X6_lowIndex_0 : en_K := (2, ([.inr (.inl 0), .inl ((-2147483648), 2147483647, 0, 0)], []), [([.inr (.inl 0), .inl (0, 5, 0, 0), .inl ((-2147483648), 2147483647, 0, 0)], [])], [], [0, 2, 7, 11], (2, 12), [3, 4])
def u_X6_lowIndex_0 : List en_U := []
def x_X6_lowIndex_0 : en_Cx := ((en_KT, en_TY0, en_om0), en_FTX6, en_PTX6, [(127, true, 12, 4, 0, k_X6_needPlayer_0), (543, true, 12, 4, 0, k_X6_needPosted_0)], en_LTX6, en_LLX6, en_TTX6, en_ACX6)
def m_X6_lowIndex_0 : en_Mx := (k_X6_lowIndex_0, 1, 2, (0, 0), tb_X6_lowIndex, [])
set_option maxRecDepth 100000 in
theorem ck_X6_lowIndex_0 : en_all x_X6_lowIndex_0 m_X6_lowIndex_0 u_X6_lowIndex_0 16 = true := by decide +kernel
theorem ct_X6_lowIndex_0 {l : Launch} (hl : l.stackTraces = false) {PP : Int32 → Int32 → Prop} (hPP : en_P0 PP) (Ω : Nat → en_H → va_W → Prop) : en_Ctr l vwCl en_TY0 PP en_om0 Ω en_KT yX6_lowIndex (Cond.code yX6_lowIndex cX6_lowIndex 2 (some .int) :: en_cw) (en_rm 1 (2, 12)) 0 k_X6_lowIndex_0 :=
  en_main (X := x_X6_lowIndex_0) (M := m_X6_lowIndex_0) hPP en_f32_ok en_f64_ok hl (by decide +kernel) ⟨en_FTX6_ok, en_PTX6_ok, en_ac (⟨yX6_needPlayer, RX6, cX6_needPlayer, 2, none, by decide, ct_X6_needPlayer_0 hl hPP Ω, fun _ => ⟨gc_RX6_127v, by decide, _, rfl, rfl⟩, fun h => Bool.noConfusion h⟩) (en_ac (⟨yX6_needPosted, RX6, cX6_needPosted, 2, none, by decide, ct_X6_needPosted_0 hl hPP Ω, fun _ => ⟨gc_RX6_543v, by decide, _, rfl, rfl⟩, fun h => Bool.noConfusion h⟩) en_an), en_LTX6_ok, en_LLX6_ok, en_TTX6_ok hl, ⟨cw256, cw147⟩, en_ACX6_ok⟩ de_X6_lowIndex ck_X6_lowIndex_0
def tb_X1_scoreOn : en_Tb := [
  (21, [(0, .iload_n 1, 1), (1, .ifCond .lt 18, 3), (4, .iload_n 1, 1), (5, .bipush 9, 2), (7, .if_icmp .ge 12, 3), (10, .aload_n 0, 1), (11, .getfield 9, 3), (14, .iload_n 1, 1), (15, .iaload, 1), (16, .goto 4, 3), (19, .iconst 0, 1), (20, .ireturn, 1)])]
set_option maxRecDepth 40000 in
theorem de_X1_scoreOn : en_De tb_X1_scoreOn cX1_scoreOn := by
  unfold en_De
  decide +kernel
def k_X1_scoreOn_0 : en_K := (2, ([.inr (.inl 9), .inl ((-2147483648), 2147483647, 0, 0)], []), [([.inr (.inl 9), .inl ((-2147483648), 2147483647, 0, 0), .inl ((-2147483648), 2147483647, 0, 0)], [])], [], [9, 10], (0, 0), [])
def u_X1_scoreOn_0 : List en_U := []
def x_X1_scoreOn_0 : en_Cx := ((en_KT, en_TY0, en_om0), en_FTX1, en_PTX1, [], en_LTX1, en_LLX1, en_TTX1, en_ACX1)
def m_X1_scoreOn_0 : en_Mx := (k_X1_scoreOn_0, 0, 2, (0, 0), tb_X1_scoreOn, [])
set_option maxRecDepth 100000 in
theorem ck_X1_scoreOn_0 : en_all x_X1_scoreOn_0 m_X1_scoreOn_0 u_X1_scoreOn_0 14 = true := by decide +kernel
theorem ct_X1_scoreOn_0 {l : Launch} (hl : l.stackTraces = false) {PP : Int32 → Int32 → Prop} (hPP : en_P0 PP) (Ω : Nat → en_H → va_W → Prop) : en_Ctr l vwCl en_TY0 PP en_om0 Ω en_KT yX1_scoreOn (Cond.code yX1_scoreOn cX1_scoreOn 2 (some .int) :: en_cw) (en_rm 0 (0, 0)) 0 k_X1_scoreOn_0 :=
  en_main (X := x_X1_scoreOn_0) (M := m_X1_scoreOn_0) hPP en_f32_ok en_f64_ok hl (by decide +kernel) ⟨en_FTX1_ok, en_PTX1_ok, en_an, en_LTX1_ok, en_LLX1_ok, en_TTX1_ok hl, ⟨cw256, cw147⟩, en_ACX1_ok⟩ de_X1_scoreOn ck_X1_scoreOn_0
def tb_X6_meanScore : en_Tb := [
  (26, [(0, .aload_n 0, 1), (1, .iload_n 1, 1), (2, .invokevirtual 95, 3), (5, .iconst 0, 1), (6, .istore_n 2, 1), (7, .iconst 0, 1), (8, .istore_n 3, 1), (9, .iconst 0, 1), (10, .istore 4, 2), (12, .iload 4, 2), (14, .aload_n 0, 1), (15, .getfield 122, 3), (18, .if_icmp .ge 38, 3), (21, .aload_n 0, 1), (22, .getfield 18, 3), (25, .iload 4, 2)]), 
  (58, [(27, .aaload, 1), (28, .getfield 155, 3), (31, .iload_n 1, 1), (32, .invokevirtual 422, 3), (35, .istore 5, 2), (37, .iload 5, 2), (39, .ifCond .eq 11, 3), (42, .iload_n 2, 1), (43, .iload 5, 2), (45, .iadd, 1), (46, .istore_n 2, 1), (47, .iinc 3 1, 3), (50, .iinc 4 1, 3), (53, .goto (-41), 3), (56, .iload_n 3, 1), (57, .ifCond .ne 14, 3)]), 
  (77, [(60, .new 559, 3), (63, .dup, 1), (64, .ldc_w 425, 3), (67, .invokespecial 561, 3), (70, .athrow, 1), (71, .iload_n 2, 1), (72, .i2d, 1), (73, .iload_n 3, 1), (74, .i2d, 1), (75, .ddiv, 1), (76, .dreturn, 1)])]
set_option maxRecDepth 40000 in
theorem de_X6_meanScore : en_De tb_X6_meanScore cX6_meanScore := by
  unfold en_De
  decide +kernel
def k_X6_meanScore_0 : en_K := (2, ([.inr (.inl 0), .inl ((-2147483648), 2147483647, 0, 0)], []), [([.inr (.inl 0), .inl (0, 8, 0, 0), .inr (.inr 2)], [])], [], [0, 2, 7, 9, 10], (2, 12), [3, 5])
def u_X6_meanScore_0 : List en_U := [
  (12, ([.inr (.inl 0), .inl (0, 8, 0, 0), .inl (0, 6, 0, 0), .inl ((-2147483648), 2147483647, 0, 0), .inl ((-2147483648), 2147483647, 0, 0)], []), [(0, 0), (1, 1), (4, 2), (3, 3), (2, 4)], (1, 6), [((-2), 2)], 16)]
def x_X6_meanScore_0 : en_Cx := ((en_KT, en_TY0, en_om0), en_FTX6, en_PTX6, [(95, true, 12, 4, 0, k_X6_needHole_0), (422, true, 7, 0, 0, k_X1_scoreOn_0)], en_LTX6, en_LLX6, en_TTX6, en_ACX6)
def m_X6_meanScore_0 : en_Mx := (k_X6_meanScore_0, 1, 6, (3, 0), tb_X6_meanScore, [])
set_option maxRecDepth 100000 in
theorem ck_X6_meanScore_0 : en_all x_X6_meanScore_0 m_X6_meanScore_0 u_X6_meanScore_0 24 = true := by decide +kernel
theorem ct_X6_meanScore_0 {l : Launch} (hl : l.stackTraces = false) {PP : Int32 → Int32 → Prop} (hPP : en_P0 PP) (Ω : Nat → en_H → va_W → Prop) : en_Ctr l vwCl en_TY0 PP en_om0 Ω en_KT yX6_meanScore (Cond.code yX6_meanScore cX6_meanScore 6 (some .double) :: en_cw) (en_rm 1 (2, 12)) 3 k_X6_meanScore_0 :=
  en_main (X := x_X6_meanScore_0) (M := m_X6_meanScore_0) hPP en_f32_ok en_f64_ok hl (by decide +kernel) ⟨en_FTX6_ok, en_PTX6_ok, en_ac (⟨yX6_needHole, RX6, cX6_needHole, 2, none, by decide, ct_X6_needHole_0 hl hPP Ω, fun _ => ⟨gc_RX6_95v, by decide, _, rfl, rfl⟩, fun h => Bool.noConfusion h⟩) (en_ac (⟨yX1_scoreOn, RX1, cX1_scoreOn, 2, (some .int), by decide, ct_X1_scoreOn_0 hl hPP Ω, fun _ => ⟨gc_RX6_422v, by decide, _, rfl, rfl⟩, fun h => Bool.noConfusion h⟩) en_an), en_LTX6_ok, en_LLX6_ok, en_TTX6_ok hl, ⟨cw256, cw147⟩, en_ACX6_ok⟩ de_X6_meanScore ck_X6_meanScore_0
def tb_X6_cellOrNone : en_Tb := [
  (18, [(0, .iload_n 0, 1), (1, .iload_n 1, 1), (2, .invokestatic 45, 3), (5, .ifCond .eq 11, 3), (8, .iload_n 0, 1), (9, .iload_n 1, 1), (10, .invokestatic 85, 3), (13, .goto 4, 3), (16, .iconst (-1), 1), (17, .ireturn, 1)])]
set_option maxRecDepth 40000 in
theorem de_X6_cellOrNone : en_De tb_X6_cellOrNone cX6_cellOrNone := by
  unfold en_De
  decide +kernel
def k_X6_cellOrNone_0 : en_K := (2, ([.inl ((-2147483648), 2147483647, 0, 0), .inl ((-2147483648), 2147483647, 0, 0)], []), [([.inl (0, 29, 0, 0), .inl (0, 19, 0, 0), .inl (0, 599, 0, 0)], []), ([.inl ((-2147483648), 2147483647, 0, 0), .inl ((-2147483648), 2147483647, 0, 0), .inl ((-1), (-1), 0, 0)], [])], [], [], (0, 0), [])
def u_X6_cellOrNone_0 : List en_U := []
def x_X6_cellOrNone_0 : en_Cx := ((en_KT, en_TY0, en_om0), en_FTX6, en_PTX6, [(45, false, 0, 0, 0, k_X6_isCell_0), (85, false, 0, 0, 0, k_X6_cellAt_0)], en_LTX6, en_LLX6, en_TTX6, en_ACX6)
def m_X6_cellOrNone_0 : en_Mx := (k_X6_cellOrNone_0, 1, 2, (0, 0), tb_X6_cellOrNone, [])
set_option maxRecDepth 100000 in
theorem ck_X6_cellOrNone_0 : en_all x_X6_cellOrNone_0 m_X6_cellOrNone_0 u_X6_cellOrNone_0 12 = true := by decide +kernel
theorem ct_X6_cellOrNone_0 {l : Launch} (hl : l.stackTraces = false) {PP : Int32 → Int32 → Prop} (hPP : en_P0 PP) (Ω : Nat → en_H → va_W → Prop) : en_Ctr l vwCl en_TY0 PP en_om0 Ω en_KT yX6_cellOrNone (Cond.code yX6_cellOrNone cX6_cellOrNone 2 (some .int) :: en_cw) (en_rm 1 (0, 0)) 0 k_X6_cellOrNone_0 :=
  en_main (X := x_X6_cellOrNone_0) (M := m_X6_cellOrNone_0) hPP en_f32_ok en_f64_ok hl (by decide +kernel) ⟨en_FTX6_ok, en_PTX6_ok, en_ac (⟨yX6_isCell, RX6, cX6_isCell, 2, (some .boolean), by decide, ct_X6_isCell_0 hl hPP Ω, fun h => Bool.noConfusion h, fun _ => gc_RX6_45s⟩) (en_ac (⟨yX6_cellAt, RX6, cX6_cellAt, 2, (some .int), by decide, ct_X6_cellAt_0 hl hPP Ω, fun h => Bool.noConfusion h, fun _ => gc_RX6_85s⟩) en_an), en_LTX6_ok, en_LLX6_ok, en_TTX6_ok hl, ⟨cw256, cw147⟩, en_ACX6_ok⟩ de_X6_cellOrNone ck_X6_cellOrNone_0
def tb_X6_move : en_Tb := [
  (30, [(0, .aload_n 0, 1), (1, .iload_n 1, 1), (2, .invokevirtual 127, 3), (5, .iload_n 2, 1), (6, .bipush 112, 2), (8, .if_icmp .eq 32, 3), (11, .iload_n 2, 1), (12, .bipush 101, 2), (14, .if_icmp .eq 26, 3), (17, .iload_n 2, 1), (18, .bipush 107, 2), (20, .if_icmp .eq 20, 3), (23, .iload_n 2, 1), (24, .bipush 119, 2), (26, .if_icmp .eq 14, 3), (29, .new 49, 3)]), 
  (61, [(32, .dup, 1), (33, .ldc_w 354, 3), (36, .invokespecial 53, 3), (39, .athrow, 1), (40, .aload_n 0, 1), (41, .invokevirtual 167, 3), (44, .aload_n 0, 1), (45, .getfield 18, 3), (48, .iload_n 1, 1), (49, .aaload, 1), (50, .getfield 185, 3), (53, .astore 5, 2), (55, .aload_n 0, 1), (56, .getfield 11, 3), (59, .aload_n 0, 1), (60, .getfield 170, 3)]), 
  (96, [(63, .aaload, 1), (64, .astore 6, 2), (66, .iload_n 3, 1), (67, .iload 4, 2), (69, .invokestatic 247, 3), (72, .istore 7, 2), (74, .aload 5, 2), (76, .invokevirtual 294, 3), (79, .ifCond .eq 19, 3), (82, .iload_n 2, 1), (83, .bipush 119, 2), (85, .if_icmp .ne 24, 3), (88, .aload 6, 2), (90, .iload 7, 2), (92, .invokevirtual 338, 3), (95, .ifCond .ne 14, 3)]), 
  (131, [(98, .new 74, 3), (101, .dup, 1), (102, .ldc_w 356, 3), (105, .invokespecial 78, 3), (108, .athrow, 1), (109, .aload_n 0, 1), (110, .getfield 30, 3), (113, .iconst (-1), 1), (114, .putfield 193, 3), (117, .iload_n 2, 1), (118, .bipush 119, 2), (120, .if_icmp .ne 10, 3), (123, .aload 5, 2), (125, .iload 7, 2), (127, .putfield 211, 3), (130, .iload_n 2, 1)]), 
  (167, [(131, .bipush 112, 2), (133, .if_icmp .ne 38, 3), (136, .aload 6, 2), (138, .aload 5, 2), (140, .getfield 211, 3), (143, .invokevirtual 118, 3), (146, .bipush 103, 2), (148, .if_icmp .ne 12, 3), (151, .aload_n 0, 1), (152, .getfield 38, 3), (155, .bipush 111, 2), (157, .if_icmp .ne 14, 3), (160, .aload 5, 2), (162, .dup, 1), (163, .getfield 358, 3), (166, .iconst 1, 1)]), 
  (177, [(167, .iadd, 1), (168, .putfield 358, 3), (171, .aload 5, 2), (173, .invokevirtual 351, 3), (176, .ireturn, 1)])]
set_option maxRecDepth 40000 in
theorem de_X6_move : en_De tb_X6_move cX6_move := by
  unfold en_De
  decide +kernel
def k_X6_move_0 : en_K := (5, ([.inr (.inl 0), .inl ((-2147483648), 2147483647, 0, 0), .inl (0, 65535, 0, 0), .inl ((-2147483648), 2147483647, 0, 0), .inl ((-2147483648), 2147483647, 0, 0)], []), [([.inr (.inl 0), .inl (0, 5, 0, 0), .inl (101, 119, 0, 0), .inl ((-2147483648), 2147483647, 0, 0), .inl ((-2147483648), 2147483647, 0, 0), .inl ((-2147483648), 2147483647, 0, 0)], [])], [(4, 1), (8, 1), (8, 6)], [0, 1, 2, 4, 5, 6, 7, 8], (3, 18), [0, 1, 2, 3])
def u_X6_move_0 : List en_U := []
def x_X6_move_0 : en_Cx := ((en_KT, en_TY0, en_om0), en_FTX6, en_PTX6, [(118, true, 9, 0, 0, k_X3_kindOf_0), (127, true, 12, 4, 0, k_X6_needPlayer_0), (167, true, 12, 4, 0, k_X6_needRound_0), (247, false, 0, 0, 1, k_X6_cellOrNone_0), (294, true, 6, 0, 0, k_X0_isAtRest_0), (338, true, 9, 0, 2, k_X3_isOpen_0), (351, true, 6, 0, 0, k_X0_scoreSoFar_0)], en_LTX6, en_LLX6, en_TTX6, en_ACX6)
def m_X6_move_0 : en_Mx := (k_X6_move_0, 3, 8, (0, 0), tb_X6_move, [])
set_option maxRecDepth 100000 in
theorem ck_X6_move_0 : en_all x_X6_move_0 m_X6_move_0 u_X6_move_0 62 = true := by decide +kernel
theorem ct_X6_move_0 {l : Launch} (hl : l.stackTraces = false) {PP : Int32 → Int32 → Prop} (hPP : en_P0 PP) (Ω : Nat → en_H → va_W → Prop) : en_Ctr l vwCl en_TY0 PP en_om0 Ω en_KT yX6_move (Cond.code yX6_move cX6_move 8 (some .int) :: en_cw) (en_rm 3 (3, 18)) 0 k_X6_move_0 :=
  en_main (X := x_X6_move_0) (M := m_X6_move_0) hPP en_f32_ok en_f64_ok hl (by decide +kernel) ⟨en_FTX6_ok, en_PTX6_ok, en_ac (⟨yX3_kindOf, RX3, cX3_kindOf, 2, (some .char), by decide, ct_X3_kindOf_0 hl hPP Ω, fun _ => ⟨gc_RX6_118v, by decide, _, rfl, rfl⟩, fun h => Bool.noConfusion h⟩) (en_ac (⟨yX6_needPlayer, RX6, cX6_needPlayer, 2, none, by decide, ct_X6_needPlayer_0 hl hPP Ω, fun _ => ⟨gc_RX6_127v, by decide, _, rfl, rfl⟩, fun h => Bool.noConfusion h⟩) (en_ac (⟨yX6_needRound, RX6, cX6_needRound, 1, none, by decide, ct_X6_needRound_0 hl hPP Ω, fun _ => ⟨gc_RX6_167v, by decide, _, rfl, rfl⟩, fun h => Bool.noConfusion h⟩) (en_ac (⟨yX6_cellOrNone, RX6, cX6_cellOrNone, 2, (some .int), by decide, ct_X6_cellOrNone_0 hl hPP Ω, fun h => Bool.noConfusion h, fun _ => gc_RX6_247s⟩) (en_ac (⟨yX0_isAtRest, RX0, cX0_isAtRest, 1, (some .boolean), by decide, ct_X0_isAtRest_0 hl hPP Ω, fun _ => ⟨gc_RX6_294v, by decide, _, rfl, rfl⟩, fun h => Bool.noConfusion h⟩) (en_ac (⟨yX3_isOpen, RX3, cX3_isOpen, 3, (some .boolean), by decide, ct_X3_isOpen_0 hl hPP Ω, fun _ => ⟨gc_RX6_338v, by decide, _, rfl, rfl⟩, fun h => Bool.noConfusion h⟩) (en_ac (⟨yX0_scoreSoFar, RX0, cX0_scoreSoFar, 1, (some .int), by decide, ct_X0_scoreSoFar_0 hl hPP Ω, fun _ => ⟨gc_RX6_351v, by decide, _, rfl, rfl⟩, fun h => Bool.noConfusion h⟩) en_an)))))), en_LTX6_ok, en_LLX6_ok, en_TTX6_ok hl, ⟨cw256, cw147⟩, en_ACX6_ok⟩ de_X6_move ck_X6_move_0
def tb_X6_howManyNotDone : en_Tb := [
  (28, [(0, .iconst 0, 1), (1, .istore_n 1, 1), (2, .iconst 0, 1), (3, .istore_n 2, 1), (4, .iload_n 2, 1), (5, .aload_n 0, 1), (6, .getfield 122, 3), (9, .if_icmp .ge 27, 3), (12, .aload_n 0, 1), (13, .getfield 18, 3), (16, .iload_n 2, 1), (17, .aaload, 1), (18, .getfield 185, 3), (21, .invokevirtual 280, 3), (24, .ifCond .ne 6, 3), (27, .iinc 1 1, 3)]), 
  (38, [(30, .iinc 2 1, 3), (33, .goto (-29), 3), (36, .iload_n 1, 1), (37, .ireturn, 1)])]
set_option maxRecDepth 40000 in
theorem de_X6_howManyNotDone : en_De tb_X6_howManyNotDone cX6_howManyNotDone := by
  unfold en_De
  decide +kernel
def k_X6_howManyNotDone_0 : en_K := (1, ([.inr (.inl 0)], []), [([.inr (.inl 0), .inl ((-2147483648), 2147483647, 0, 0)], [])], [], [0, 2, 7, 8], (0, 0), [])
def u_X6_howManyNotDone_0 : List en_U := [
  (4, ([.inr (.inl 0), .inl (0, 6, 0, 0), .inl ((-2147483648), 2147483647, 0, 0)], []), [(0, 0), (2, 1), (1, 2)], (0, 0), [((-2), 1)], 16)]
def x_X6_howManyNotDone_0 : en_Cx := ((en_KT, en_TY0, en_om0), en_FTX6, en_PTX6, [(280, true, 6, 0, 0, k_X0_isDone_0)], en_LTX6, en_LLX6, en_TTX6, en_ACX6)
def m_X6_howManyNotDone_0 : en_Mx := (k_X6_howManyNotDone_0, 1, 3, (0, 0), tb_X6_howManyNotDone, [])
set_option maxRecDepth 100000 in
theorem ck_X6_howManyNotDone_0 : en_all x_X6_howManyNotDone_0 m_X6_howManyNotDone_0 u_X6_howManyNotDone_0 17 = true := by decide +kernel
theorem ct_X6_howManyNotDone_0 {l : Launch} (hl : l.stackTraces = false) {PP : Int32 → Int32 → Prop} (hPP : en_P0 PP) (Ω : Nat → en_H → va_W → Prop) : en_Ctr l vwCl en_TY0 PP en_om0 Ω en_KT yX6_howManyNotDone (Cond.code yX6_howManyNotDone cX6_howManyNotDone 3 (some .int) :: en_cw) (en_rm 1 (0, 0)) 0 k_X6_howManyNotDone_0 :=
  en_main (X := x_X6_howManyNotDone_0) (M := m_X6_howManyNotDone_0) hPP en_f32_ok en_f64_ok hl (by decide +kernel) ⟨en_FTX6_ok, en_PTX6_ok, en_ac (⟨yX0_isDone, RX0, cX0_isDone, 1, (some .boolean), by decide, ct_X0_isDone_0 hl hPP Ω, fun _ => ⟨gc_RX6_280v, by decide, _, rfl, rfl⟩, fun h => Bool.noConfusion h⟩) en_an, en_LTX6_ok, en_LLX6_ok, en_TTX6_ok hl, ⟨cw256, cw147⟩, en_ACX6_ok⟩ de_X6_howManyNotDone ck_X6_howManyNotDone_0
def tb_X1_tell : en_Tb := [
  (28, [(0, .iload_n 1, 1), (1, .ifCond .lt 9, 3), (4, .iload_n 1, 1), (5, .bipush 9, 2), (7, .if_icmp .lt 4, 3), (10, .return_, 1), (11, .aload_n 2, 1), (12, .getfield 31, 3), (15, .bipush 104, 2), (17, .if_icmp .ne 7, 3), (20, .iconst 1, 1), (21, .goto 4, 3), (24, .iconst 0, 1), (25, .istore_n 3, 1), (26, .aload_n 0, 1), (27, .getfield 9, 3)]), 
  (58, [(30, .iload_n 1, 1), (31, .iload_n 3, 1), (32, .ifCond .eq 10, 3), (35, .aload_n 2, 1), (36, .invokevirtual 37, 3), (39, .goto 4, 3), (42, .iconst 0, 1), (43, .iastore, 1), (44, .aload_n 0, 1), (45, .getfield 15, 3), (48, .iload_n 1, 1), (49, .iload_n 3, 1), (50, .ifCond .eq 10, 3), (53, .aload_n 2, 1), (54, .getfield 41, 3), (57, .goto 4, 3)]), 
  (84, [(60, .iconst 0, 1), (61, .iastore, 1), (62, .aload_n 0, 1), (63, .getfield 18, 3), (66, .iload_n 1, 1), (67, .aload_n 0, 1), (68, .getfield 9, 3), (71, .iload_n 1, 1), (72, .iaload, 1), (73, .iastore, 1), (74, .aload_n 2, 1), (75, .getfield 44, 3), (78, .ifCond .eq 8, 3), (81, .aload_n 0, 1), (82, .iconst 1, 1), (83, .putfield 25, 3)]), 
  (87, [(86, .return_, 1)])]
set_option maxRecDepth 40000 in
theorem de_X1_tell : en_De tb_X1_tell cX1_tell := by
  unfold en_De
  decide +kernel
def k_X1_tell_0 : en_K := (3, ([.inr (.inl 9), .inl ((-2147483648), 2147483647, 0, 0), .inr (.inl 8)], []), [([.inr (.inl 9), .inl ((-2147483648), 2147483647, 0, 0), .inr (.inl 8)], [])], [(9, 4), (10, 0)], [8, 9, 10], (0, 0), [])
def u_X1_tell_0 : List en_U := []
def x_X1_tell_0 : en_Cx := ((en_KT, en_TY0, en_om0), en_FTX1, en_PTX1, [(37, true, 6, 0, 0, k_X0_scoreSoFar_0)], en_LTX1, en_LLX1, en_TTX1, en_ACX1)
def m_X1_tell_0 : en_Mx := (k_X1_tell_0, 1, 4, (4, 0), tb_X1_tell, [])
set_option maxRecDepth 100000 in
theorem ck_X1_tell_0 : en_all x_X1_tell_0 m_X1_tell_0 u_X1_tell_0 48 = true := by decide +kernel
theorem ct_X1_tell_0 {l : Launch} (hl : l.stackTraces = false) {PP : Int32 → Int32 → Prop} (hPP : en_P0 PP) (Ω : Nat → en_H → va_W → Prop) : en_Ctr l vwCl en_TY0 PP en_om0 Ω en_KT yX1_tell (Cond.code yX1_tell cX1_tell 4 none :: en_cw) (en_rm 1 (0, 0)) 4 k_X1_tell_0 :=
  en_main (X := x_X1_tell_0) (M := m_X1_tell_0) hPP en_f32_ok en_f64_ok hl (by decide +kernel) ⟨en_FTX1_ok, en_PTX1_ok, en_ac (⟨yX0_scoreSoFar, RX0, cX0_scoreSoFar, 1, (some .int), by decide, ct_X0_scoreSoFar_0 hl hPP Ω, fun _ => ⟨gc_RX1_37v, by decide, _, rfl, rfl⟩, fun h => Bool.noConfusion h⟩) en_an, en_LTX1_ok, en_LLX1_ok, en_TTX1_ok hl, ⟨cw256, cw147⟩, en_ACX1_ok⟩ de_X1_tell ck_X1_tell_0
def tb_X6_givenInMatch : en_Tb := [
  (26, [(0, .aload_n 0, 1), (1, .getfield 18, 3), (4, .iload_n 1, 1), (5, .aaload, 1), (6, .getfield 137, 3), (9, .aload_n 0, 1), (10, .getfield 18, 3), (13, .iload_n 2, 1), (14, .aaload, 1), (15, .getfield 137, 3), (18, .isub, 1), (19, .istore_n 3, 1), (20, .iload_n 3, 1), (21, .ifCond .le 15, 3), (24, .aload_n 0, 1), (25, .iload_n 3, 1)]), 
  (38, [(26, .aload_n 0, 1), (27, .getfield 170, 3), (30, .invokevirtual 140, 3), (33, .goto 4, 3), (36, .iconst 0, 1), (37, .ireturn, 1)])]
set_option maxRecDepth 40000 in
theorem de_X6_givenInMatch : en_De tb_X6_givenInMatch cX6_givenInMatch := by
  unfold en_De
  decide +kernel
def k_X6_givenInMatch_0 : en_K := (3, ([.inr (.inl 0), .inl (0, 5, 0, 0), .inl (0, 5, 0, 0)], []), [([.inr (.inl 0), .inl (0, 5, 0, 0), .inl (0, 5, 0, 0), .inl ((-2147483648), 2147483647, 0, 0)], [])], [], [0, 1, 2, 5, 7], (0, 0), [])
def u_X6_givenInMatch_0 : List en_U := []
def x_X6_givenInMatch_0 : en_Cx := ((en_KT, en_TY0, en_om0), en_FTX6, en_PTX6, [(140, true, 12, 0, 0, k_X6_strokesGiven_0)], en_LTX6, en_LLX6, en_TTX6, en_ACX6)
def m_X6_givenInMatch_0 : en_Mx := (k_X6_givenInMatch_0, 1, 4, (0, 0), tb_X6_givenInMatch, [])
set_option maxRecDepth 100000 in
theorem ck_X6_givenInMatch_0 : en_all x_X6_givenInMatch_0 m_X6_givenInMatch_0 u_X6_givenInMatch_0 24 = true := by decide +kernel
theorem ct_X6_givenInMatch_0 {l : Launch} (hl : l.stackTraces = false) {PP : Int32 → Int32 → Prop} (hPP : en_P0 PP) (Ω : Nat → en_H → va_W → Prop) : en_Ctr l vwCl en_TY0 PP en_om0 Ω en_KT yX6_givenInMatch (Cond.code yX6_givenInMatch cX6_givenInMatch 4 (some .int) :: en_cw) (en_rm 1 (0, 0)) 0 k_X6_givenInMatch_0 :=
  en_main (X := x_X6_givenInMatch_0) (M := m_X6_givenInMatch_0) hPP en_f32_ok en_f64_ok hl (by decide +kernel) ⟨en_FTX6_ok, en_PTX6_ok, en_ac (⟨yX6_strokesGiven, RX6, cX6_strokesGiven, 5, (some .int), by decide, ct_X6_strokesGiven_0 hl hPP Ω, fun _ => ⟨gc_RX6_140v, by decide, _, rfl, rfl⟩, fun h => Bool.noConfusion h⟩) en_an, en_LTX6_ok, en_LLX6_ok, en_TTX6_ok hl, ⟨cw256, cw147⟩, en_ACX6_ok⟩ de_X6_givenInMatch ck_X6_givenInMatch_0
def tb_X6_winsOfFirst : en_Tb := [
  (28, [(0, .aload_n 0, 1), (1, .getfield 18, 3), (4, .iconst 0, 1), (5, .aaload, 1), (6, .getfield 155, 3), (9, .aload_n 0, 1), (10, .getfield 170, 3), (13, .invokevirtual 422, 3), (16, .istore_n 1, 1), (17, .aload_n 0, 1), (18, .getfield 18, 3), (21, .iconst 1, 1), (22, .aaload, 1), (23, .getfield 155, 3), (26, .aload_n 0, 1), (27, .getfield 170, 3)]), 
  (56, [(30, .invokevirtual 422, 3), (33, .istore_n 2, 1), (34, .iload_n 1, 1), (35, .ifCond .eq 7, 3), (38, .iload_n 2, 1), (39, .ifCond .ne 9, 3), (42, .iload_n 1, 1), (43, .iload_n 2, 1), (44, .invokestatic 481, 3), (47, .ireturn, 1), (48, .iload_n 2, 1), (49, .aload_n 0, 1), (50, .iconst 1, 1), (51, .iconst 0, 1), (52, .invokevirtual 604, 3), (55, .isub, 1)]), 
  (68, [(56, .iload_n 1, 1), (57, .aload_n 0, 1), (58, .iconst 0, 1), (59, .iconst 1, 1), (60, .invokevirtual 604, 3), (63, .isub, 1), (64, .invokestatic 481, 3), (67, .ireturn, 1)])]
set_option maxRecDepth 40000 in
theorem de_X6_winsOfFirst : en_De tb_X6_winsOfFirst cX6_winsOfFirst := by
  unfold en_De
  decide +kernel
def k_X6_winsOfFirst_0 : en_K := (1, ([.inr (.inl 0)], []), [([.inr (.inl 0), .inl ((-1), (-1), 0, 0)], []), ([.inr (.inl 0), .inl (0, 0, 0, 0)], []), ([.inr (.inl 0), .inl (1, 1, 0, 0)], [])], [], [0, 1, 2, 5, 7, 9, 10], (0, 0), [])
def u_X6_winsOfFirst_0 : List en_U := []
def x_X6_winsOfFirst_0 : en_Cx := ((en_KT, en_TY0, en_om0), en_FTX6, en_PTX6, [(422, true, 7, 0, 0, k_X1_scoreOn_0), (481, false, 0, 0, 0, k_J6_compare_7cf53_0), (604, true, 12, 0, 1, k_X6_givenInMatch_0)], en_LTX6, en_LLX6, en_TTX6, en_ACX6)
def m_X6_winsOfFirst_0 : en_Mx := (k_X6_winsOfFirst_0, 2, 3, (0, 0), tb_X6_winsOfFirst, [])
set_option maxRecDepth 100000 in
theorem ck_X6_winsOfFirst_0 : en_all x_X6_winsOfFirst_0 m_X6_winsOfFirst_0 u_X6_winsOfFirst_0 39 = true := by decide +kernel
theorem ct_X6_winsOfFirst_0 {l : Launch} (hl : l.stackTraces = false) {PP : Int32 → Int32 → Prop} (hPP : en_P0 PP) (Ω : Nat → en_H → va_W → Prop) : en_Ctr l vwCl en_TY0 PP en_om0 Ω en_KT yX6_winsOfFirst (Cond.code yX6_winsOfFirst cX6_winsOfFirst 3 (some .int) :: en_cw) (en_rm 2 (0, 0)) 0 k_X6_winsOfFirst_0 :=
  en_main (X := x_X6_winsOfFirst_0) (M := m_X6_winsOfFirst_0) hPP en_f32_ok en_f64_ok hl (by decide +kernel) ⟨en_FTX6_ok, en_PTX6_ok, en_ac (⟨yX1_scoreOn, RX1, cX1_scoreOn, 2, (some .int), by decide, ct_X1_scoreOn_0 hl hPP Ω, fun _ => ⟨gc_RX6_422v, by decide, _, rfl, rfl⟩, fun h => Bool.noConfusion h⟩) (en_ac (⟨yJ6_compare_7cf53, RJ6, cJ6_compare_7cf53, 2, (some .int), by decide, ct_J6_compare_7cf53_0 hl hPP Ω, fun h => Bool.noConfusion h, fun _ => gc_RX6_481s⟩) (en_ac (⟨yX6_givenInMatch, RX6, cX6_givenInMatch, 4, (some .int), by decide, ct_X6_givenInMatch_0 hl hPP Ω, fun _ => ⟨gc_RX6_604v, by decide, _, rfl, rfl⟩, fun h => Bool.noConfusion h⟩) en_an)), en_LTX6_ok, en_LLX6_ok, en_TTX6_ok hl, ⟨cw256, cw147⟩, en_ACX6_ok⟩ de_X6_winsOfFirst ck_X6_winsOfFirst_0
def tb_X6_isHonourBefore : en_Tb := [
  (28, [(0, .aload_n 0, 1), (1, .getfield 18, 3), (4, .iload_n 1, 1), (5, .aaload, 1), (6, .getfield 155, 3), (9, .aload_n 0, 1), (10, .getfield 170, 3), (13, .invokevirtual 422, 3), (16, .istore_n 3, 1), (17, .aload_n 0, 1), (18, .getfield 18, 3), (21, .iload_n 2, 1), (22, .aaload, 1), (23, .getfield 155, 3), (26, .aload_n 0, 1), (27, .getfield 170, 3)]), 
  (56, [(30, .invokevirtual 422, 3), (33, .istore 4, 2), (35, .iload_n 3, 1), (36, .ifCond .eq 18, 3), (39, .iload 4, 2), (41, .ifCond .eq 9, 3), (44, .iload_n 3, 1), (45, .iload 4, 2), (47, .if_icmp .ge 7, 3), (50, .iconst 1, 1), (51, .goto 4, 3), (54, .iconst 0, 1), (55, .ireturn, 1)])]
set_option maxRecDepth 40000 in
theorem de_X6_isHonourBefore : en_De tb_X6_isHonourBefore cX6_isHonourBefore := by
  unfold en_De
  decide +kernel
def k_X6_isHonourBefore_0 : en_K := (3, ([.inr (.inl 0), .inl (0, 5, 0, 0), .inl (0, 5, 0, 0)], []), [([.inr (.inl 0), .inl (0, 5, 0, 0), .inl (0, 5, 0, 0), .inl (0, 0, 0, 0)], []), ([.inr (.inl 0), .inl (0, 5, 0, 0), .inl (0, 5, 0, 0), .inl (1, 1, 0, 0)], [])], [], [0, 2, 7, 9, 10], (0, 0), [])
def u_X6_isHonourBefore_0 : List en_U := []
def x_X6_isHonourBefore_0 : en_Cx := ((en_KT, en_TY0, en_om0), en_FTX6, en_PTX6, [(422, true, 7, 0, 0, k_X1_scoreOn_0)], en_LTX6, en_LLX6, en_TTX6, en_ACX6)
def m_X6_isHonourBefore_0 : en_Mx := (k_X6_isHonourBefore_0, 1, 5, (0, 2), tb_X6_isHonourBefore, [])
set_option maxRecDepth 100000 in
theorem ck_X6_isHonourBefore_0 : en_all x_X6_isHonourBefore_0 m_X6_isHonourBefore_0 u_X6_isHonourBefore_0 31 = true := by decide +kernel
theorem ct_X6_isHonourBefore_0 {l : Launch} (hl : l.stackTraces = false) {PP : Int32 → Int32 → Prop} (hPP : en_P0 PP) (Ω : Nat → en_H → va_W → Prop) : en_Ctr l vwCl en_TY0 PP en_om0 Ω en_KT yX6_isHonourBefore (Cond.code yX6_isHonourBefore cX6_isHonourBefore 5 (some .boolean) :: en_cw) (en_rm 1 (0, 0)) 0 k_X6_isHonourBefore_0 :=
  en_main (X := x_X6_isHonourBefore_0) (M := m_X6_isHonourBefore_0) hPP en_f32_ok en_f64_ok hl (by decide +kernel) ⟨en_FTX6_ok, en_PTX6_ok, en_ac (⟨yX1_scoreOn, RX1, cX1_scoreOn, 2, (some .int), by decide, ct_X1_scoreOn_0 hl hPP Ω, fun _ => ⟨gc_RX6_422v, by decide, _, rfl, rfl⟩, fun h => Bool.noConfusion h⟩) en_an, en_LTX6_ok, en_LLX6_ok, en_TTX6_ok hl, ⟨cw256, cw147⟩, en_ACX6_ok⟩ de_X6_isHonourBefore ck_X6_isHonourBefore_0
def tb_X6_orderHonour : en_Tb := [
  (24, [(0, .iconst 1, 1), (1, .istore_n 1, 1), (2, .iload_n 1, 1), (3, .aload_n 0, 1), (4, .getfield 122, 3), (7, .if_icmp .ge 65, 3), (10, .aload_n 0, 1), (11, .getfield 23, 3), (14, .iload_n 1, 1), (15, .iaload, 1), (16, .istore_n 2, 1), (17, .iload_n 1, 1), (18, .istore_n 3, 1), (19, .iload_n 3, 1), (20, .ifCond .le 39, 3), (23, .aload_n 0, 1)]), 
  (50, [(24, .iload_n 2, 1), (25, .aload_n 0, 1), (26, .getfield 23, 3), (29, .iload_n 3, 1), (30, .iconst 1, 1), (31, .isub, 1), (32, .iaload, 1), (33, .invokevirtual 597, 3), (36, .ifCond .eq 23, 3), (39, .aload_n 0, 1), (40, .getfield 23, 3), (43, .iload_n 3, 1), (44, .aload_n 0, 1), (45, .getfield 23, 3), (48, .iload_n 3, 1), (49, .iconst 1, 1)]), 
  (73, [(50, .isub, 1), (51, .iaload, 1), (52, .iastore, 1), (53, .iinc 3 (-1), 3), (56, .goto (-37), 3), (59, .aload_n 0, 1), (60, .getfield 23, 3), (63, .iload_n 3, 1), (64, .iload_n 2, 1), (65, .iastore, 1), (66, .iinc 1 1, 3), (69, .goto (-67), 3), (72, .return_, 1)])]
set_option maxRecDepth 40000 in
theorem de_X6_orderHonour : en_De tb_X6_orderHonour cX6_orderHonour := by
  unfold en_De
  decide +kernel
def k_X6_orderHonour_0 : en_K := (1, ([.inr (.inl 0)], []), [([.inr (.inl 0)], [])], [(3, 0)], [0, 2, 3, 7, 9, 10], (0, 0), [])
def u_X6_orderHonour_0 : List en_U := [
  (2, ([.inr (.inl 0), .inl (1, 6, 0, 0)], []), [(0, 0), (1, 1)], (0, 0), [((-17), 1)], 136), 
  (19, ([.inr (.inl 0), .inl (0, 5, 0, 0), .inl (1, 5, 0, 0), .inl (0, 5, 0, 0), .inl (2, 6, 0, 0)], [(0, 0, 5, 4, 0, 0)]), [(0, 0), (3, 1), (1, 2), (2, 3)], (0, 0), [((-17), 2), (2, 1)], 124)]
def x_X6_orderHonour_0 : en_Cx := ((en_KT, en_TY0, en_om0), en_FTX6, en_PTX6, [(597, true, 12, 0, 1, k_X6_isHonourBefore_0)], en_LTX6, en_LLX6, en_TTX6, en_ACX6)
def m_X6_orderHonour_0 : en_Mx := (k_X6_orderHonour_0, 2, 4, (4, 0), tb_X6_orderHonour, [])
set_option maxRecDepth 100000 in
theorem ck_X6_orderHonour_0 : en_all x_X6_orderHonour_0 m_X6_orderHonour_0 u_X6_orderHonour_0 27 = true := by decide +kernel
theorem ct_X6_orderHonour_0 {l : Launch} (hl : l.stackTraces = false) {PP : Int32 → Int32 → Prop} (hPP : en_P0 PP) (Ω : Nat → en_H → va_W → Prop) : en_Ctr l vwCl en_TY0 PP en_om0 Ω en_KT yX6_orderHonour (Cond.code yX6_orderHonour cX6_orderHonour 4 none :: en_cw) (en_rm 2 (0, 0)) 4 k_X6_orderHonour_0 :=
  en_main (X := x_X6_orderHonour_0) (M := m_X6_orderHonour_0) hPP en_f32_ok en_f64_ok hl (by decide +kernel) ⟨en_FTX6_ok, en_PTX6_ok, en_ac (⟨yX6_isHonourBefore, RX6, cX6_isHonourBefore, 5, (some .boolean), by decide, ct_X6_isHonourBefore_0 hl hPP Ω, fun _ => ⟨gc_RX6_597v, by decide, _, rfl, rfl⟩, fun h => Bool.noConfusion h⟩) en_an, en_LTX6_ok, en_LLX6_ok, en_TTX6_ok hl, ⟨cw256, cw147⟩, en_ACX6_ok⟩ de_X6_orderHonour ck_X6_orderHonour_0
def tb_X6_nextHole : en_Tb := [
  (30, [(0, .aload_n 0, 1), (1, .invokevirtual 167, 3), (4, .aload_n 0, 1), (5, .invokevirtual 365, 3), (8, .ifCond .le 14, 3), (11, .new 74, 3), (14, .dup, 1), (15, .ldc_w 399, 3), (18, .invokespecial 78, 3), (21, .athrow, 1), (22, .iconst 0, 1), (23, .istore_n 1, 1), (24, .iload_n 1, 1), (25, .aload_n 0, 1), (26, .getfield 122, 3), (29, .if_icmp .ge 34, 3)]), 
  (64, [(32, .aload_n 0, 1), (33, .getfield 18, 3), (36, .iload_n 1, 1), (37, .aaload, 1), (38, .getfield 155, 3), (41, .aload_n 0, 1), (42, .getfield 170, 3), (45, .aload_n 0, 1), (46, .getfield 18, 3), (49, .iload_n 1, 1), (50, .aaload, 1), (51, .getfield 185, 3), (54, .invokevirtual 401, 3), (57, .iinc 1 1, 3), (60, .goto (-36), 3), (63, .aload_n 0, 1)]), 
  (96, [(64, .invokevirtual 196, 3), (67, .ifCond .eq 14, 3), (70, .aload_n 0, 1), (71, .getfield 30, 3), (74, .aload_n 0, 1), (75, .invokevirtual 405, 3), (78, .invokevirtual 408, 3), (81, .aload_n 0, 1), (82, .invokevirtual 411, 3), (85, .aload_n 0, 1), (86, .getfield 170, 3), (89, .iconst 1, 1), (90, .iadd, 1), (91, .aload_n 0, 1), (92, .getfield 62, 3), (95, .if_icmp .ge 18, 3)]), 
  (123, [(98, .aload_n 0, 1), (99, .aload_n 0, 1), (100, .getfield 170, 3), (103, .iconst 1, 1), (104, .iadd, 1), (105, .invokevirtual 164, 3), (108, .aload_n 0, 1), (109, .getfield 170, 3), (112, .ireturn, 1), (113, .aload_n 0, 1), (114, .iconst 0, 1), (115, .putfield 132, 3), (118, .aload_n 0, 1), (119, .getfield 62, 3), (122, .ireturn, 1)])]
set_option maxRecDepth 40000 in
theorem de_X6_nextHole : en_De tb_X6_nextHole cX6_nextHole := by
  unfold en_De
  decide +kernel
def k_X6_nextHole_0 : en_K := (1, ([.inr (.inl 0)], []), [([.inr (.inl 0), .inl (0, 9, 0, 0)], [])], [(0, 11), (0, 13), (3, 0), (4, 1), (4, 2), (4, 3), (4, 4), (8, 0), (8, 1), (8, 2), (8, 3), (8, 4), (8, 5), (8, 6), (8, 7), (8, 9), (8, 10), (9, 4), (10, 0)], [0, 1, 2, 3, 4, 5, 7, 8, 9, 10], (2, 12), [1, 2])
def u_X6_nextHole_0 : List en_U := [
  (24, ([.inr (.inl 0), .inl (0, 6, 0, 0)], []), [(0, 0), (1, 1)], (1, 6), [((-2), 1)], 16)]
def x_X6_nextHole_0 : en_Cx := ((en_KT, en_TY0, en_om0), en_FTX6, en_PTX6, [(164, true, 12, 4, 1, k_X6_startHole_0), (167, true, 12, 4, 0, k_X6_needRound_0), (196, true, 12, 0, 0, k_X6_isMatch_0), (365, true, 12, 0, 1, k_X6_howManyNotDone_0), (401, true, 7, 4, 1, k_X1_tell_0), (405, true, 12, 0, 2, k_X6_winsOfFirst_0), (408, true, 10, 4, 0, k_X4_count_0), (411, true, 12, 4, 2, k_X6_orderHonour_0)], en_LTX6, en_LLX6, en_TTX6, en_ACX6)
def m_X6_nextHole_0 : en_Mx := (k_X6_nextHole_0, 3, 2, (0, 0), tb_X6_nextHole, [])
set_option maxRecDepth 100000 in
theorem ck_X6_nextHole_0 : en_all x_X6_nextHole_0 m_X6_nextHole_0 u_X6_nextHole_0 33 = true := by decide +kernel
theorem ct_X6_nextHole_0 {l : Launch} (hl : l.stackTraces = false) {PP : Int32 → Int32 → Prop} (hPP : en_P0 PP) (Ω : Nat → en_H → va_W → Prop) : en_Ctr l vwCl en_TY0 PP en_om0 Ω en_KT yX6_nextHole (Cond.code yX6_nextHole cX6_nextHole 2 (some .int) :: en_cw) (en_rm 3 (2, 12)) 0 k_X6_nextHole_0 :=
  en_main (X := x_X6_nextHole_0) (M := m_X6_nextHole_0) hPP en_f32_ok en_f64_ok hl (by decide +kernel) ⟨en_FTX6_ok, en_PTX6_ok, en_ac (⟨yX6_startHole, RX6, cX6_startHole, 3, none, by decide, ct_X6_startHole_0 hl hPP Ω, fun _ => ⟨gc_RX6_164v, by decide, _, rfl, rfl⟩, fun h => Bool.noConfusion h⟩) (en_ac (⟨yX6_needRound, RX6, cX6_needRound, 1, none, by decide, ct_X6_needRound_0 hl hPP Ω, fun _ => ⟨gc_RX6_167v, by decide, _, rfl, rfl⟩, fun h => Bool.noConfusion h⟩) (en_ac (⟨yX6_isMatch, RX6, cX6_isMatch, 1, (some .boolean), by decide, ct_X6_isMatch_0 hl hPP Ω, fun _ => ⟨gc_RX6_196v, by decide, _, rfl, rfl⟩, fun h => Bool.noConfusion h⟩) (en_ac (⟨yX6_howManyNotDone, RX6, cX6_howManyNotDone, 3, (some .int), by decide, ct_X6_howManyNotDone_0 hl hPP Ω, fun _ => ⟨gc_RX6_365v, by decide, _, rfl, rfl⟩, fun h => Bool.noConfusion h⟩) (en_ac (⟨yX1_tell, RX1, cX1_tell, 4, none, by decide, ct_X1_tell_0 hl hPP Ω, fun _ => ⟨gc_RX6_401v, by decide, _, rfl, rfl⟩, fun h => Bool.noConfusion h⟩) (en_ac (⟨yX6_winsOfFirst, RX6, cX6_winsOfFirst, 3, (some .int), by decide, ct_X6_winsOfFirst_0 hl hPP Ω, fun _ => ⟨gc_RX6_405v, by decide, _, rfl, rfl⟩, fun h => Bool.noConfusion h⟩) (en_ac (⟨yX4_count, RX4, cX4_count, 2, none, by decide, ct_X4_count_0 hl hPP Ω, fun _ => ⟨gc_RX6_408v, by decide, _, rfl, rfl⟩, fun h => Bool.noConfusion h⟩) (en_ac (⟨yX6_orderHonour, RX6, cX6_orderHonour, 4, none, by decide, ct_X6_orderHonour_0 hl hPP Ω, fun _ => ⟨gc_RX6_411v, by decide, _, rfl, rfl⟩, fun h => Bool.noConfusion h⟩) en_an))))))), en_LTX6_ok, en_LLX6_ok, en_TTX6_ok hl, ⟨cw256, cw147⟩, en_ACX6_ok⟩ de_X6_nextHole ck_X6_nextHole_0
